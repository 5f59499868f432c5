/-! ===== THE REFERENCE reads ===== -/
section Md2
variable {M : Mem} {a : Nat → Nat} {f : Nat → Int32} {Q : Int32 → Mem → Prop}
theorem m_size (x y : Nat) (hx : x < 4096) (hy : y < 4096) : T_X7_size Q (I x - I y) M = Q (I (ad x y)) M := by
  unfold T_X7_size T_X7_size_10 ad
  by_cases h : y ≤ x
  · rw [I_sub h, if_pos (by rw [I_0, I_le (by omega) (by omega)]; omega)]
    rw [show y - x = 0 by omega, Nat.add_zero]
  · have e : I x - I y = -(I (y - x)) := by
      apply Int32.toInt_inj.mp
      rw [Int32.toInt_sub, Int32.toInt_neg, ti_I (by omega), ti_I (by omega), ti_I (by omega)]
      congr 1; omega
    have e2 : (I x - I y).toInt < 0 := by
      rw [Int32.toInt_sub, ti_I (by omega), ti_I (by omega)]
      rw [Int.bmod_eq_of_le (by omega) (by omega)]; omega
    rw [if_neg (by rw [le_ti, I_0, ti_I (by omega)]; omega), e, Int32.neg_neg]
    rw [show x - y = 0 by omega, Nat.zero_add]
theorem m_far (hb : ∀ k, a k < 4096) {r w : Nat} (hr : r < 100) (hw : w < 4096) : T_X7_far Q 1582 (I r) (I w) (mm M a f) = Q (I (ad (a (54 + r)) w)) (mm M a f) := by
  unfold T_X7_far
  simp (disch := first | exact lt4 (hb _) | exact hb _ | omega) only [I_0, I_1, I_2, I_3, I_4, I_5, I_6, I_7, I_8, I_9, I_10, I_11, I_12, I_20, I_22, I_27, I_31, I_32, I_38, I_42, I_48, I_54, I_55, I_56, I_57, I_60, I_66, I_72, I_78, I_80, I_97, I_98, I_99, I_100, I_108, I_109, I_116, I_120, I_438, I_488, I_512, I_552, I_3864, oN_s, oN_n, bI_t, bI_f, Nat.add_zero, I_bt1, I_bt0, Nat.reduceLT, Nat.reduceLeDiff, Nat.reduceEqDiff, Nat.reduceAdd, Nat.reduceMul, Nat.reduceSub, tn_I, I_add, I_mul, I_div, vp_I, I_eq, I_le, I_lt, I_no, no_I, negI1, kd7, rf71, kdS, lnS, mm_sa, mm_fa, mm_ms, mm_mf, true_and, and_true, false_and, and_false, if_true, if_false, ite_true, ite_false, forall_eq, true_or, or_true, show 54 + r < 552 by omega]
  exact m_size _ _ (hb _) hw
theorem m_ahead (hb : ∀ k, a k < 4096) {x y i : Nat} (hx : x < 100) (hy : y < 100) (hi : i < 100) : T_X7_isAhead Q 1582 (I x) (I y) (I i) (mm M a f) = Q (bI (ahd a x y i)) (mm M a f) := by
  have h1 : ad (a (54 + x)) (a (12 + i)) < 10000 := by have := hb (54 + x); have := hb (12 + i); unfold ad; omega
  have h2 : ad (a (54 + y)) (a (12 + i)) < 10000 := by have := hb (54 + y); have := hb (12 + i); unfold ad; omega
  unfold T_X7_isAhead T_X7_isAhead_112 T_X7_isAhead_51 ahd
  simp (disch := first | exact lt4 (hb _) | exact hb _ | omega) only [I_0, I_1, I_2, I_3, I_4, I_5, I_6, I_7, I_8, I_9, I_10, I_11, I_12, I_20, I_22, I_27, I_31, I_32, I_38, I_42, I_48, I_54, I_55, I_56, I_57, I_60, I_66, I_72, I_78, I_80, I_97, I_98, I_99, I_100, I_108, I_109, I_116, I_120, I_438, I_488, I_512, I_552, I_3864, oN_s, oN_n, bI_t, bI_f, Nat.add_zero, I_bt1, I_bt0, Nat.reduceLT, Nat.reduceLeDiff, Nat.reduceEqDiff, Nat.reduceAdd, Nat.reduceMul, Nat.reduceSub, tn_I, I_add, I_mul, I_div, vp_I, I_eq, I_le, I_lt, I_no, no_I, negI1, kd7, rf71, kdS, lnS, mm_sa, mm_fa, mm_ms, mm_mf, true_and, and_true, false_and, and_false, if_true, if_false, ite_true, ite_false, forall_eq, true_or, or_true, show 12 + i < 552 by omega, show 60 + x < 552 by omega, show 60 + y < 552 by omega, m_far hb hx (hb _), m_far hb hy (hb _)]
  by_cases c1 : ad (a (54 + x)) (a (12 + i)) = ad (a (54 + y)) (a (12 + i))
  · rw [if_pos c1, if_pos c1]
    by_cases c2 : a (60 + x) = a (60 + y)
    · rw [if_pos c2, if_pos c2]
      by_cases c3 : x < y
      · rw [if_neg (by omega), decide_eq_true c3]; rfl
      · rw [if_pos (by omega), decide_eq_false c3]; rfl
    · rw [if_neg c2, if_neg c2]
      by_cases c3 : a (60 + x) < a (60 + y)
      · rw [if_neg (by omega), decide_eq_true c3]; rfl
      · rw [if_pos (by omega), decide_eq_false c3]; rfl
  · rw [if_neg c1, if_neg c1]
    by_cases c3 : ad (a (54 + x)) (a (12 + i)) < ad (a (54 + y)) (a (12 + i))
    · rw [if_neg (by omega), decide_eq_true c3]; rfl
    · rw [if_pos (by omega), decide_eq_false c3]; rfl
theorem l_ord1 (hb : ∀ k, a k < 4096) (hn : a 3 ≤ 6) {κ : Nat → Int32 → Int32 → Int32 → Mem → Prop} {i p r : Nat} (hi : i < 100) (hr : r < 100) (hp : p < 100) (h : if rnk a i r = p then Q (I r) (mm M a f) else κ 1582 (I i) (I p) (I (r + 1)) (mm M a f)) : ∀ m k, k + m = a 3 → T_X7_orderedRoom_18 κ Q (m + 1) 1582 (I i) (I p) (I r) (I (sm (fun q => if q ≠ r ∧ ahd a q r i = true then 1 else 0) k)) (I k) (mm M a f) := by
  intro m
  induction m with
  | zero =>
    intro k hk
    obtain rfl : k = a 3 := by omega
    unfold T_X7_orderedRoom_18
    have h9 := sm_le (f := fun q => if q ≠ r ∧ ahd a q r i = true then 1 else 0) (c := 1) (fun k => by show (if _ then 1 else 0) ≤ 1; split <;> omega) (a 3)
    have h8 := hb 3
    simp (disch := first | exact lt4 (hb _) | exact hb _ | omega) only [I_0, I_1, I_2, I_3, I_4, I_5, I_6, I_7, I_8, I_9, I_10, I_11, I_12, I_20, I_22, I_27, I_31, I_32, I_38, I_42, I_48, I_54, I_55, I_56, I_57, I_60, I_66, I_72, I_78, I_80, I_97, I_98, I_99, I_100, I_108, I_109, I_116, I_120, I_438, I_488, I_512, I_552, I_3864, oN_s, oN_n, bI_t, bI_f, Nat.add_zero, I_bt1, I_bt0, Nat.reduceLT, Nat.reduceLeDiff, Nat.reduceEqDiff, Nat.reduceAdd, Nat.reduceMul, Nat.reduceSub, tn_I, I_add, I_mul, I_div, vp_I, I_eq, I_le, I_lt, I_no, no_I, negI1, kd7, rf71, kdS, lnS, mm_sa, mm_fa, mm_ms, mm_mf, true_and, and_true, false_and, and_false, if_true, if_false, ite_true, ite_false, forall_eq, true_or, or_true, Nat.le_refl]
    exact h
  | succ m ih =>
    intro k hk
    unfold T_X7_orderedRoom_18
    have h9 := ih (k + 1) (by omega)
    have h8 := hb 3
    by_cases c : k = r
    · subst c
      simp (disch := first | exact lt4 (hb _) | exact hb _ | omega) only [I_0, I_1, I_2, I_3, I_4, I_5, I_6, I_7, I_8, I_9, I_10, I_11, I_12, I_20, I_22, I_27, I_31, I_32, I_38, I_42, I_48, I_54, I_55, I_56, I_57, I_60, I_66, I_72, I_78, I_80, I_97, I_98, I_99, I_100, I_108, I_109, I_116, I_120, I_438, I_488, I_512, I_552, I_3864, oN_s, oN_n, bI_t, bI_f, Nat.add_zero, I_bt1, I_bt0, Nat.reduceLT, Nat.reduceLeDiff, Nat.reduceEqDiff, Nat.reduceAdd, Nat.reduceMul, Nat.reduceSub, tn_I, I_add, I_mul, I_div, vp_I, I_eq, I_le, I_lt, I_no, no_I, negI1, kd7, rf71, kdS, lnS, mm_sa, mm_fa, mm_ms, mm_mf, true_and, and_true, false_and, and_false, if_true, if_false, ite_true, ite_false, forall_eq, true_or, or_true, show ¬ a 3 ≤ k by omega]
      unfold T_X7_orderedRoom_52 T_X7_orderedRoom_53
      simp (disch := first | exact lt4 (hb _) | exact hb _ | omega) only [I_0, I_1, I_2, I_3, I_4, I_5, I_6, I_7, I_8, I_9, I_10, I_11, I_12, I_20, I_22, I_27, I_31, I_32, I_38, I_42, I_48, I_54, I_55, I_56, I_57, I_60, I_66, I_72, I_78, I_80, I_97, I_98, I_99, I_100, I_108, I_109, I_116, I_120, I_438, I_488, I_512, I_552, I_3864, oN_s, oN_n, bI_t, bI_f, Nat.add_zero, I_bt1, I_bt0, Nat.reduceLT, Nat.reduceLeDiff, Nat.reduceEqDiff, Nat.reduceAdd, Nat.reduceMul, Nat.reduceSub, tn_I, I_add, I_mul, I_div, vp_I, I_eq, I_le, I_lt, I_no, no_I, negI1, kd7, rf71, kdS, lnS, mm_sa, mm_fa, mm_ms, mm_mf, true_and, and_true, false_and, and_false, if_true, if_false, ite_true, ite_false, forall_eq, true_or, or_true]
      simpa [sm] using h9
    · simp (disch := first | exact lt4 (hb _) | exact hb _ | omega) only [I_0, I_1, I_2, I_3, I_4, I_5, I_6, I_7, I_8, I_9, I_10, I_11, I_12, I_20, I_22, I_27, I_31, I_32, I_38, I_42, I_48, I_54, I_55, I_56, I_57, I_60, I_66, I_72, I_78, I_80, I_97, I_98, I_99, I_100, I_108, I_109, I_116, I_120, I_438, I_488, I_512, I_552, I_3864, oN_s, oN_n, bI_t, bI_f, Nat.add_zero, I_bt1, I_bt0, Nat.reduceLT, Nat.reduceLeDiff, Nat.reduceEqDiff, Nat.reduceAdd, Nat.reduceMul, Nat.reduceSub, tn_I, I_add, I_mul, I_div, vp_I, I_eq, I_le, I_lt, I_no, no_I, negI1, kd7, rf71, kdS, lnS, mm_sa, mm_fa, mm_ms, mm_mf, true_and, and_true, false_and, and_false, if_true, if_false, ite_true, ite_false, forall_eq, true_or, or_true, show ¬ a 3 ≤ k by omega, c, m_ahead hb (show k < 100 by omega) hr hi]
      by_cases c2 : ahd a k r i = true
      · rw [c2, bI_t]
        unfold T_X7_orderedRoom_53
        simp (disch := first | exact lt4 (hb _) | exact hb _ | omega) only [I_0, I_1, I_2, I_3, I_4, I_5, I_6, I_7, I_8, I_9, I_10, I_11, I_12, I_20, I_22, I_27, I_31, I_32, I_38, I_42, I_48, I_54, I_55, I_56, I_57, I_60, I_66, I_72, I_78, I_80, I_97, I_98, I_99, I_100, I_108, I_109, I_116, I_120, I_438, I_488, I_512, I_552, I_3864, oN_s, oN_n, bI_t, bI_f, Nat.add_zero, I_bt1, I_bt0, Nat.reduceLT, Nat.reduceLeDiff, Nat.reduceEqDiff, Nat.reduceAdd, Nat.reduceMul, Nat.reduceSub, tn_I, I_add, I_mul, I_div, vp_I, I_eq, I_le, I_lt, I_no, no_I, negI1, kd7, rf71, kdS, lnS, mm_sa, mm_fa, mm_ms, mm_mf, true_and, and_true, false_and, and_false, if_true, if_false, ite_true, ite_false, forall_eq, true_or, or_true]
        simpa [sm, c, c2] using h9
      · have c3 : ahd a k r i = false := by simpa using c2
        rw [c3, bI_f]
        unfold T_X7_orderedRoom_52 T_X7_orderedRoom_53
        simp (disch := first | exact lt4 (hb _) | exact hb _ | omega) only [I_0, I_1, I_2, I_3, I_4, I_5, I_6, I_7, I_8, I_9, I_10, I_11, I_12, I_20, I_22, I_27, I_31, I_32, I_38, I_42, I_48, I_54, I_55, I_56, I_57, I_60, I_66, I_72, I_78, I_80, I_97, I_98, I_99, I_100, I_108, I_109, I_116, I_120, I_438, I_488, I_512, I_552, I_3864, oN_s, oN_n, bI_t, bI_f, Nat.add_zero, I_bt1, I_bt0, Nat.reduceLT, Nat.reduceLeDiff, Nat.reduceEqDiff, Nat.reduceAdd, Nat.reduceMul, Nat.reduceSub, tn_I, I_add, I_mul, I_div, vp_I, I_eq, I_le, I_lt, I_no, no_I, negI1, kd7, rf71, kdS, lnS, mm_sa, mm_fa, mm_ms, mm_mf, true_and, and_true, false_and, and_false, if_true, if_false, ite_true, ite_false, forall_eq, true_or, or_true]
        simpa [sm, c, c3] using h9
theorem l_ord2 (hb : ∀ k, a k < 4096) (hn : a 3 ≤ 6) {i p : Nat} (hi : i < 100) (hp : p < 100) : ∀ m k, k + m = a 3 → Q (oN (fnd (fun r => decide (rnk a i r = p)) m k)) (mm M a f) → T_X7_orderedRoom_2 Q (m + 1) 1582 (I i) (I p) (I k) (mm M a f) := by
  intro m
  induction m with
  | zero =>
    intro k hk
    intro h
    unfold T_X7_orderedRoom_2
    have h8 := hb 3
    simp (disch := first | exact lt4 (hb _) | exact hb _ | omega) only [I_0, I_1, I_2, I_3, I_4, I_5, I_6, I_7, I_8, I_9, I_10, I_11, I_12, I_20, I_22, I_27, I_31, I_32, I_38, I_42, I_48, I_54, I_55, I_56, I_57, I_60, I_66, I_72, I_78, I_80, I_97, I_98, I_99, I_100, I_108, I_109, I_116, I_120, I_438, I_488, I_512, I_552, I_3864, oN_s, oN_n, bI_t, bI_f, Nat.add_zero, I_bt1, I_bt0, Nat.reduceLT, Nat.reduceLeDiff, Nat.reduceEqDiff, Nat.reduceAdd, Nat.reduceMul, Nat.reduceSub, tn_I, I_add, I_mul, I_div, vp_I, I_eq, I_le, I_lt, I_no, no_I, negI1, kd7, rf71, kdS, lnS, mm_sa, mm_fa, mm_ms, mm_mf, true_and, and_true, false_and, and_false, if_true, if_false, ite_true, ite_false, forall_eq, true_or, or_true, show a 3 ≤ k by omega]
    exact h
  | succ m ih =>
    intro k hk
    intro h
    unfold T_X7_orderedRoom_2
    have h8 := hb 3
    simp (disch := first | exact lt4 (hb _) | exact hb _ | omega) only [I_0, I_1, I_2, I_3, I_4, I_5, I_6, I_7, I_8, I_9, I_10, I_11, I_12, I_20, I_22, I_27, I_31, I_32, I_38, I_42, I_48, I_54, I_55, I_56, I_57, I_60, I_66, I_72, I_78, I_80, I_97, I_98, I_99, I_100, I_108, I_109, I_116, I_120, I_438, I_488, I_512, I_552, I_3864, oN_s, oN_n, bI_t, bI_f, Nat.add_zero, I_bt1, I_bt0, Nat.reduceLT, Nat.reduceLeDiff, Nat.reduceEqDiff, Nat.reduceAdd, Nat.reduceMul, Nat.reduceSub, tn_I, I_add, I_mul, I_div, vp_I, I_eq, I_le, I_lt, I_no, no_I, negI1, kd7, rf71, kdS, lnS, mm_sa, mm_fa, mm_ms, mm_mf, true_and, and_true, false_and, and_false, if_true, if_false, ite_true, ite_false, forall_eq, true_or, or_true, show ¬ a 3 ≤ k by omega]
    refine ⟨a 3 + 1, l_ord1 hb hn hi (by omega) hp ?_ (a 3) 0 (by omega)⟩
    unfold fnd at h
    by_cases c : rnk a i k = p
    · rw [if_pos c]
      rw [if_pos (by simpa using c)] at h
      exact h
    · rw [if_neg c]
      rw [if_neg (by simpa using c)] at h
      exact ih (k + 1) (by omega) h
theorem m_ordR (hb : ∀ k, a k < 4096) (hn : a 3 ≤ 6) {i p : Nat} (hi : i < 100) (hp : p < 100) (h : Q (oN (ordR a i p)) (mm M a f)) : T_X7_orderedRoom Q 1582 (I i) (I p) (mm M a f) := by
  unfold T_X7_orderedRoom
  rw [I_0]
  exact ⟨a 3 + 1, l_ord2 hb hn hi hp (a 3) 0 (by omega) h⟩
theorem l_used (hV : VA a) {d t : Nat} (hd : d < 4096) (ht : t < 4096) (h : Q (I (used a d t)) (mm M a f)) : ∀ m k, k + m = a 4 → T_X7_usedRooms_5 Q (m + 1) 1582 (I d) (I t) (I (ors (fun v => if isI3 a v d t then 2 ^ a (78 + 6 * v + 4) else 0) k)) (I k) (mm M a f) := by
  intro m
  induction m with
  | zero =>
    intro k hk
    obtain rfl : k = a 4 := by omega
    have hb := hV.1
    unfold T_X7_usedRooms_5
    simp (disch := first | exact lt4 (hb _) | exact hb _ | omega) only [I_0, I_1, I_2, I_3, I_4, I_5, I_6, I_7, I_8, I_9, I_10, I_11, I_12, I_20, I_22, I_27, I_31, I_32, I_38, I_42, I_48, I_54, I_55, I_56, I_57, I_60, I_66, I_72, I_78, I_80, I_97, I_98, I_99, I_100, I_108, I_109, I_116, I_120, I_438, I_488, I_512, I_552, I_3864, oN_s, oN_n, bI_t, bI_f, Nat.add_zero, I_bt1, I_bt0, Nat.reduceLT, Nat.reduceLeDiff, Nat.reduceEqDiff, Nat.reduceAdd, Nat.reduceMul, Nat.reduceSub, tn_I, I_add, I_mul, I_div, vp_I, I_eq, I_le, I_lt, I_no, no_I, negI1, kd7, rf71, kdS, lnS, mm_sa, mm_fa, mm_ms, mm_mf, true_and, and_true, false_and, and_false, if_true, if_false, ite_true, ite_false, forall_eq, true_or, or_true, Nat.le_refl]
    exact h
  | succ m ih =>
    intro k hk
    have hb := hV.1
    have hn := hV.2.1.2.2.2.2.1
    have hr := (hV.2.2.2.2.2.1 k (by omega)).2.2.2.2.1
    have hr6 := hV.2.1.2.2.2.1
    unfold T_X7_usedRooms_5
    have h9 := ih (k + 1) (by omega)
    by_cases c : isI3 a k d t
    · simp (disch := first | exact lt4 (hb _) | exact hb _ | omega) only [I_0, I_1, I_2, I_3, I_4, I_5, I_6, I_7, I_8, I_9, I_10, I_11, I_12, I_20, I_22, I_27, I_31, I_32, I_38, I_42, I_48, I_54, I_55, I_56, I_57, I_60, I_66, I_72, I_78, I_80, I_97, I_98, I_99, I_100, I_108, I_109, I_116, I_120, I_438, I_488, I_512, I_552, I_3864, oN_s, oN_n, bI_t, bI_f, Nat.add_zero, I_bt1, I_bt0, Nat.reduceLT, Nat.reduceLeDiff, Nat.reduceEqDiff, Nat.reduceAdd, Nat.reduceMul, Nat.reduceSub, tn_I, I_add, I_mul, I_div, vp_I, I_eq, I_le, I_lt, I_no, no_I, negI1, kd7, rf71, kdS, lnS, mm_sa, mm_fa, mm_ms, mm_mf, true_and, and_true, false_and, and_false, if_true, if_false, ite_true, ite_false, forall_eq, true_or, or_true, show ¬ a 4 ≤ k by omega, m_isIn hb (show k < 60 by omega) hd ht, c, m_of hb (show k < 60 by omega) (show 4 < 6 by decide), I_shl (show a (78 + 6 * k + 4) < 31 by omega)]
      unfold T_X7_usedRooms_41
      simp (disch := first | exact lt4 (hb _) | exact hb _ | omega) only [I_0, I_1, I_2, I_3, I_4, I_5, I_6, I_7, I_8, I_9, I_10, I_11, I_12, I_20, I_22, I_27, I_31, I_32, I_38, I_42, I_48, I_54, I_55, I_56, I_57, I_60, I_66, I_72, I_78, I_80, I_97, I_98, I_99, I_100, I_108, I_109, I_116, I_120, I_438, I_488, I_512, I_552, I_3864, oN_s, oN_n, bI_t, bI_f, Nat.add_zero, I_bt1, I_bt0, Nat.reduceLT, Nat.reduceLeDiff, Nat.reduceEqDiff, Nat.reduceAdd, Nat.reduceMul, Nat.reduceSub, tn_I, I_add, I_mul, I_div, vp_I, I_eq, I_le, I_lt, I_no, no_I, negI1, kd7, rf71, kdS, lnS, mm_sa, mm_fa, mm_ms, mm_mf, true_and, and_true, false_and, and_false, if_true, if_false, ite_true, ite_false, forall_eq, true_or, or_true, I_or]
      simpa [ors, if_pos c] using h9
    · simp (disch := first | exact lt4 (hb _) | exact hb _ | omega) only [I_0, I_1, I_2, I_3, I_4, I_5, I_6, I_7, I_8, I_9, I_10, I_11, I_12, I_20, I_22, I_27, I_31, I_32, I_38, I_42, I_48, I_54, I_55, I_56, I_57, I_60, I_66, I_72, I_78, I_80, I_97, I_98, I_99, I_100, I_108, I_109, I_116, I_120, I_438, I_488, I_512, I_552, I_3864, oN_s, oN_n, bI_t, bI_f, Nat.add_zero, I_bt1, I_bt0, Nat.reduceLT, Nat.reduceLeDiff, Nat.reduceEqDiff, Nat.reduceAdd, Nat.reduceMul, Nat.reduceSub, tn_I, I_add, I_mul, I_div, vp_I, I_eq, I_le, I_lt, I_no, no_I, negI1, kd7, rf71, kdS, lnS, mm_sa, mm_fa, mm_ms, mm_mf, true_and, and_true, false_and, and_false, if_true, if_false, ite_true, ite_false, forall_eq, true_or, or_true, show ¬ a 4 ≤ k by omega, m_isIn hb (show k < 60 by omega) hd ht, c]
      unfold T_X7_usedRooms_41
      simp (disch := first | exact lt4 (hb _) | exact hb _ | omega) only [I_0, I_1, I_2, I_3, I_4, I_5, I_6, I_7, I_8, I_9, I_10, I_11, I_12, I_20, I_22, I_27, I_31, I_32, I_38, I_42, I_48, I_54, I_55, I_56, I_57, I_60, I_66, I_72, I_78, I_80, I_97, I_98, I_99, I_100, I_108, I_109, I_116, I_120, I_438, I_488, I_512, I_552, I_3864, oN_s, oN_n, bI_t, bI_f, Nat.add_zero, I_bt1, I_bt0, Nat.reduceLT, Nat.reduceLeDiff, Nat.reduceEqDiff, Nat.reduceAdd, Nat.reduceMul, Nat.reduceSub, tn_I, I_add, I_mul, I_div, vp_I, I_eq, I_le, I_lt, I_no, no_I, negI1, kd7, rf71, kdS, lnS, mm_sa, mm_fa, mm_ms, mm_mf, true_and, and_true, false_and, and_false, if_true, if_false, ite_true, ite_false, forall_eq, true_or, or_true, I_or]
      simpa [ors, if_neg c] using h9
theorem m_used (hV : VA a) {d t : Nat} (hd : d < 4096) (ht : t < 4096) (h : Q (I (used a d t)) (mm M a f)) : T_X7_usedRooms Q 1582 (I d) (I t) (mm M a f) := by
  unfold T_X7_usedRooms
  rw [I_0]
  exact ⟨a 4 + 1, l_used hV hd ht h (a 4) 0 (by omega)⟩
end Md2

