/-! ===== THE REFERENCE rehouses one visit ===== -/
section Rh1
variable {M : Mem} {a : Nat → Nat} {f : Nat → Int32}
theorem chg_n {v : Nat} (h : rmV a v = none) : chg a v = (cnl a v 2, 1) := by unfold chg; rw [h]
theorem chg_e {v : Nat} (h : rmV a v = some (a (78 + 6 * v + 4))) : chg a v = (a, 0) := by unfold chg; rw [h]; exact if_pos rfl
theorem chg_d {v r : Nat} (h : rmV a v = some r) (c : r ≠ a (78 + 6 * v + 4)) : chg a v = (nt (updN a (78 + 6 * v + 4) r) v 0, 1) := by unfold chg; rw [h]; exact if_neg c
theorem m_chg {Q : Mem → Prop} (hG : GS a) {v n : Nat} {v1 v2 : Int32} (hv : v < a 4) (h5 : a (78 + 6 * v + 5) = 0)
    (h : ∀ f' : Nat → Int32, (∀ k, k ≠ 12 → f' k = f k) → f' 12 = f 12 + I (chg a v).2 → T_X7_rehouses_105 (T_X7_rehouses_8 Q n) Q 1582 v1 v2 (I v) (mm M (chg a v).1 f')) : T_X7_rehouses_8 Q (n + 1) 1582 v1 v2 (I v) (mm M a f) := by
  have hV := hG.1
  have hb := hV.1
  have h4 := hV.2.1.2.2.2.2.1
  have h1 := hV.2.1.2.1
  have h7 := hV.2.1.2.2.2.2.2.2.2.1
  have h3 := hV.2.1.2.2.2.1
  have hv60 : v < 60 := by omega
  have hvs := hV.2.2.2.2.2.1 v hv
  have hV3 : VA (updN a (78 + 6 * v + 5) 3) := VA_st hV (by decide) hv60
  have hb3 := hV3.1
  have e0 : updN a (78 + 6 * v + 5) 3 (78 + 6 * v) = a (78 + 6 * v) := updN_n (by omega)
  have e1 : updN a (78 + 6 * v + 5) 3 (78 + 6 * v + 1) = a (78 + 6 * v + 1) := updN_n (by omega)
  have e2 : updN a (78 + 6 * v + 5) 3 (78 + 6 * v + 2) = a (78 + 6 * v + 2) := updN_n (by omega)
  have e3 : updN a (78 + 6 * v + 5) 3 (78 + 6 * v + 3) = a (78 + 6 * v + 3) := updN_n (by omega)
  have eu : updN (updN a (78 + 6 * v + 5) 3) (78 + 6 * v + 5) 0 = a := by
    funext k
    by_cases q : k = 78 + 6 * v + 5
    · subst q; rw [updN_s, h5]
    · rw [updN_n q, updN_n q]
  have hrm : rmF (updN a (78 + 6 * v + 5) 3) (a (78 + 6 * v)) (pc (a (78 + 6 * v + 1))) (a (78 + 6 * v + 2)) (a (78 + 6 * v + 3)) = (match rmV a v with | some r => I r | none => if anyB (fun r => poss (updN a (78 + 6 * v + 5) 3) r (a (78 + 6 * v)) (pc (a (78 + 6 * v + 1))) (a (78 + 6 * v + 2)) (a (78 + 6 * v + 3))) (updN a (78 + 6 * v + 5) 3 3) = true then -(I 2) else NO) := by
    rw [rmF_is hV3, Eb_rmB (Eb_st hv60 (show 3 ≠ 0 by decide) (show 2 ≠ 0 by decide)) hV3 (by omega)]
    rfl
  have hpc := pc_le (a (78 + 6 * v + 1))
  have hb1 := hb (78 + 6 * v + 1)
  have hb2 := hb (78 + 6 * v + 2)
  have hb33 := hb (78 + 6 * v + 3)
  unfold T_X7_rehouses_8
  simp (disch := first | exact lt4 (hb _) | exact hb _ | omega) only [I_0, I_1, I_2, I_3, I_4, I_5, I_6, I_7, I_8, I_9, I_10, I_11, I_12, I_20, I_22, I_27, I_31, I_32, I_38, I_42, I_48, I_54, I_55, I_56, I_57, I_60, I_66, I_72, I_78, I_80, I_97, I_98, I_99, I_100, I_108, I_109, I_116, I_120, I_438, I_488, I_512, I_552, I_3864, oN_s, oN_n, bI_t, bI_f, Nat.add_zero, I_bt1, I_bt0, Nat.reduceLT, Nat.reduceLeDiff, Nat.reduceEqDiff, Nat.reduceAdd, Nat.reduceMul, Nat.reduceSub, tn_I, I_add, I_mul, I_div, vp_I, I_eq, I_le, I_lt, I_no, no_I, negI1, kd7, rf71, kdS, lnS, mm_sa, mm_fa, mm_ms, mm_mf, true_and, and_true, false_and, and_false, if_true, if_false, ite_true, ite_false, forall_eq, true_or, or_true, m_setState hb hv60, m_of hb3 hv60, e0, e1, e2, e3]
  refine m_bits hb1 ?_
  simp (disch := first | exact lt4 (hb _) | exact hb _ | omega) only [I_0, I_1, I_2, I_3, I_4, I_5, I_6, I_7, I_8, I_9, I_10, I_11, I_12, I_20, I_22, I_27, I_31, I_32, I_38, I_42, I_48, I_54, I_55, I_56, I_57, I_60, I_66, I_72, I_78, I_80, I_97, I_98, I_99, I_100, I_108, I_109, I_116, I_120, I_438, I_488, I_512, I_552, I_3864, oN_s, oN_n, bI_t, bI_f, Nat.add_zero, I_bt1, I_bt0, Nat.reduceLT, Nat.reduceLeDiff, Nat.reduceEqDiff, Nat.reduceAdd, Nat.reduceMul, Nat.reduceSub, tn_I, I_add, I_mul, I_div, vp_I, I_eq, I_le, I_lt, I_no, no_I, negI1, kd7, rf71, kdS, lnS, mm_sa, mm_fa, mm_ms, mm_mf, true_and, and_true, false_and, and_false, if_true, if_false, ite_true, ite_false, forall_eq, true_or, or_true, m_of hb3 hv60, e2, e3]
  refine m_rmF hV3 (by omega) (by omega) hb2 hb33 ?_
  rw [hrm]
  have hm0 : ∀ Q' : Mem → Prop, T_X7_setState Q' 1582 (I v) (I 0) (mm M (updN a (78 + 6 * v + 5) 3) f) = Q' (mm M a f) := fun Q' => by rw [m_setState hb3 hv60, eu]
  cases hr : rmV a v with
  | none =>
    rw [chg_n hr] at h
    have hneg : ∀ x : Int32, (x = -(I 2) ∨ x = NO) → ¬ (I 0 ≤ x) := by
      rintro x (rfl | rfl) <;> decide
    simp (disch := first | exact lt4 (hb _) | exact hb _ | omega) only [I_0, I_1, I_2, I_3, I_4, I_5, I_6, I_7, I_8, I_9, I_10, I_11, I_12, I_20, I_22, I_27, I_31, I_32, I_38, I_42, I_48, I_54, I_55, I_56, I_57, I_60, I_66, I_72, I_78, I_80, I_97, I_98, I_99, I_100, I_108, I_109, I_116, I_120, I_438, I_488, I_512, I_552, I_3864, oN_s, oN_n, bI_t, bI_f, Nat.add_zero, I_bt1, I_bt0, Nat.reduceLT, Nat.reduceLeDiff, Nat.reduceEqDiff, Nat.reduceAdd, Nat.reduceMul, Nat.reduceSub, tn_I, I_add, I_mul, I_div, vp_I, I_eq, I_le, I_lt, I_no, no_I, negI1, kd7, rf71, kdS, lnS, mm_sa, mm_fa, mm_ms, mm_mf, true_and, and_true, false_and, and_false, if_true, if_false, ite_true, ite_false, forall_eq, true_or, or_true, hm0]
    rw [if_neg (hneg _ (by split <;> simp))]
    exact m_cancels hb h7 hv60 (h _ (fun k hk => updI_n hk) (by rw [updI_s]; rfl))
  | some r =>
    have hr6 : r < a 3 := by
      have := (rmB_sp hr).1
      rw [updN_n (by omega)] at this
      exact this
    by_cases c : r = a (78 + 6 * v + 4)
    · subst c
      rw [chg_e hr] at h
      have hz : (0 ≤ a (78 + 6 * v + 4)) = True := by simp
      simp (disch := first | exact lt4 (hb _) | exact hb _ | omega) only [I_0, I_1, I_2, I_3, I_4, I_5, I_6, I_7, I_8, I_9, I_10, I_11, I_12, I_20, I_22, I_27, I_31, I_32, I_38, I_42, I_48, I_54, I_55, I_56, I_57, I_60, I_66, I_72, I_78, I_80, I_97, I_98, I_99, I_100, I_108, I_109, I_116, I_120, I_438, I_488, I_512, I_552, I_3864, oN_s, oN_n, bI_t, bI_f, Nat.add_zero, I_bt1, I_bt0, Nat.reduceLT, Nat.reduceLeDiff, Nat.reduceEqDiff, Nat.reduceAdd, Nat.reduceMul, Nat.reduceSub, tn_I, I_add, I_mul, I_div, vp_I, I_eq, I_le, I_lt, I_no, no_I, negI1, kd7, rf71, kdS, lnS, mm_sa, mm_fa, mm_ms, mm_mf, true_and, and_true, false_and, and_false, if_true, if_false, ite_true, ite_false, forall_eq, true_or, or_true, hm0, m_of hb hv60, hz]
      exact h f (fun _ _ => rfl) (by show f 12 = f 12 + I 0; rw [← I_0, Int32.add_zero])
    · rw [chg_d hr c] at h
      have hz : (0 ≤ r) = True := by simp
      simp (disch := first | exact lt4 (hb _) | exact hb _ | omega) only [I_0, I_1, I_2, I_3, I_4, I_5, I_6, I_7, I_8, I_9, I_10, I_11, I_12, I_20, I_22, I_27, I_31, I_32, I_38, I_42, I_48, I_54, I_55, I_56, I_57, I_60, I_66, I_72, I_78, I_80, I_97, I_98, I_99, I_100, I_108, I_109, I_116, I_120, I_438, I_488, I_512, I_552, I_3864, oN_s, oN_n, bI_t, bI_f, Nat.add_zero, I_bt1, I_bt0, Nat.reduceLT, Nat.reduceLeDiff, Nat.reduceEqDiff, Nat.reduceAdd, Nat.reduceMul, Nat.reduceSub, tn_I, I_add, I_mul, I_div, vp_I, I_eq, I_le, I_lt, I_no, no_I, negI1, kd7, rf71, kdS, lnS, mm_sa, mm_fa, mm_ms, mm_mf, true_and, and_true, false_and, and_false, if_true, if_false, ite_true, ite_false, forall_eq, true_or, or_true, hm0, m_of hb hv60, hz, c, show 78 + 6 * v + 4 < 552 by omega]
      exact m_notes (updN_lt hb (by omega)) (by rw [updN_n (by omega)]; exact h7) (h _ (fun k hk => updI_n hk) (by rw [updI_s]; rfl))
end Rh1

