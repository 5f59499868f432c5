/-! ===== A PAIR IS PARTED: the class ===== -/
section Pt3
variable {M : Mem} {a : Nat → Nat} {f : Nat → Int32}
theorem visO_bk (hG : GS a) {x v : Nat} (hv : v < a 4) (h5 : a (78 + 6 * v + 5) = 0) (h0 : a (78 + 6 * v) = x) : visO a x (a (78 + 6 * v + 2)) (a (78 + 6 * v + 3)) = some v := by
  refine fnd_s (Nat.zero_le _) (by omega) ?_ (fun q z1 z2 => ?_)
  · rw [decide_eq_true (show isI3 a v (a (78 + 6 * v + 2)) (a (78 + 6 * v + 3)) from ⟨h5, rfl, rfl⟩), decide_eq_true h0]; rfl
  · by_cases g : isI3 a q (a (78 + 6 * v + 2)) (a (78 + 6 * v + 3))
    · by_cases g2 : a (78 + 6 * q) = x
      · exfalso
        exact (hG.2.1 q v (by omega) hv (by omega) g.1 h5 g.2.1 g.2.2).1 (g2.trans h0.symm)
      · rw [decide_eq_false g2, Bool.and_false]
    · rw [decide_eq_false g, Bool.false_and]
theorem k_vst_l {Q : Int32 → Mem → Prop} (hV : VA a) (hS : St 1 a M) {v y : Nat} {l : Int64} (hv : v < a 4) (hl : ∀ u, u < 64 → bq l u = wq a 0 y u) :
    ∀ m k, k + m = a 4 → Q (oN (fnd (fun w => decide (isI3 a w (a (78 + 6 * v + 2)) (a (78 + 6 * v + 3))) && decide (a (78 + 6 * w) = y)) m k)) M → T_X0_visitAtSameTime_27 Q (m + 1) 1545 (39 + v) l (I k) M := by
  have hb := hV.1
  have h4 := hV.2.1.2.2.2.2.1
  have hv60 : v < 60 := by omega
  intro m
  induction m with
  | zero =>
    intro k hk h
    unfold T_X0_visitAtSameTime_27
    simp (disch := first | exact lt4 (hb _) | exact hb _ | omega) only [I_0, I_1, I_2, I_3, I_4, I_5, I_6, I_7, I_8, I_9, I_10, I_11, I_12, I_20, I_22, I_27, I_31, I_32, I_38, I_42, I_48, I_54, I_55, I_56, I_57, I_60, I_66, I_72, I_78, I_80, I_97, I_98, I_99, I_100, I_108, I_109, I_116, I_120, I_438, I_488, I_512, I_552, I_3864, oN_s, oN_n, bI_t, bI_f, Nat.add_zero, I_bt1, I_bt0, Nat.reduceLT, Nat.reduceLeDiff, Nat.reduceEqDiff, Nat.reduceAdd, Nat.reduceMul, Nat.reduceSub, tn_I, I_add, I_mul, I_div, vp_I, I_eq, I_le, I_lt, I_no, no_I, negI1, true_and, and_true, false_and, and_false, if_true, if_false, ite_true, ite_false, forall_eq, true_or, or_true, kn_0, kn_1, kn_2, kn_3, kn_4, kn_15, kn_16, kn_29, kn_30, kn_37, kn_38, kn_99, kn_100, kn_111, kn_112, kn_119, kn_120, kn_281, kn_282, kn_1543, kn_1544, kn_1545, kn_1546, kn_1547, kn_1551, kn_1552, kn_1553, kn_1554, lnn_2, lnn_4, lnn_16, lnn_30, lnn_38, lnn_100, lnn_112, lnn_120, lnn_282, lnn_1544, lnn_1547, lnn_1552, lnn_1554, rn_1_1, rn_1_2, rn_1_3, rn_1_4, rn_1_5, rn_1_6, rn_1_7, rn_1_8, rn_3_0, rn_15_0, rn_29_0, rn_37_0, rn_99_0, rn_111_0, rn_119_0, rn_1543_0, rn_1543_1, rn_1545_0, rn_1545_1, rn_0_0, rn_0_1, rn_0_3, rn_0_4, rn_0_5, rn_0_6, rn_0_7, rn_1546_0, rn_1551_0, rn_1551_3, rn_1553_0, rn_281_0, rr_4, rr_16, rr_30, rr_38, rr_100, rr_112, rr_120, rr_1547, rr_1554, kr_4, kr_16, kr_30, kr_38, kr_100, kr_112, kr_120, kr_1547, kr_1554, lr_4, lr_16, lr_30, lr_38, lr_100, lr_112, lr_120, lr_1547, lr_1554, s_d hS, s_q hS, s_ni hS, s_nk hS, s_nr hS, s_nv hS, s_nb hS, s_nw hS, s_nn hS, s_i0 hS, s_i1 hS, s_i2 hS, s_k hS, s_r0 hS, s_r1 hS, s_r2 hS, s_r3 hS, s_v0 hS, s_v1 hS, s_v2 hS, s_v3 hS, s_v4 hS, s_v5 hS, s_b0 hS, s_b1 hS, s_b2 hS, s_b3 hS, s_b4 hS, s_w0 hS, s_w1 hS, s_w2 hS, s_w3 hS, s_n0 hS, s_n1 hS, show a 4 ≤ k by omega]
    exact h
  | succ m ih =>
    intro k hk h
    have hk4 : k < a 4 := by omega
    have hk60 : k < 60 := by omega
    have ht := bq_test (x := l) (show k < 64 by omega)
    rw [I_0, hl k (by omega)] at ht
    unfold T_X0_visitAtSameTime_27 T_X0_visitAtSameTime_92
    cases hq : wq a 0 y k with
    | false =>
      rw [hq] at ht
      have hp : (fun w => decide (isI3 a w (a (78 + 6 * v + 2)) (a (78 + 6 * v + 3))) && decide (a (78 + 6 * w) = y)) k = false := by
        unfold wq at hq
        rw [decide_eq_true hk4, Bool.true_and, Nat.add_zero] at hq
        show (decide (isI3 a k _ _) && decide (a (78 + 6 * k) = y)) = false
        by_cases g5 : a (78 + 6 * k + 5) = 0
        · rw [decide_eq_true g5, Bool.true_and] at hq
          rw [show decide (a (78 + 6 * k) = y) = false from hq, Bool.and_false]
        · rw [decide_eq_false (fun z : isI3 a k _ _ => g5 z.1), Bool.false_and]
      rw [fnd_1 hp] at h
      simp (disch := first | exact lt4 (hb _) | exact hb _ | omega) only [I_0, I_1, I_2, I_3, I_4, I_5, I_6, I_7, I_8, I_9, I_10, I_11, I_12, I_20, I_22, I_27, I_31, I_32, I_38, I_42, I_48, I_54, I_55, I_56, I_57, I_60, I_66, I_72, I_78, I_80, I_97, I_98, I_99, I_100, I_108, I_109, I_116, I_120, I_438, I_488, I_512, I_552, I_3864, oN_s, oN_n, bI_t, bI_f, Nat.add_zero, I_bt1, I_bt0, Nat.reduceLT, Nat.reduceLeDiff, Nat.reduceEqDiff, Nat.reduceAdd, Nat.reduceMul, Nat.reduceSub, tn_I, I_add, I_mul, I_div, vp_I, I_eq, I_le, I_lt, I_no, no_I, negI1, true_and, and_true, false_and, and_false, if_true, if_false, ite_true, ite_false, forall_eq, true_or, or_true, kn_0, kn_1, kn_2, kn_3, kn_4, kn_15, kn_16, kn_29, kn_30, kn_37, kn_38, kn_99, kn_100, kn_111, kn_112, kn_119, kn_120, kn_281, kn_282, kn_1543, kn_1544, kn_1545, kn_1546, kn_1547, kn_1551, kn_1552, kn_1553, kn_1554, lnn_2, lnn_4, lnn_16, lnn_30, lnn_38, lnn_100, lnn_112, lnn_120, lnn_282, lnn_1544, lnn_1547, lnn_1552, lnn_1554, rn_1_1, rn_1_2, rn_1_3, rn_1_4, rn_1_5, rn_1_6, rn_1_7, rn_1_8, rn_3_0, rn_15_0, rn_29_0, rn_37_0, rn_99_0, rn_111_0, rn_119_0, rn_1543_0, rn_1543_1, rn_1545_0, rn_1545_1, rn_0_0, rn_0_1, rn_0_3, rn_0_4, rn_0_5, rn_0_6, rn_0_7, rn_1546_0, rn_1551_0, rn_1551_3, rn_1553_0, rn_281_0, rr_4, rr_16, rr_30, rr_38, rr_100, rr_112, rr_120, rr_1547, rr_1554, kr_4, kr_16, kr_30, kr_38, kr_100, kr_112, kr_120, kr_1547, kr_1554, lr_4, lr_16, lr_30, lr_38, lr_100, lr_112, lr_120, lr_1547, lr_1554, s_d hS, s_q hS, s_ni hS, s_nk hS, s_nr hS, s_nv hS, s_nb hS, s_nw hS, s_nn hS, s_i0 hS, s_i1 hS, s_i2 hS, s_k hS, s_r0 hS, s_r1 hS, s_r2 hS, s_r3 hS, s_v0 hS, s_v1 hS, s_v2 hS, s_v3 hS, s_v4 hS, s_v5 hS, s_b0 hS, s_b1 hS, s_b2 hS, s_b3 hS, s_b4 hS, s_w0 hS, s_w1 hS, s_w2 hS, s_w3 hS, s_n0 hS, s_n1 hS, show ¬ a 4 ≤ k by omega, hk60, ht]
      exact ih (k + 1) (by omega) h
    | true =>
      rw [hq] at ht
      unfold wq at hq
      simp only [Bool.and_eq_true, decide_eq_true_eq, Nat.add_zero] at hq
      have ht' : (lg_cmp (((Int64.toUInt64 l >>> ((Int32.toInt64 (I k)).toUInt64 &&& Int64.toUInt64 63)).toInt64) &&& 1) 0 = I 0) = False := by rw [ht]; exact propext ⟨fun z => Bool.noConfusion z, False.elim⟩
      have hne : ∀ (g : ¬ (a (78 + 6 * k + 2) = a (78 + 6 * v + 2) ∧ a (78 + 6 * k + 3) = a (78 + 6 * v + 3))), (fun w => decide (isI3 a w (a (78 + 6 * v + 2)) (a (78 + 6 * v + 3))) && decide (a (78 + 6 * w) = y)) k = false := fun g => by
        show (decide (isI3 a k _ _) && decide (a (78 + 6 * k) = y)) = false
        rw [decide_eq_false (fun z : isI3 a k _ _ => g z.2), Bool.false_and]
      by_cases g2 : a (78 + 6 * k + 2) = a (78 + 6 * v + 2)
      · by_cases g3 : a (78 + 6 * k + 3) = a (78 + 6 * v + 3)
        · have hf : fnd (fun w => decide (isI3 a w (a (78 + 6 * v + 2)) (a (78 + 6 * v + 3))) && decide (a (78 + 6 * w) = y)) (m + 1) k = some k := fnd_s (Nat.le_refl _) (by omega) (by
            show (decide (isI3 a k _ _) && decide (a (78 + 6 * k) = y)) = true
            rw [decide_eq_true (show isI3 a k _ _ from ⟨hq.2.1, g2, g3⟩), decide_eq_true hq.2.2]; rfl) (fun q z1 z2 => by omega)
          rw [hf] at h
          simp (disch := first | exact lt4 (hb _) | exact hb _ | omega) only [I_0, I_1, I_2, I_3, I_4, I_5, I_6, I_7, I_8, I_9, I_10, I_11, I_12, I_20, I_22, I_27, I_31, I_32, I_38, I_42, I_48, I_54, I_55, I_56, I_57, I_60, I_66, I_72, I_78, I_80, I_97, I_98, I_99, I_100, I_108, I_109, I_116, I_120, I_438, I_488, I_512, I_552, I_3864, oN_s, oN_n, bI_t, bI_f, Nat.add_zero, I_bt1, I_bt0, Nat.reduceLT, Nat.reduceLeDiff, Nat.reduceEqDiff, Nat.reduceAdd, Nat.reduceMul, Nat.reduceSub, tn_I, I_add, I_mul, I_div, vp_I, I_eq, I_le, I_lt, I_no, no_I, negI1, true_and, and_true, false_and, and_false, if_true, if_false, ite_true, ite_false, forall_eq, true_or, or_true, kn_0, kn_1, kn_2, kn_3, kn_4, kn_15, kn_16, kn_29, kn_30, kn_37, kn_38, kn_99, kn_100, kn_111, kn_112, kn_119, kn_120, kn_281, kn_282, kn_1543, kn_1544, kn_1545, kn_1546, kn_1547, kn_1551, kn_1552, kn_1553, kn_1554, lnn_2, lnn_4, lnn_16, lnn_30, lnn_38, lnn_100, lnn_112, lnn_120, lnn_282, lnn_1544, lnn_1547, lnn_1552, lnn_1554, rn_1_1, rn_1_2, rn_1_3, rn_1_4, rn_1_5, rn_1_6, rn_1_7, rn_1_8, rn_3_0, rn_15_0, rn_29_0, rn_37_0, rn_99_0, rn_111_0, rn_119_0, rn_1543_0, rn_1543_1, rn_1545_0, rn_1545_1, rn_0_0, rn_0_1, rn_0_3, rn_0_4, rn_0_5, rn_0_6, rn_0_7, rn_1546_0, rn_1551_0, rn_1551_3, rn_1553_0, rn_281_0, rr_4, rr_16, rr_30, rr_38, rr_100, rr_112, rr_120, rr_1547, rr_1554, kr_4, kr_16, kr_30, kr_38, kr_100, kr_112, kr_120, kr_1547, kr_1554, lr_4, lr_16, lr_30, lr_38, lr_100, lr_112, lr_120, lr_1547, lr_1554, s_d hS, s_q hS, s_ni hS, s_nk hS, s_nr hS, s_nv hS, s_nb hS, s_nw hS, s_nn hS, s_i0 hS, s_i1 hS, s_i2 hS, s_k hS, s_r0 hS, s_r1 hS, s_r2 hS, s_r3 hS, s_v0 hS, s_v1 hS, s_v2 hS, s_v3 hS, s_v4 hS, s_v5 hS, s_b0 hS, s_b1 hS, s_b2 hS, s_b3 hS, s_b4 hS, s_w0 hS, s_w1 hS, s_w2 hS, s_w3 hS, s_n0 hS, s_n1 hS, show ¬ a 4 ≤ k by omega, hk60, hv60, ht', g2, g3]
          exact h
        · rw [fnd_1 (hne (fun z => g3 z.2))] at h
          simp (disch := first | exact lt4 (hb _) | exact hb _ | omega) only [I_0, I_1, I_2, I_3, I_4, I_5, I_6, I_7, I_8, I_9, I_10, I_11, I_12, I_20, I_22, I_27, I_31, I_32, I_38, I_42, I_48, I_54, I_55, I_56, I_57, I_60, I_66, I_72, I_78, I_80, I_97, I_98, I_99, I_100, I_108, I_109, I_116, I_120, I_438, I_488, I_512, I_552, I_3864, oN_s, oN_n, bI_t, bI_f, Nat.add_zero, I_bt1, I_bt0, Nat.reduceLT, Nat.reduceLeDiff, Nat.reduceEqDiff, Nat.reduceAdd, Nat.reduceMul, Nat.reduceSub, tn_I, I_add, I_mul, I_div, vp_I, I_eq, I_le, I_lt, I_no, no_I, negI1, true_and, and_true, false_and, and_false, if_true, if_false, ite_true, ite_false, forall_eq, true_or, or_true, kn_0, kn_1, kn_2, kn_3, kn_4, kn_15, kn_16, kn_29, kn_30, kn_37, kn_38, kn_99, kn_100, kn_111, kn_112, kn_119, kn_120, kn_281, kn_282, kn_1543, kn_1544, kn_1545, kn_1546, kn_1547, kn_1551, kn_1552, kn_1553, kn_1554, lnn_2, lnn_4, lnn_16, lnn_30, lnn_38, lnn_100, lnn_112, lnn_120, lnn_282, lnn_1544, lnn_1547, lnn_1552, lnn_1554, rn_1_1, rn_1_2, rn_1_3, rn_1_4, rn_1_5, rn_1_6, rn_1_7, rn_1_8, rn_3_0, rn_15_0, rn_29_0, rn_37_0, rn_99_0, rn_111_0, rn_119_0, rn_1543_0, rn_1543_1, rn_1545_0, rn_1545_1, rn_0_0, rn_0_1, rn_0_3, rn_0_4, rn_0_5, rn_0_6, rn_0_7, rn_1546_0, rn_1551_0, rn_1551_3, rn_1553_0, rn_281_0, rr_4, rr_16, rr_30, rr_38, rr_100, rr_112, rr_120, rr_1547, rr_1554, kr_4, kr_16, kr_30, kr_38, kr_100, kr_112, kr_120, kr_1547, kr_1554, lr_4, lr_16, lr_30, lr_38, lr_100, lr_112, lr_120, lr_1547, lr_1554, s_d hS, s_q hS, s_ni hS, s_nk hS, s_nr hS, s_nv hS, s_nb hS, s_nw hS, s_nn hS, s_i0 hS, s_i1 hS, s_i2 hS, s_k hS, s_r0 hS, s_r1 hS, s_r2 hS, s_r3 hS, s_v0 hS, s_v1 hS, s_v2 hS, s_v3 hS, s_v4 hS, s_v5 hS, s_b0 hS, s_b1 hS, s_b2 hS, s_b3 hS, s_b4 hS, s_w0 hS, s_w1 hS, s_w2 hS, s_w3 hS, s_n0 hS, s_n1 hS, show ¬ a 4 ≤ k by omega, hk60, hv60, ht', g2, g3]
          exact ih (k + 1) (by omega) h
      · rw [fnd_1 (hne (fun z => g2 z.1))] at h
        simp (disch := first | exact lt4 (hb _) | exact hb _ | omega) only [I_0, I_1, I_2, I_3, I_4, I_5, I_6, I_7, I_8, I_9, I_10, I_11, I_12, I_20, I_22, I_27, I_31, I_32, I_38, I_42, I_48, I_54, I_55, I_56, I_57, I_60, I_66, I_72, I_78, I_80, I_97, I_98, I_99, I_100, I_108, I_109, I_116, I_120, I_438, I_488, I_512, I_552, I_3864, oN_s, oN_n, bI_t, bI_f, Nat.add_zero, I_bt1, I_bt0, Nat.reduceLT, Nat.reduceLeDiff, Nat.reduceEqDiff, Nat.reduceAdd, Nat.reduceMul, Nat.reduceSub, tn_I, I_add, I_mul, I_div, vp_I, I_eq, I_le, I_lt, I_no, no_I, negI1, true_and, and_true, false_and, and_false, if_true, if_false, ite_true, ite_false, forall_eq, true_or, or_true, kn_0, kn_1, kn_2, kn_3, kn_4, kn_15, kn_16, kn_29, kn_30, kn_37, kn_38, kn_99, kn_100, kn_111, kn_112, kn_119, kn_120, kn_281, kn_282, kn_1543, kn_1544, kn_1545, kn_1546, kn_1547, kn_1551, kn_1552, kn_1553, kn_1554, lnn_2, lnn_4, lnn_16, lnn_30, lnn_38, lnn_100, lnn_112, lnn_120, lnn_282, lnn_1544, lnn_1547, lnn_1552, lnn_1554, rn_1_1, rn_1_2, rn_1_3, rn_1_4, rn_1_5, rn_1_6, rn_1_7, rn_1_8, rn_3_0, rn_15_0, rn_29_0, rn_37_0, rn_99_0, rn_111_0, rn_119_0, rn_1543_0, rn_1543_1, rn_1545_0, rn_1545_1, rn_0_0, rn_0_1, rn_0_3, rn_0_4, rn_0_5, rn_0_6, rn_0_7, rn_1546_0, rn_1551_0, rn_1551_3, rn_1553_0, rn_281_0, rr_4, rr_16, rr_30, rr_38, rr_100, rr_112, rr_120, rr_1547, rr_1554, kr_4, kr_16, kr_30, kr_38, kr_100, kr_112, kr_120, kr_1547, kr_1554, lr_4, lr_16, lr_30, lr_38, lr_100, lr_112, lr_120, lr_1547, lr_1554, s_d hS, s_q hS, s_ni hS, s_nk hS, s_nr hS, s_nv hS, s_nb hS, s_nw hS, s_nn hS, s_i0 hS, s_i1 hS, s_i2 hS, s_k hS, s_r0 hS, s_r1 hS, s_r2 hS, s_r3 hS, s_v0 hS, s_v1 hS, s_v2 hS, s_v3 hS, s_v4 hS, s_v5 hS, s_b0 hS, s_b1 hS, s_b2 hS, s_b3 hS, s_b4 hS, s_w0 hS, s_w1 hS, s_w2 hS, s_w3 hS, s_n0 hS, s_n1 hS, show ¬ a 4 ≤ k by omega, hk60, hv60, ht', g2]
        exact ih (k + 1) (by omega) h
theorem k_vst {Q : Int32 → Mem → Prop} (hV : VA a) (hS : St 1 a M) {v y : Nat} (hv : v < a 4) (hy : y < 4096) (h : Q (oN (visO a y (a (78 + 6 * v + 2)) (a (78 + 6 * v + 3)))) M) : T_X0_visitAtSameTime Q 1545 (I v) (I y) M := by
  have hb := hV.1
  have h4 := hV.2.1.2.2.2.2.1
  have hv60 : v < 60 := by omega
  unfold T_X0_visitAtSameTime
  simp (disch := first | exact lt4 (hb _) | exact hb _ | omega) only [I_0, I_1, I_2, I_3, I_4, I_5, I_6, I_7, I_8, I_9, I_10, I_11, I_12, I_20, I_22, I_27, I_31, I_32, I_38, I_42, I_48, I_54, I_55, I_56, I_57, I_60, I_66, I_72, I_78, I_80, I_97, I_98, I_99, I_100, I_108, I_109, I_116, I_120, I_438, I_488, I_512, I_552, I_3864, oN_s, oN_n, bI_t, bI_f, Nat.add_zero, I_bt1, I_bt0, Nat.reduceLT, Nat.reduceLeDiff, Nat.reduceEqDiff, Nat.reduceAdd, Nat.reduceMul, Nat.reduceSub, tn_I, I_add, I_mul, I_div, vp_I, I_eq, I_le, I_lt, I_no, no_I, negI1, true_and, and_true, false_and, and_false, if_true, if_false, ite_true, ite_false, forall_eq, true_or, or_true, kn_0, kn_1, kn_2, kn_3, kn_4, kn_15, kn_16, kn_29, kn_30, kn_37, kn_38, kn_99, kn_100, kn_111, kn_112, kn_119, kn_120, kn_281, kn_282, kn_1543, kn_1544, kn_1545, kn_1546, kn_1547, kn_1551, kn_1552, kn_1553, kn_1554, lnn_2, lnn_4, lnn_16, lnn_30, lnn_38, lnn_100, lnn_112, lnn_120, lnn_282, lnn_1544, lnn_1547, lnn_1552, lnn_1554, rn_1_1, rn_1_2, rn_1_3, rn_1_4, rn_1_5, rn_1_6, rn_1_7, rn_1_8, rn_3_0, rn_15_0, rn_29_0, rn_37_0, rn_99_0, rn_111_0, rn_119_0, rn_1543_0, rn_1543_1, rn_1545_0, rn_1545_1, rn_0_0, rn_0_1, rn_0_3, rn_0_4, rn_0_5, rn_0_6, rn_0_7, rn_1546_0, rn_1551_0, rn_1551_3, rn_1553_0, rn_281_0, rr_4, rr_16, rr_30, rr_38, rr_100, rr_112, rr_120, rr_1547, rr_1554, kr_4, kr_16, kr_30, kr_38, kr_100, kr_112, kr_120, kr_1547, kr_1554, lr_4, lr_16, lr_30, lr_38, lr_100, lr_112, lr_120, lr_1547, lr_1554, s_d hS, s_q hS, s_ni hS, s_nk hS, s_nr hS, s_nv hS, s_nb hS, s_nw hS, s_nn hS, s_i0 hS, s_i1 hS, s_i2 hS, s_k hS, s_r0 hS, s_r1 hS, s_r2 hS, s_r3 hS, s_v0 hS, s_v1 hS, s_v2 hS, s_v3 hS, s_v4 hS, s_v5 hS, s_b0 hS, s_b1 hS, s_b2 hS, s_b3 hS, s_b4 hS, s_w0 hS, s_w1 hS, s_w2 hS, s_w3 hS, s_n0 hS, s_n1 hS, hv60]
  refine k_with hV hS (by decide) hy (fun l hl => ?_)
  exact ⟨_, k_vst_l hV hS hv hl (a 4) 0 (by omega) h⟩
theorem wdif (p q : Fin 4) : (I 2 ≤ I p.val - I q.val) = (q.val + 2 ≤ p.val) := by
  apply propext
  revert p q
  decide
theorem k_arc {Q : Int32 → Mem → Prop} (hV : VA a) (hS : St 1 a M) {v w : Nat} (hv : v < a 4) (hw : w < a 4) (h : Q (bI (decide (ad (a (54 + a (78 + 6 * v + 4))) (a (54 + a (78 + 6 * w + 4))) < 2))) M) : T_X0_areClose Q 1545 (I v) (I w) M := by
  have hb := hV.1
  have h4 := hV.2.1.2.2.2.2.1
  have h3 := hV.2.1.2.2.2.1
  have hv60 : v < 60 := by omega
  have hw60 : w < 60 := by omega
  have r1 := (hV.2.2.2.2.2.1 v hv).2.2.2.2.1
  have r2 := (hV.2.2.2.2.2.1 w hw).2.2.2.2.1
  have g1 := (hV.2.2.2.2.1 _ r1).1
  have g2 := (hV.2.2.2.2.1 _ r2).1
  have r16 : a (78 + 6 * v + 4) < 6 := by omega
  have r26 : a (78 + 6 * w + 4) < 6 := by omega
  have e1 := wdif ⟨_, g1⟩ ⟨_, g2⟩
  have e2 := wdif ⟨_, g2⟩ ⟨_, g1⟩
  simp only [] at e1 e2
  unfold T_X0_areClose T_X0_areClose_77 T_X0_areClose_78
  simp (disch := first | exact lt4 (hb _) | exact hb _ | omega) only [I_0, I_1, I_2, I_3, I_4, I_5, I_6, I_7, I_8, I_9, I_10, I_11, I_12, I_20, I_22, I_27, I_31, I_32, I_38, I_42, I_48, I_54, I_55, I_56, I_57, I_60, I_66, I_72, I_78, I_80, I_97, I_98, I_99, I_100, I_108, I_109, I_116, I_120, I_438, I_488, I_512, I_552, I_3864, oN_s, oN_n, bI_t, bI_f, Nat.add_zero, I_bt1, I_bt0, Nat.reduceLT, Nat.reduceLeDiff, Nat.reduceEqDiff, Nat.reduceAdd, Nat.reduceMul, Nat.reduceSub, tn_I, I_add, I_mul, I_div, vp_I, I_eq, I_le, I_lt, I_no, no_I, negI1, true_and, and_true, false_and, and_false, if_true, if_false, ite_true, ite_false, forall_eq, true_or, or_true, kn_0, kn_1, kn_2, kn_3, kn_4, kn_15, kn_16, kn_29, kn_30, kn_37, kn_38, kn_99, kn_100, kn_111, kn_112, kn_119, kn_120, kn_281, kn_282, kn_1543, kn_1544, kn_1545, kn_1546, kn_1547, kn_1551, kn_1552, kn_1553, kn_1554, lnn_2, lnn_4, lnn_16, lnn_30, lnn_38, lnn_100, lnn_112, lnn_120, lnn_282, lnn_1544, lnn_1547, lnn_1552, lnn_1554, rn_1_1, rn_1_2, rn_1_3, rn_1_4, rn_1_5, rn_1_6, rn_1_7, rn_1_8, rn_3_0, rn_15_0, rn_29_0, rn_37_0, rn_99_0, rn_111_0, rn_119_0, rn_1543_0, rn_1543_1, rn_1545_0, rn_1545_1, rn_0_0, rn_0_1, rn_0_3, rn_0_4, rn_0_5, rn_0_6, rn_0_7, rn_1546_0, rn_1551_0, rn_1551_3, rn_1553_0, rn_281_0, rr_4, rr_16, rr_30, rr_38, rr_100, rr_112, rr_120, rr_1547, rr_1554, kr_4, kr_16, kr_30, kr_38, kr_100, kr_112, kr_120, kr_1547, kr_1554, lr_4, lr_16, lr_30, lr_38, lr_100, lr_112, lr_120, lr_1547, lr_1554, s_d hS, s_q hS, s_ni hS, s_nk hS, s_nr hS, s_nv hS, s_nb hS, s_nw hS, s_nn hS, s_i0 hS, s_i1 hS, s_i2 hS, s_k hS, s_r0 hS, s_r1 hS, s_r2 hS, s_r3 hS, s_v0 hS, s_v1 hS, s_v2 hS, s_v3 hS, s_v4 hS, s_v5 hS, s_b0 hS, s_b1 hS, s_b2 hS, s_b3 hS, s_b4 hS, s_w0 hS, s_w1 hS, s_w2 hS, s_w3 hS, s_n0 hS, s_n1 hS, hv60, hw60, r1, r2, r16, r26, e1, e2]
  unfold ad at h
  by_cases c1 : a (54 + a (78 + 6 * w + 4)) + 2 ≤ a (54 + a (78 + 6 * v + 4))
  · rw [decide_eq_false (by omega)] at h
    rw [if_pos c1]
    exact h
  · rw [if_neg c1]
    by_cases c2 : a (54 + a (78 + 6 * v + 4)) + 2 ≤ a (54 + a (78 + 6 * w + 4))
    · rw [decide_eq_false (by omega)] at h
      rw [if_pos c2]
      exact h
    · rw [decide_eq_true (by omega)] at h
      rw [if_neg c2]
      exact h
theorem mask_nx (hG : GS a) {c x L v : Nat} (hc : c = 4 ∨ c = 0) (hz : nx a c x L = some v) (u : Nat) : ((decide (u < a 4) && nxp a c x L u) && !decide (u = v)) = (decide (u < a 4) && nxp a c x (mdV a v + 1) u) := by
  have q := am_s hz
  by_cases hu4 : u < a 4
  · rw [decide_eq_true hu4, Bool.true_and, Bool.true_and]
    by_cases e : u = v
    · subst e
      have : nxp a c x (mdV a u + 1) u = false := by
        unfold nxp
        rw [decide_eq_false (show ¬ mdV a u + 1 ≤ mdV a u by omega), Bool.false_and, Bool.and_false]
      rw [this]
      simp
    · rw [decide_eq_false e, Bool.not_false, Bool.and_true]
      unfold nxp
      by_cases z : L ≤ mdV a u
      · by_cases z2 : mdV a v + 1 ≤ mdV a u
        · rw [decide_eq_true z, decide_eq_true z2]
        · rw [decide_eq_true z, decide_eq_false z2, Bool.true_and, Bool.false_and, Bool.and_false]
          by_cases zz : (decide (a (78 + 6 * u + 5) = 0) && decide (a (78 + 6 * u + c) = x)) = true
          · exfalso
            have hp : nxp a c x L u = true := by
              unfold nxp
              rw [decide_eq_true z, Bool.true_and]
              exact zz
            have := q.2.2 u hu4 hp
            exact md_ne hG hc hu4 q.1 e hp q.2.1 (by omega)
          · exact Bool.eq_false_iff.mpr zz
      · have hvL : L ≤ mdV a v := (nx_sp hG.1 hz).2.2.1
        rw [decide_eq_false z, decide_eq_false (show ¬ mdV a v + 1 ≤ mdV a u by omega)]
  · rw [decide_eq_false hu4, Bool.false_and, Bool.false_and, Bool.false_and]
/-- a visit at the moment t is cancelled: the visits behind it stay -/
theorem nxp_cnl {c x t u w : Nat} (hu : u < 60) (hw : w < 60) (hc : c < 5) (ht : mdV a u = t) : nxp (cnl a u 1) c x (t + 1) w = nxp a c x (t + 1) w := by
  have e : ∀ j, j < 5 → cnl a u 1 (78 + 6 * w + j) = a (78 + 6 * w + j) := fun j hj => cnl_lo (by omega) (by omega) (by omega)
  have em : mdV (cnl a u 1) w = mdV a w := by unfold mdV; rw [e 2 (by decide), e 3 (by decide)]
  by_cases q : w = u
  · subst q
    unfold nxp
    rw [em, ht, decide_eq_false (show ¬ t + 1 ≤ t by omega), Bool.false_and, Bool.and_false, Bool.false_and, Bool.and_false]
  · unfold nxp
    rw [em, e c hc, cnl_lo (by omega) (by omega) (by omega)]
end Pt3

