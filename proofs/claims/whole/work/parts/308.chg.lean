/-! ===== PASS, CANCEL ===== -/
section Ch6
variable {M M' M1 : Mem} {a a' : Nat → Nat} {f f' : Nat → Int32} {kp : Nat} {h : Nat → Nat → Nat} {o : Oth} {Q : Int32 → Mem → Prop} {X : String → Mem → Prop}
def rc_pass (a : Nat → Nat) (p : Int32) : Nat × Int32 × (Nat → Nat) := if 1 ≤ p.toInt ∧ p.toInt ≤ 20 then (if a 0 + p.toNatClampNeg ≤ 55 then (0, I (pas a p.toNatClampNeg).2, (pas a p.toNatClampNeg).1) else (2, I 0, a)) else (1, I 0, a)
theorem in_120 {q : Int32} : (I 1 ≤ q ∧ q ≤ I 20) = (1 ≤ q.toInt ∧ q.toInt ≤ 20) := by
  rw [le_ti, le_ti, ti_I (by decide), ti_I (by decide)]
  rfl
theorem day_el {q : Int32} (h : 1 ≤ q.toInt ∧ q.toInt ≤ 20) : ∃ s, q = I s ∧ 1 ≤ s ∧ s ≤ 20 := by
  obtain ⟨s, hs, rfl⟩ := isN_el (p := q) (n := 21) ⟨by omega, by have := h.2; omega⟩
  rw [ti_I (by omega)] at h
  exact ⟨s, rfl, by omega, by omega⟩
theorem R_pass (hG : GI a kp h o) (hR : RI a kp h o M) {p : Int32} (hq0 : (rc_pass a p).1 = 0 → ∀ M', RI (rc_pass a p).2.2 (pkn kp) (phh kp h a) o M' → FrR M M' → M'.1 1582 0 = I 0 → Q (rc_pass a p).2.1 M') (hq1 : (rc_pass a p).1 ≠ 0 → ∀ M', RI a kp h o M' → FrR M M' → M'.1 1582 0 = I (rc_pass a p).1 → Q (I 0) M') : T_X7_pass Q 1582 p M := by
  have hV := hG.1.1
  have hb := hV.1
  have h0 := hV.2.1.1
  unfold T_X7_pass
  refine R_begin hG hR (fun M1 hB hF => ?_)
  have ef : EF (updI (M.1 1582) 0 (I 0)) (M.1 1582) := EF.rfl.upd (by decide) (by decide) (by decide) (by decide)
  simp (disch := first | exact lt4 (hb _) | exact hb _ | omega) only [I_0, I_1, I_2, I_3, I_4, I_5, I_6, I_7, I_8, I_9, I_10, I_11, I_12, I_20, I_22, I_27, I_31, I_32, I_38, I_42, I_48, I_54, I_55, I_56, I_57, I_60, I_66, I_72, I_78, I_80, I_97, I_98, I_99, I_100, I_108, I_109, I_116, I_120, I_438, I_488, I_512, I_552, I_3864, oN_s, oN_n, bI_t, bI_f, Nat.add_zero, I_bt1, I_bt0, Nat.reduceLT, Nat.reduceLeDiff, Nat.reduceEqDiff, Nat.reduceAdd, Nat.reduceMul, Nat.reduceSub, tn_I, I_add, I_mul, I_div, vp_I, I_eq, I_le, I_lt, I_no, no_I, negI1, kd7, rf71, kdS, lnS, mm_sa, mm_fa, mm_ms, mm_mf, true_and, and_true, false_and, and_false, if_true, if_false, ite_true, ite_false, forall_eq, true_or, or_true, m_in, in_120]
  unfold rc_pass at hq0 hq1
  by_cases c1 : 1 ≤ p.toInt ∧ p.toInt ≤ 20
  · rw [if_pos c1] at hq0 hq1 ⊢
    obtain ⟨d, rfl, hd1, hd2⟩ := day_el c1
    rw [tn_I (by omega)] at hq0 hq1
    by_cases c2 : a 0 + d ≤ 55
    · rw [if_pos c2] at hq0 hq1
      simp (disch := first | exact lt4 (hb _) | exact hb _ | omega) only [I_0, I_1, I_2, I_3, I_4, I_5, I_6, I_7, I_8, I_9, I_10, I_11, I_12, I_20, I_22, I_27, I_31, I_32, I_38, I_42, I_48, I_54, I_55, I_56, I_57, I_60, I_66, I_72, I_78, I_80, I_97, I_98, I_99, I_100, I_108, I_109, I_116, I_120, I_438, I_488, I_512, I_552, I_3864, oN_s, oN_n, bI_t, bI_f, Nat.add_zero, I_bt1, I_bt0, Nat.reduceLT, Nat.reduceLeDiff, Nat.reduceEqDiff, Nat.reduceAdd, Nat.reduceMul, Nat.reduceSub, tn_I, I_add, I_mul, I_div, vp_I, I_eq, I_le, I_lt, I_no, no_I, negI1, kd7, rf71, kdS, lnS, mm_sa, mm_fa, mm_ms, mm_mf, true_and, and_true, false_and, and_false, if_true, if_false, ite_true, ite_false, forall_eq, true_or, or_true, c2]
      have key := m_pass_v (M := M1) (f := updI (M.1 1582) 0 (I 0)) (Q := Q) (updN a 0 (a 0 + d) 4) (updN a 0 (a 0 + d)) 0 0 (GS_day hG.1 c2) (by omega)
      rw [updN_n (show (4 : Nat) ≠ 0 by decide)] at key
      refine ⟨_, key ?_⟩
      exact R_keep (a' := (pas a d).1) hR hB hF ef (fun M' r1 r2 r3 r4 => hq0 rfl M' r1 r2 ((r4 0 (by decide)).trans updI_s))
    · rw [if_neg c2] at hq0 hq1
      simp (disch := first | exact lt4 (hb _) | exact hb _ | omega) only [I_0, I_1, I_2, I_3, I_4, I_5, I_6, I_7, I_8, I_9, I_10, I_11, I_12, I_20, I_22, I_27, I_31, I_32, I_38, I_42, I_48, I_54, I_55, I_56, I_57, I_60, I_66, I_72, I_78, I_80, I_97, I_98, I_99, I_100, I_108, I_109, I_116, I_120, I_438, I_488, I_512, I_552, I_3864, oN_s, oN_n, bI_t, bI_f, Nat.add_zero, I_bt1, I_bt0, Nat.reduceLT, Nat.reduceLeDiff, Nat.reduceEqDiff, Nat.reduceAdd, Nat.reduceMul, Nat.reduceSub, tn_I, I_add, I_mul, I_div, vp_I, I_eq, I_le, I_lt, I_no, no_I, negI1, kd7, rf71, kdS, lnS, mm_sa, mm_fa, mm_ms, mm_mf, true_and, and_true, false_and, and_false, if_true, if_false, ite_true, ite_false, forall_eq, true_or, or_true, c2, m_fails]
      exact hq1 (show 2 ≠ 0 by decide) _ (R_fail hR hB (ef.upd (by decide) (by decide) (by decide) (by decide))) (R_fr hB) mmf0
  · rw [if_neg c1] at hq0 hq1 ⊢
    simp (disch := first | exact lt4 (hb _) | exact hb _ | omega) only [I_0, I_1, I_2, I_3, I_4, I_5, I_6, I_7, I_8, I_9, I_10, I_11, I_12, I_20, I_22, I_27, I_31, I_32, I_38, I_42, I_48, I_54, I_55, I_56, I_57, I_60, I_66, I_72, I_78, I_80, I_97, I_98, I_99, I_100, I_108, I_109, I_116, I_120, I_438, I_488, I_512, I_552, I_3864, oN_s, oN_n, bI_t, bI_f, Nat.add_zero, I_bt1, I_bt0, Nat.reduceLT, Nat.reduceLeDiff, Nat.reduceEqDiff, Nat.reduceAdd, Nat.reduceMul, Nat.reduceSub, tn_I, I_add, I_mul, I_div, vp_I, I_eq, I_le, I_lt, I_no, no_I, negI1, kd7, rf71, kdS, lnS, mm_sa, mm_fa, mm_ms, mm_mf, true_and, and_true, false_and, and_false, if_true, if_false, ite_true, ite_false, forall_eq, true_or, or_true, m_fails]
    exact hq1 (show 1 ≠ 0 by decide) _ (R_fail hR hB (ef.upd (by decide) (by decide) (by decide) (by decide))) (R_fr hB) mmf0
theorem K_pass (hG : GI a kp h o) (hC : CI a kp h o M) {p : Int32} (hh : OUTC Q X EA ES ES a kp h o M (rc_pass a p)) : T_X6_pass Q X 0 p M := by
  have hV := hG.1.1
  have hb := hV.1
  have hS := hC.1.1
  have h0 := hV.2.1.1
  unfold T_X6_pass T_X6_pass_11
  unfold rc_pass at hh
  by_cases c1 : 1 ≤ p.toInt ∧ p.toInt ≤ 20
  · rw [if_pos c1] at hh
    obtain ⟨d, rfl, hd1, hd2⟩ := day_el c1
    rw [tn_I (by omega)] at hh
    by_cases c2 : a 0 + d ≤ 55
    · rw [if_pos c2] at hh
      simp (disch := first | exact lt4 (hb _) | exact hb _ | omega) only [I_0, I_1, I_2, I_3, I_4, I_5, I_6, I_7, I_8, I_9, I_10, I_11, I_12, I_20, I_22, I_27, I_31, I_32, I_38, I_42, I_48, I_54, I_55, I_56, I_57, I_60, I_66, I_72, I_78, I_80, I_97, I_98, I_99, I_100, I_108, I_109, I_116, I_120, I_438, I_488, I_512, I_552, I_3864, oN_s, oN_n, bI_t, bI_f, Nat.add_zero, I_bt1, I_bt0, Nat.reduceLT, Nat.reduceLeDiff, Nat.reduceEqDiff, Nat.reduceAdd, Nat.reduceMul, Nat.reduceSub, tn_I, I_add, I_mul, I_div, vp_I, I_eq, I_le, I_lt, I_no, no_I, negI1, true_and, and_true, false_and, and_false, if_true, if_false, ite_true, ite_false, forall_eq, true_or, or_true, kn_0, kn_1, kn_2, kn_3, kn_4, kn_15, kn_16, kn_29, kn_30, kn_37, kn_38, kn_99, kn_100, kn_111, kn_112, kn_119, kn_120, kn_281, kn_282, kn_1543, kn_1544, kn_1545, kn_1546, kn_1547, kn_1551, kn_1552, kn_1553, kn_1554, lnn_2, lnn_4, lnn_16, lnn_30, lnn_38, lnn_100, lnn_112, lnn_120, lnn_282, lnn_1544, lnn_1547, lnn_1552, lnn_1554, rn_1_1, rn_1_2, rn_1_3, rn_1_4, rn_1_5, rn_1_6, rn_1_7, rn_1_8, rn_3_0, rn_15_0, rn_29_0, rn_37_0, rn_99_0, rn_111_0, rn_119_0, rn_1543_0, rn_1543_1, rn_1545_0, rn_1545_1, rn_0_0, rn_0_1, rn_0_3, rn_0_4, rn_0_5, rn_0_6, rn_0_7, rn_1546_0, rn_1551_0, rn_1551_3, rn_1553_0, rn_281_0, rr_4, rr_16, rr_30, rr_38, rr_100, rr_112, rr_120, rr_1547, rr_1554, kr_4, kr_16, kr_30, kr_38, kr_100, kr_112, kr_120, kr_1547, kr_1554, lr_4, lr_16, lr_30, lr_38, lr_100, lr_112, lr_120, lr_1547, lr_1554, s_d hS, s_q hS, s_ni hS, s_nk hS, s_nr hS, s_nv hS, s_nb hS, s_nw hS, s_nn hS, s_i0 hS, s_i1 hS, s_i2 hS, s_k hS, s_r0 hS, s_r1 hS, s_r2 hS, s_r3 hS, s_v0 hS, s_v1 hS, s_v2 hS, s_v3 hS, s_v4 hS, s_v5 hS, s_b0 hS, s_b1 hS, s_b2 hS, s_b3 hS, s_b4 hS, s_w0 hS, s_w1 hS, s_w2 hS, s_w3 hS, s_n0 hS, s_n1 hS, show ¬ d < 1 by omega, hd2, show a 0 + d < 56 by omega]
      refine K_keep hG hC (fun M2 hC2 hF2 hG2 _ => ?_)
      exact k_pass hG.1 hC2.1 c2 (fun M' z1 z2 => hh M' (hC2.ot hG2 z1 z2) (hF2.trans z2.frc))
    · rw [if_neg c2] at hh
      simp (disch := first | exact lt4 (hb _) | exact hb _ | omega) only [I_0, I_1, I_2, I_3, I_4, I_5, I_6, I_7, I_8, I_9, I_10, I_11, I_12, I_20, I_22, I_27, I_31, I_32, I_38, I_42, I_48, I_54, I_55, I_56, I_57, I_60, I_66, I_72, I_78, I_80, I_97, I_98, I_99, I_100, I_108, I_109, I_116, I_120, I_438, I_488, I_512, I_552, I_3864, oN_s, oN_n, bI_t, bI_f, Nat.add_zero, I_bt1, I_bt0, Nat.reduceLT, Nat.reduceLeDiff, Nat.reduceEqDiff, Nat.reduceAdd, Nat.reduceMul, Nat.reduceSub, tn_I, I_add, I_mul, I_div, vp_I, I_eq, I_le, I_lt, I_no, no_I, negI1, true_and, and_true, false_and, and_false, if_true, if_false, ite_true, ite_false, forall_eq, true_or, or_true, kn_0, kn_1, kn_2, kn_3, kn_4, kn_15, kn_16, kn_29, kn_30, kn_37, kn_38, kn_99, kn_100, kn_111, kn_112, kn_119, kn_120, kn_281, kn_282, kn_1543, kn_1544, kn_1545, kn_1546, kn_1547, kn_1551, kn_1552, kn_1553, kn_1554, lnn_2, lnn_4, lnn_16, lnn_30, lnn_38, lnn_100, lnn_112, lnn_120, lnn_282, lnn_1544, lnn_1547, lnn_1552, lnn_1554, rn_1_1, rn_1_2, rn_1_3, rn_1_4, rn_1_5, rn_1_6, rn_1_7, rn_1_8, rn_3_0, rn_15_0, rn_29_0, rn_37_0, rn_99_0, rn_111_0, rn_119_0, rn_1543_0, rn_1543_1, rn_1545_0, rn_1545_1, rn_0_0, rn_0_1, rn_0_3, rn_0_4, rn_0_5, rn_0_6, rn_0_7, rn_1546_0, rn_1551_0, rn_1551_3, rn_1553_0, rn_281_0, rr_4, rr_16, rr_30, rr_38, rr_100, rr_112, rr_120, rr_1547, rr_1554, kr_4, kr_16, kr_30, kr_38, kr_100, kr_112, kr_120, kr_1547, kr_1554, lr_4, lr_16, lr_30, lr_38, lr_100, lr_112, lr_120, lr_1547, lr_1554, s_d hS, s_q hS, s_ni hS, s_nk hS, s_nr hS, s_nv hS, s_nb hS, s_nw hS, s_nn hS, s_i0 hS, s_i1 hS, s_i2 hS, s_k hS, s_r0 hS, s_r1 hS, s_r2 hS, s_r3 hS, s_v0 hS, s_v1 hS, s_v2 hS, s_v3 hS, s_v4 hS, s_v5 hS, s_b0 hS, s_b1 hS, s_b2 hS, s_b3 hS, s_b4 hS, s_w0 hS, s_w1 hS, s_w2 hS, s_w3 hS, s_n0 hS, s_n1 hS, show ¬ d < 1 by omega, hd2, show ¬ a 0 + d < 56 by omega]
      exact hh
  · rw [if_neg c1] at hh
    by_cases d1 : p < I 1
    · simp (disch := first | exact lt4 (hb _) | exact hb _ | omega) only [I_0, I_1, I_2, I_3, I_4, I_5, I_6, I_7, I_8, I_9, I_10, I_11, I_12, I_20, I_22, I_27, I_31, I_32, I_38, I_42, I_48, I_54, I_55, I_56, I_57, I_60, I_66, I_72, I_78, I_80, I_97, I_98, I_99, I_100, I_108, I_109, I_116, I_120, I_438, I_488, I_512, I_552, I_3864, oN_s, oN_n, bI_t, bI_f, Nat.add_zero, I_bt1, I_bt0, Nat.reduceLT, Nat.reduceLeDiff, Nat.reduceEqDiff, Nat.reduceAdd, Nat.reduceMul, Nat.reduceSub, tn_I, I_add, I_mul, I_div, vp_I, I_eq, I_le, I_lt, I_no, no_I, negI1, true_and, and_true, false_and, and_false, if_true, if_false, ite_true, ite_false, forall_eq, true_or, or_true, kn_0, kn_1, kn_2, kn_3, kn_4, kn_15, kn_16, kn_29, kn_30, kn_37, kn_38, kn_99, kn_100, kn_111, kn_112, kn_119, kn_120, kn_281, kn_282, kn_1543, kn_1544, kn_1545, kn_1546, kn_1547, kn_1551, kn_1552, kn_1553, kn_1554, lnn_2, lnn_4, lnn_16, lnn_30, lnn_38, lnn_100, lnn_112, lnn_120, lnn_282, lnn_1544, lnn_1547, lnn_1552, lnn_1554, rn_1_1, rn_1_2, rn_1_3, rn_1_4, rn_1_5, rn_1_6, rn_1_7, rn_1_8, rn_3_0, rn_15_0, rn_29_0, rn_37_0, rn_99_0, rn_111_0, rn_119_0, rn_1543_0, rn_1543_1, rn_1545_0, rn_1545_1, rn_0_0, rn_0_1, rn_0_3, rn_0_4, rn_0_5, rn_0_6, rn_0_7, rn_1546_0, rn_1551_0, rn_1551_3, rn_1553_0, rn_281_0, rr_4, rr_16, rr_30, rr_38, rr_100, rr_112, rr_120, rr_1547, rr_1554, kr_4, kr_16, kr_30, kr_38, kr_100, kr_112, kr_120, kr_1547, kr_1554, lr_4, lr_16, lr_30, lr_38, lr_100, lr_112, lr_120, lr_1547, lr_1554, s_d hS, s_q hS, s_ni hS, s_nk hS, s_nr hS, s_nv hS, s_nb hS, s_nw hS, s_nn hS, s_i0 hS, s_i1 hS, s_i2 hS, s_k hS, s_r0 hS, s_r1 hS, s_r2 hS, s_r3 hS, s_v0 hS, s_v1 hS, s_v2 hS, s_v3 hS, s_v4 hS, s_v5 hS, s_b0 hS, s_b1 hS, s_b2 hS, s_b3 hS, s_b4 hS, s_w0 hS, s_w1 hS, s_w2 hS, s_w3 hS, s_n0 hS, s_n1 hS, d1]
      exact hh
    · have d2 : ¬ p ≤ I 20 := fun z => c1 (by
        rw [lt_ti, ti_I (by decide)] at d1
        rw [le_ti, ti_I (by decide)] at z
        exact ⟨by omega, by omega⟩)
      simp (disch := first | exact lt4 (hb _) | exact hb _ | omega) only [I_0, I_1, I_2, I_3, I_4, I_5, I_6, I_7, I_8, I_9, I_10, I_11, I_12, I_20, I_22, I_27, I_31, I_32, I_38, I_42, I_48, I_54, I_55, I_56, I_57, I_60, I_66, I_72, I_78, I_80, I_97, I_98, I_99, I_100, I_108, I_109, I_116, I_120, I_438, I_488, I_512, I_552, I_3864, oN_s, oN_n, bI_t, bI_f, Nat.add_zero, I_bt1, I_bt0, Nat.reduceLT, Nat.reduceLeDiff, Nat.reduceEqDiff, Nat.reduceAdd, Nat.reduceMul, Nat.reduceSub, tn_I, I_add, I_mul, I_div, vp_I, I_eq, I_le, I_lt, I_no, no_I, negI1, true_and, and_true, false_and, and_false, if_true, if_false, ite_true, ite_false, forall_eq, true_or, or_true, kn_0, kn_1, kn_2, kn_3, kn_4, kn_15, kn_16, kn_29, kn_30, kn_37, kn_38, kn_99, kn_100, kn_111, kn_112, kn_119, kn_120, kn_281, kn_282, kn_1543, kn_1544, kn_1545, kn_1546, kn_1547, kn_1551, kn_1552, kn_1553, kn_1554, lnn_2, lnn_4, lnn_16, lnn_30, lnn_38, lnn_100, lnn_112, lnn_120, lnn_282, lnn_1544, lnn_1547, lnn_1552, lnn_1554, rn_1_1, rn_1_2, rn_1_3, rn_1_4, rn_1_5, rn_1_6, rn_1_7, rn_1_8, rn_3_0, rn_15_0, rn_29_0, rn_37_0, rn_99_0, rn_111_0, rn_119_0, rn_1543_0, rn_1543_1, rn_1545_0, rn_1545_1, rn_0_0, rn_0_1, rn_0_3, rn_0_4, rn_0_5, rn_0_6, rn_0_7, rn_1546_0, rn_1551_0, rn_1551_3, rn_1553_0, rn_281_0, rr_4, rr_16, rr_30, rr_38, rr_100, rr_112, rr_120, rr_1547, rr_1554, kr_4, kr_16, kr_30, kr_38, kr_100, kr_112, kr_120, kr_1547, kr_1554, lr_4, lr_16, lr_30, lr_38, lr_100, lr_112, lr_120, lr_1547, lr_1554, s_d hS, s_q hS, s_ni hS, s_nk hS, s_nr hS, s_nv hS, s_nb hS, s_nw hS, s_nn hS, s_i0 hS, s_i1 hS, s_i2 hS, s_k hS, s_r0 hS, s_r1 hS, s_r2 hS, s_r3 hS, s_v0 hS, s_v1 hS, s_v2 hS, s_v3 hS, s_v4 hS, s_v5 hS, s_b0 hS, s_b1 hS, s_b2 hS, s_b3 hS, s_b4 hS, s_w0 hS, s_w1 hS, s_w2 hS, s_w3 hS, s_n0 hS, s_n1 hS, d1, d2]
      exact hh
/-- a visit is cancelled and wishes are served -/
def cnc (a : Nat → Nat) (v : Nat) : (Nat → Nat) × Nat := svs ((updN a (78 + 6 * v + 5) 2) 6) (updN a (78 + 6 * v + 5) 2) 0 0
def foc (a : Nat → Nat) (p : Int32) : Nat := if isN p (a 4) then (if a (78 + 6 * p.toNatClampNeg + 5) = 0 then 0 else 2) else 1
theorem foc_0 (hV : VA a) {p : Int32} (h : foc a p = 0) : ∃ v, p = I v ∧ v < a 4 ∧ a (78 + 6 * v + 5) = 0 := by
  have h4 := hV.2.1.2.2.2.2.1
  unfold foc at h
  by_cases c1 : isN p (a 4)
  · rw [if_pos c1] at h
    obtain ⟨v, hv, rfl⟩ := isN_el c1
    rw [tn_I (by omega)] at h
    by_cases c2 : a (78 + 6 * v + 5) = 0
    · exact ⟨v, rfl, hv, c2⟩
    · rw [if_neg c2] at h; cases h
  · rw [if_neg c1] at h; cases h
theorem foc_c {p : Int32} : foc a p = 0 ∨ foc a p = 1 ∨ foc a p = 2 := by
  unfold foc
  split
  · split
    · exact Or.inl rfl
    · exact Or.inr (Or.inr rfl)
  · exact Or.inr (Or.inl rfl)
theorem m_cancelling (hG : GS a) {p : Int32} (h1 : foc a p ≠ 0 → Q (I (foc a p)) (mm M a f))
    (h0 : ∀ v, p = I v → v < a 4 → a (78 + 6 * v + 5) = 0 → ∀ f' : Nat → Int32, (∀ j, j ≠ 12 → j ≠ 13 → j ≠ 14 → j ≠ 16 → f' j = f j) → f' 16 = I (cnc a v).2 → Q (I 0) (mm M (cnc a v).1 f')) : T_X7_cancelling Q 1582 p (mm M a f) := by
  have hV := hG.1
  have hb := hV.1
  have h4 := hV.2.1.2.2.2.2.1
  unfold T_X7_cancelling
  refine ⟨by decide, ?_⟩
  rw [m_isVisit hb]
  by_cases c1 : isN p (a 4)
  · rw [if_pos c1]
    obtain ⟨v, hv, rfl⟩ := isN_el c1
    have hv60 : v < 60 := by omega
    by_cases c2 : a (78 + 6 * v + 5) = 0
    · simp (disch := first | exact lt4 (hb _) | exact hb _ | omega) only [I_0, I_1, I_2, I_3, I_4, I_5, I_6, I_7, I_8, I_9, I_10, I_11, I_12, I_20, I_22, I_27, I_31, I_32, I_38, I_42, I_48, I_54, I_55, I_56, I_57, I_60, I_66, I_72, I_78, I_80, I_97, I_98, I_99, I_100, I_108, I_109, I_116, I_120, I_438, I_488, I_512, I_552, I_3864, oN_s, oN_n, bI_t, bI_f, Nat.add_zero, I_bt1, I_bt0, Nat.reduceLT, Nat.reduceLeDiff, Nat.reduceEqDiff, Nat.reduceAdd, Nat.reduceMul, Nat.reduceSub, tn_I, I_add, I_mul, I_div, vp_I, I_eq, I_le, I_lt, I_no, no_I, negI1, kd7, rf71, kdS, lnS, mm_sa, mm_fa, mm_ms, mm_mf, true_and, and_true, false_and, and_false, if_true, if_false, ite_true, ite_false, forall_eq, true_or, or_true, m_isBooked hb hv60, c2, m_setState hb hv60]
      refine m_grants (GS_st2 hG hv60) (fun f2 q1 q2 => ?_)
      simp (disch := first | exact lt4 (hb _) | exact hb _ | omega) only [I_0, I_1, I_2, I_3, I_4, I_5, I_6, I_7, I_8, I_9, I_10, I_11, I_12, I_20, I_22, I_27, I_31, I_32, I_38, I_42, I_48, I_54, I_55, I_56, I_57, I_60, I_66, I_72, I_78, I_80, I_97, I_98, I_99, I_100, I_108, I_109, I_116, I_120, I_438, I_488, I_512, I_552, I_3864, oN_s, oN_n, bI_t, bI_f, Nat.add_zero, I_bt1, I_bt0, Nat.reduceLT, Nat.reduceLeDiff, Nat.reduceEqDiff, Nat.reduceAdd, Nat.reduceMul, Nat.reduceSub, tn_I, I_add, I_mul, I_div, vp_I, I_eq, I_le, I_lt, I_no, no_I, negI1, kd7, rf71, kdS, lnS, mm_sa, mm_fa, mm_ms, mm_mf, true_and, and_true, false_and, and_false, if_true, if_false, ite_true, ite_false, forall_eq, true_or, or_true]
      exact h0 v rfl hv c2 _ (fun j j12 j13 j14 j16 => by rw [updI_n j16, q1 j j12 j13 j14]) updI_s
    · have e : foc a (I v) = 2 := by unfold foc; rw [if_pos c1, tn_I (by omega), if_neg c2]
      rw [e] at h1
      simp (disch := first | exact lt4 (hb _) | exact hb _ | omega) only [I_0, I_1, I_2, I_3, I_4, I_5, I_6, I_7, I_8, I_9, I_10, I_11, I_12, I_20, I_22, I_27, I_31, I_32, I_38, I_42, I_48, I_54, I_55, I_56, I_57, I_60, I_66, I_72, I_78, I_80, I_97, I_98, I_99, I_100, I_108, I_109, I_116, I_120, I_438, I_488, I_512, I_552, I_3864, oN_s, oN_n, bI_t, bI_f, Nat.add_zero, I_bt1, I_bt0, Nat.reduceLT, Nat.reduceLeDiff, Nat.reduceEqDiff, Nat.reduceAdd, Nat.reduceMul, Nat.reduceSub, tn_I, I_add, I_mul, I_div, vp_I, I_eq, I_le, I_lt, I_no, no_I, negI1, kd7, rf71, kdS, lnS, mm_sa, mm_fa, mm_ms, mm_mf, true_and, and_true, false_and, and_false, if_true, if_false, ite_true, ite_false, forall_eq, true_or, or_true, m_isBooked hb hv60, c2]
      exact h1 (by decide)
  · rw [if_neg c1]
    have e : foc a p = 1 := by unfold foc; rw [if_neg c1]
    rw [e] at h1
    try (simp (disch := first | exact lt4 (hb _) | exact hb _ | omega) only [I_0, I_1, I_2, I_3, I_4, I_5, I_6, I_7, I_8, I_9, I_10, I_11, I_12, I_20, I_22, I_27, I_31, I_32, I_38, I_42, I_48, I_54, I_55, I_56, I_57, I_60, I_66, I_72, I_78, I_80, I_97, I_98, I_99, I_100, I_108, I_109, I_116, I_120, I_438, I_488, I_512, I_552, I_3864, oN_s, oN_n, bI_t, bI_f, Nat.add_zero, I_bt1, I_bt0, Nat.reduceLT, Nat.reduceLeDiff, Nat.reduceEqDiff, Nat.reduceAdd, Nat.reduceMul, Nat.reduceSub, tn_I, I_add, I_mul, I_div, vp_I, I_eq, I_le, I_lt, I_no, no_I, negI1, kd7, rf71, kdS, lnS, mm_sa, mm_fa, mm_ms, mm_mf, true_and, and_true, false_and, and_false, if_true, if_false, ite_true, ite_false, forall_eq, true_or, or_true])
    exact h1 (by decide)
theorem k_foc {Q : Int32 → Mem → Prop} (hV : VA a) (hS : St 1 a M) {p : Int32} (h0 : foc a p = 0 → Q (I 0) M) (h1 : foc a p = 1 → Q (I 1) M) (h2 : foc a p = 2 → Q (I 3) M) : T_X6_faultOfCancelling Q 0 p M := by
  have hb := hV.1
  have h4 := hV.2.1.2.2.2.2.1
  unfold T_X6_faultOfCancelling T_X6_faultOfCancelling_41
  simp (disch := first | exact lt4 (hb _) | exact hb _ | omega) only [I_0, I_1, I_2, I_3, I_4, I_5, I_6, I_7, I_8, I_9, I_10, I_11, I_12, I_20, I_22, I_27, I_31, I_32, I_38, I_42, I_48, I_54, I_55, I_56, I_57, I_60, I_66, I_72, I_78, I_80, I_97, I_98, I_99, I_100, I_108, I_109, I_116, I_120, I_438, I_488, I_512, I_552, I_3864, oN_s, oN_n, bI_t, bI_f, Nat.add_zero, I_bt1, I_bt0, Nat.reduceLT, Nat.reduceLeDiff, Nat.reduceEqDiff, Nat.reduceAdd, Nat.reduceMul, Nat.reduceSub, tn_I, I_add, I_mul, I_div, vp_I, I_eq, I_le, I_lt, I_no, no_I, negI1, true_and, and_true, false_and, and_false, if_true, if_false, ite_true, ite_false, forall_eq, true_or, or_true, kn_0, kn_1, kn_2, kn_3, kn_4, kn_15, kn_16, kn_29, kn_30, kn_37, kn_38, kn_99, kn_100, kn_111, kn_112, kn_119, kn_120, kn_281, kn_282, kn_1543, kn_1544, kn_1545, kn_1546, kn_1547, kn_1551, kn_1552, kn_1553, kn_1554, lnn_2, lnn_4, lnn_16, lnn_30, lnn_38, lnn_100, lnn_112, lnn_120, lnn_282, lnn_1544, lnn_1547, lnn_1552, lnn_1554, rn_1_1, rn_1_2, rn_1_3, rn_1_4, rn_1_5, rn_1_6, rn_1_7, rn_1_8, rn_3_0, rn_15_0, rn_29_0, rn_37_0, rn_99_0, rn_111_0, rn_119_0, rn_1543_0, rn_1543_1, rn_1545_0, rn_1545_1, rn_0_0, rn_0_1, rn_0_3, rn_0_4, rn_0_5, rn_0_6, rn_0_7, rn_1546_0, rn_1551_0, rn_1551_3, rn_1553_0, rn_281_0, rr_4, rr_16, rr_30, rr_38, rr_100, rr_112, rr_120, rr_1547, rr_1554, kr_4, kr_16, kr_30, kr_38, kr_100, kr_112, kr_120, kr_1547, kr_1554, lr_4, lr_16, lr_30, lr_38, lr_100, lr_112, lr_120, lr_1547, lr_1554, s_d hS, s_q hS, s_ni hS, s_nk hS, s_nr hS, s_nv hS, s_nb hS, s_nw hS, s_nn hS, s_i0 hS, s_i1 hS, s_i2 hS, s_k hS, s_r0 hS, s_r1 hS, s_r2 hS, s_r3 hS, s_v0 hS, s_v1 hS, s_v2 hS, s_v3 hS, s_v4 hS, s_v5 hS, s_b0 hS, s_b1 hS, s_b2 hS, s_b3 hS, s_b4 hS, s_w0 hS, s_w1 hS, s_w2 hS, s_w3 hS, s_n0 hS, s_n1 hS]
  rw [k_below (by omega)]
  unfold foc at h0 h1 h2
  by_cases c1 : isN p (a 4)
  · rw [if_pos c1] at h0 h1 h2 ⊢
    obtain ⟨v, hv, rfl⟩ := isN_el c1
    have hv60 : v < 60 := by omega
    rw [tn_I (by omega)] at h0 h1 h2
    by_cases c2 : a (78 + 6 * v + 5) = 0
    · rw [if_pos c2] at h0
      simp (disch := first | exact lt4 (hb _) | exact hb _ | omega) only [I_0, I_1, I_2, I_3, I_4, I_5, I_6, I_7, I_8, I_9, I_10, I_11, I_12, I_20, I_22, I_27, I_31, I_32, I_38, I_42, I_48, I_54, I_55, I_56, I_57, I_60, I_66, I_72, I_78, I_80, I_97, I_98, I_99, I_100, I_108, I_109, I_116, I_120, I_438, I_488, I_512, I_552, I_3864, oN_s, oN_n, bI_t, bI_f, Nat.add_zero, I_bt1, I_bt0, Nat.reduceLT, Nat.reduceLeDiff, Nat.reduceEqDiff, Nat.reduceAdd, Nat.reduceMul, Nat.reduceSub, tn_I, I_add, I_mul, I_div, vp_I, I_eq, I_le, I_lt, I_no, no_I, negI1, true_and, and_true, false_and, and_false, if_true, if_false, ite_true, ite_false, forall_eq, true_or, or_true, kn_0, kn_1, kn_2, kn_3, kn_4, kn_15, kn_16, kn_29, kn_30, kn_37, kn_38, kn_99, kn_100, kn_111, kn_112, kn_119, kn_120, kn_281, kn_282, kn_1543, kn_1544, kn_1545, kn_1546, kn_1547, kn_1551, kn_1552, kn_1553, kn_1554, lnn_2, lnn_4, lnn_16, lnn_30, lnn_38, lnn_100, lnn_112, lnn_120, lnn_282, lnn_1544, lnn_1547, lnn_1552, lnn_1554, rn_1_1, rn_1_2, rn_1_3, rn_1_4, rn_1_5, rn_1_6, rn_1_7, rn_1_8, rn_3_0, rn_15_0, rn_29_0, rn_37_0, rn_99_0, rn_111_0, rn_119_0, rn_1543_0, rn_1543_1, rn_1545_0, rn_1545_1, rn_0_0, rn_0_1, rn_0_3, rn_0_4, rn_0_5, rn_0_6, rn_0_7, rn_1546_0, rn_1551_0, rn_1551_3, rn_1553_0, rn_281_0, rr_4, rr_16, rr_30, rr_38, rr_100, rr_112, rr_120, rr_1547, rr_1554, kr_4, kr_16, kr_30, kr_38, kr_100, kr_112, kr_120, kr_1547, kr_1554, lr_4, lr_16, lr_30, lr_38, lr_100, lr_112, lr_120, lr_1547, lr_1554, s_d hS, s_q hS, s_ni hS, s_nk hS, s_nr hS, s_nv hS, s_nb hS, s_nw hS, s_nn hS, s_i0 hS, s_i1 hS, s_i2 hS, s_k hS, s_r0 hS, s_r1 hS, s_r2 hS, s_r3 hS, s_v0 hS, s_v1 hS, s_v2 hS, s_v3 hS, s_v4 hS, s_v5 hS, s_b0 hS, s_b1 hS, s_b2 hS, s_b3 hS, s_b4 hS, s_w0 hS, s_w1 hS, s_w2 hS, s_w3 hS, s_n0 hS, s_n1 hS, hv, hv60, c2]
      exact h0 rfl
    · rw [if_neg c2] at h2
      simp (disch := first | exact lt4 (hb _) | exact hb _ | omega) only [I_0, I_1, I_2, I_3, I_4, I_5, I_6, I_7, I_8, I_9, I_10, I_11, I_12, I_20, I_22, I_27, I_31, I_32, I_38, I_42, I_48, I_54, I_55, I_56, I_57, I_60, I_66, I_72, I_78, I_80, I_97, I_98, I_99, I_100, I_108, I_109, I_116, I_120, I_438, I_488, I_512, I_552, I_3864, oN_s, oN_n, bI_t, bI_f, Nat.add_zero, I_bt1, I_bt0, Nat.reduceLT, Nat.reduceLeDiff, Nat.reduceEqDiff, Nat.reduceAdd, Nat.reduceMul, Nat.reduceSub, tn_I, I_add, I_mul, I_div, vp_I, I_eq, I_le, I_lt, I_no, no_I, negI1, true_and, and_true, false_and, and_false, if_true, if_false, ite_true, ite_false, forall_eq, true_or, or_true, kn_0, kn_1, kn_2, kn_3, kn_4, kn_15, kn_16, kn_29, kn_30, kn_37, kn_38, kn_99, kn_100, kn_111, kn_112, kn_119, kn_120, kn_281, kn_282, kn_1543, kn_1544, kn_1545, kn_1546, kn_1547, kn_1551, kn_1552, kn_1553, kn_1554, lnn_2, lnn_4, lnn_16, lnn_30, lnn_38, lnn_100, lnn_112, lnn_120, lnn_282, lnn_1544, lnn_1547, lnn_1552, lnn_1554, rn_1_1, rn_1_2, rn_1_3, rn_1_4, rn_1_5, rn_1_6, rn_1_7, rn_1_8, rn_3_0, rn_15_0, rn_29_0, rn_37_0, rn_99_0, rn_111_0, rn_119_0, rn_1543_0, rn_1543_1, rn_1545_0, rn_1545_1, rn_0_0, rn_0_1, rn_0_3, rn_0_4, rn_0_5, rn_0_6, rn_0_7, rn_1546_0, rn_1551_0, rn_1551_3, rn_1553_0, rn_281_0, rr_4, rr_16, rr_30, rr_38, rr_100, rr_112, rr_120, rr_1547, rr_1554, kr_4, kr_16, kr_30, kr_38, kr_100, kr_112, kr_120, kr_1547, kr_1554, lr_4, lr_16, lr_30, lr_38, lr_100, lr_112, lr_120, lr_1547, lr_1554, s_d hS, s_q hS, s_ni hS, s_nk hS, s_nr hS, s_nv hS, s_nb hS, s_nw hS, s_nn hS, s_i0 hS, s_i1 hS, s_i2 hS, s_k hS, s_r0 hS, s_r1 hS, s_r2 hS, s_r3 hS, s_v0 hS, s_v1 hS, s_v2 hS, s_v3 hS, s_v4 hS, s_v5 hS, s_b0 hS, s_b1 hS, s_b2 hS, s_b3 hS, s_b4 hS, s_w0 hS, s_w1 hS, s_w2 hS, s_w3 hS, s_n0 hS, s_n1 hS, hv, hv60, c2]
      exact h2 rfl
  · rw [if_neg c1] at h1 ⊢
    simp (disch := first | exact lt4 (hb _) | exact hb _ | omega) only [I_0, I_1, I_2, I_3, I_4, I_5, I_6, I_7, I_8, I_9, I_10, I_11, I_12, I_20, I_22, I_27, I_31, I_32, I_38, I_42, I_48, I_54, I_55, I_56, I_57, I_60, I_66, I_72, I_78, I_80, I_97, I_98, I_99, I_100, I_108, I_109, I_116, I_120, I_438, I_488, I_512, I_552, I_3864, oN_s, oN_n, bI_t, bI_f, Nat.add_zero, I_bt1, I_bt0, Nat.reduceLT, Nat.reduceLeDiff, Nat.reduceEqDiff, Nat.reduceAdd, Nat.reduceMul, Nat.reduceSub, tn_I, I_add, I_mul, I_div, vp_I, I_eq, I_le, I_lt, I_no, no_I, negI1, true_and, and_true, false_and, and_false, if_true, if_false, ite_true, ite_false, forall_eq, true_or, or_true, kn_0, kn_1, kn_2, kn_3, kn_4, kn_15, kn_16, kn_29, kn_30, kn_37, kn_38, kn_99, kn_100, kn_111, kn_112, kn_119, kn_120, kn_281, kn_282, kn_1543, kn_1544, kn_1545, kn_1546, kn_1547, kn_1551, kn_1552, kn_1553, kn_1554, lnn_2, lnn_4, lnn_16, lnn_30, lnn_38, lnn_100, lnn_112, lnn_120, lnn_282, lnn_1544, lnn_1547, lnn_1552, lnn_1554, rn_1_1, rn_1_2, rn_1_3, rn_1_4, rn_1_5, rn_1_6, rn_1_7, rn_1_8, rn_3_0, rn_15_0, rn_29_0, rn_37_0, rn_99_0, rn_111_0, rn_119_0, rn_1543_0, rn_1543_1, rn_1545_0, rn_1545_1, rn_0_0, rn_0_1, rn_0_3, rn_0_4, rn_0_5, rn_0_6, rn_0_7, rn_1546_0, rn_1551_0, rn_1551_3, rn_1553_0, rn_281_0, rr_4, rr_16, rr_30, rr_38, rr_100, rr_112, rr_120, rr_1547, rr_1554, kr_4, kr_16, kr_30, kr_38, kr_100, kr_112, kr_120, kr_1547, kr_1554, lr_4, lr_16, lr_30, lr_38, lr_100, lr_112, lr_120, lr_1547, lr_1554]
    exact h1 rfl
def rc_cancel (a : Nat → Nat) (p : Int32) : Nat × Int32 × (Nat → Nat) := if foc a p = 0 then (0, I (cnc a p.toNatClampNeg).2, (cnc a p.toNatClampNeg).1) else (foc a p, I 0, a)
theorem R_cancel (hG : GI a kp h o) (hR : RI a kp h o M) {p : Int32} (hq0 : (rc_cancel a p).1 = 0 → ∀ M', RI (rc_cancel a p).2.2 (pkn kp) (phh kp h a) o M' → FrR M M' → M'.1 1582 0 = I 0 → Q (rc_cancel a p).2.1 M') (hq1 : (rc_cancel a p).1 ≠ 0 → ∀ M', RI a kp h o M' → FrR M M' → M'.1 1582 0 = I (rc_cancel a p).1 → Q (I 0) M') : T_X7_cancel Q 1582 p M := by
  have hV := hG.1.1
  have hb := hV.1
  have h4 := hV.2.1.2.2.2.2.1
  unfold T_X7_cancel
  refine ⟨by decide, R_begin0 hG hR (fun M1 hB hF => ?_)⟩
  unfold rc_cancel at hq0 hq1
  refine m_cancelling hG.1 (fun c => ?_) (fun v ep hv c2 f2 q1 q2 => ?_)
  · rw [if_neg c] at hq1
    rintro M5 rfl
    rw [mm_mf, mm_fa, updI_s]
    have hc := foc_c (a := a) (p := p)
    rw [I_0, if_neg (by rw [I_le (by omega) (by decide)]; omega)]
    exact hq1 c _ (R_fail hR hB (EF.rfl.upd (by decide) (by decide) (by decide) (by decide))) (R_fr hB) mmf0
  · have c : foc a p = 0 := by
      unfold foc
      rw [ep, if_pos (by rw [isN_I (by omega)]; exact hv), tn_I (by omega), if_pos c2]
    rw [if_pos c, ep, tn_I (by omega)] at hq0
    rintro M5 rfl
    rw [mm_mf, mm_fa, updI_s]
    rw [I_0, if_pos (by rw [I_le (by decide) (by decide)]; omega)]
    have ef : EF (updI f2 0 (I 0)) (M.1 1582) := EF.upd ⟨q1 5 (by decide) (by decide) (by decide) (by decide), q1 6 (by decide) (by decide) (by decide) (by decide), q1 8 (by decide) (by decide) (by decide) (by decide), q1 11 (by decide) (by decide) (by decide) (by decide)⟩ (by decide) (by decide) (by decide) (by decide)
    refine R_keep (a' := (cnc a v).1) hR hB hF ef (fun M' r1 r2 r3 r4 => ?_)
    have e12 : M'.1 1582 16 = I (cnc a v).2 := by rw [r4 16 (by decide), updI_n (by decide), q2]
    rw [e12]
    exact hq0 rfl M' r1 r2 ((r4 0 (by decide)).trans updI_s)
theorem K_cancel (hG : GI a kp h o) (hC : CI a kp h o M) {p : Int32} (hh : OUTC Q X EI ES ES a kp h o M (rc_cancel a p)) : T_X6_cancel Q X 0 p M := by
  have hV := hG.1.1
  have hS := hC.1.1
  have h4 := hV.2.1.2.2.2.2.1
  unfold T_X6_cancel
  unfold rc_cancel at hh
  refine ⟨kn_0, k_foc hV hS (fun c => ?_) (fun c => ?_) (fun c => ?_)⟩
  · rw [if_pos c] at hh
    obtain ⟨v, rfl, hv, c2⟩ := foc_0 hV c
    rw [tn_I (by omega)] at hh
    refine k_throw (by decide) (fun _ => ?_) (fun e => by cases e) (fun e => by cases e) (fun e => by cases e)
    simp (disch := first | exact lt4 (hb _) | exact hb _ | omega) only [I_0, I_1, I_2, I_3, I_4, I_5, I_6, I_7, I_8, I_9, I_10, I_11, I_12, I_20, I_22, I_27, I_31, I_32, I_38, I_42, I_48, I_54, I_55, I_56, I_57, I_60, I_66, I_72, I_78, I_80, I_97, I_98, I_99, I_100, I_108, I_109, I_116, I_120, I_438, I_488, I_512, I_552, I_3864, oN_s, oN_n, bI_t, bI_f, Nat.add_zero, I_bt1, I_bt0, Nat.reduceLT, Nat.reduceLeDiff, Nat.reduceEqDiff, Nat.reduceAdd, Nat.reduceMul, Nat.reduceSub, tn_I, I_add, I_mul, I_div, vp_I, I_eq, I_le, I_lt, I_no, no_I, negI1, true_and, and_true, false_and, and_false, if_true, if_false, ite_true, ite_false, forall_eq, true_or, or_true, kn_0, kn_1, kn_2, kn_3, kn_4, kn_15, kn_16, kn_29, kn_30, kn_37, kn_38, kn_99, kn_100, kn_111, kn_112, kn_119, kn_120, kn_281, kn_282, kn_1543, kn_1544, kn_1545, kn_1546, kn_1547, kn_1551, kn_1552, kn_1553, kn_1554, lnn_2, lnn_4, lnn_16, lnn_30, lnn_38, lnn_100, lnn_112, lnn_120, lnn_282, lnn_1544, lnn_1547, lnn_1552, lnn_1554, rn_1_1, rn_1_2, rn_1_3, rn_1_4, rn_1_5, rn_1_6, rn_1_7, rn_1_8, rn_3_0, rn_15_0, rn_29_0, rn_37_0, rn_99_0, rn_111_0, rn_119_0, rn_1543_0, rn_1543_1, rn_1545_0, rn_1545_1, rn_0_0, rn_0_1, rn_0_3, rn_0_4, rn_0_5, rn_0_6, rn_0_7, rn_1546_0, rn_1551_0, rn_1551_3, rn_1553_0, rn_281_0, rr_4, rr_16, rr_30, rr_38, rr_100, rr_112, rr_120, rr_1547, rr_1554, kr_4, kr_16, kr_30, kr_38, kr_100, kr_112, kr_120, kr_1547, kr_1554, lr_4, lr_16, lr_30, lr_38, lr_100, lr_112, lr_120, lr_1547, lr_1554]
    refine K_keep hG hC (fun M2 hC2 hF2 hG2 _ => ?_)
    refine k_drop hV hC2.1 hv (fun M3 hC3 hO3 => ?_)
    exact k_serve (GS_st2 hG.1 (by omega)) hC3 (fun M' z1 z2 => hh M' (hC2.ot hG2 z1 (hO3.trans z2)) (hF2.trans (hO3.trans z2).frc))
  · rw [if_neg (by omega), c] at hh
    exact k_throw (by decide) (fun e => by cases e) (fun _ => hh) (fun e => by cases e) (fun e => by cases e)
  · rw [if_neg (by omega), c] at hh
    exact k_throw (by decide) (fun e => by cases e) (fun e => by cases e) (fun e => by cases e) (fun _ => hh)
end Ch6

