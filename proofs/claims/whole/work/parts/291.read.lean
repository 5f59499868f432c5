/-! ===== READS: slot, refusal, firstFree ===== -/
section Rf1
variable {M : Mem} {a : Nat → Nat} {f : Nat → Int32} {Q : Int32 → Mem → Prop} {X : String → Mem → Prop}
def rs_slot (a : Nat → Nat) (p q b : Int32) : Nat × Int32 := if isN p 56 ∧ isN q 4 then (0, if b = 0 then I (used a p.toNatClampNeg q.toNatClampNeg) else J (lft a p.toNatClampNeg q.toNatClampNeg)) else (1, I 0)
theorem m_slot (hV : VA a) {p q b : Int32} (h : ∀ f' : Nat → Int32, f' 0 = I (rs_slot a p q b).1 → (∀ j, j ≠ 0 → f' j = f j) → Q (rs_slot a p q b).2 (mm M a f')) : T_X7_slot Q 1582 p q b (mm M a f) := by
  have hb := hV.1
  unfold T_X7_slot T_X7_slot_49 T_X7_slot_24
  simp (disch := first | exact lt4 (hb _) | exact hb _ | omega) only [I_0, I_1, I_2, I_3, I_4, I_5, I_6, I_7, I_8, I_9, I_10, I_11, I_12, I_20, I_22, I_27, I_31, I_32, I_38, I_42, I_48, I_54, I_55, I_56, I_57, I_60, I_66, I_72, I_78, I_80, I_97, I_98, I_99, I_100, I_108, I_109, I_116, I_120, I_438, I_488, I_512, I_552, I_3864, oN_s, oN_n, bI_t, bI_f, Nat.add_zero, I_bt1, I_bt0, Nat.reduceLT, Nat.reduceLeDiff, Nat.reduceEqDiff, Nat.reduceAdd, Nat.reduceMul, Nat.reduceSub, tn_I, I_add, I_mul, I_div, vp_I, I_eq, I_le, I_lt, I_no, no_I, negI1, kd7, rf71, kdS, lnS, mm_sa, mm_fa, mm_ms, mm_mf, true_and, and_true, false_and, and_false, if_true, if_false, ite_true, ite_false, forall_eq, true_or, or_true, m_in, in_I]
  unfold rs_slot at h
  by_cases c1 : isN p 56
  · rw [if_pos c1]
    obtain ⟨d, hd, rfl⟩ := isN_el c1
    by_cases c2 : isN q 4
    · rw [if_pos c2]
      obtain ⟨t, ht, rfl⟩ := isN_el c2
      rw [if_pos ⟨c1, c2⟩, tn_I (by omega), tn_I (by omega), I_0] at h
      have g := h _ updI_s (fun j hj => updI_n hj)
      by_cases c3 : b = I 0
      · rw [if_pos c3] at g
        simp (disch := first | exact lt4 (hb _) | exact hb _ | omega) only [I_0, I_1, I_2, I_3, I_4, I_5, I_6, I_7, I_8, I_9, I_10, I_11, I_12, I_20, I_22, I_27, I_31, I_32, I_38, I_42, I_48, I_54, I_55, I_56, I_57, I_60, I_66, I_72, I_78, I_80, I_97, I_98, I_99, I_100, I_108, I_109, I_116, I_120, I_438, I_488, I_512, I_552, I_3864, oN_s, oN_n, bI_t, bI_f, Nat.add_zero, I_bt1, I_bt0, Nat.reduceLT, Nat.reduceLeDiff, Nat.reduceEqDiff, Nat.reduceAdd, Nat.reduceMul, Nat.reduceSub, tn_I, I_add, I_mul, I_div, vp_I, I_eq, I_le, I_lt, I_no, no_I, negI1, kd7, rf71, kdS, lnS, mm_sa, mm_fa, mm_ms, mm_mf, true_and, and_true, false_and, and_false, if_true, if_false, ite_true, ite_false, forall_eq, true_or, or_true, c3]
        exact m_used hV (by omega) (by omega) g
      · rw [if_neg c3] at g
        simp (disch := first | exact lt4 (hb _) | exact hb _ | omega) only [I_0, I_1, I_2, I_3, I_4, I_5, I_6, I_7, I_8, I_9, I_10, I_11, I_12, I_20, I_22, I_27, I_31, I_32, I_38, I_42, I_48, I_54, I_55, I_56, I_57, I_60, I_66, I_72, I_78, I_80, I_97, I_98, I_99, I_100, I_108, I_109, I_116, I_120, I_438, I_488, I_512, I_552, I_3864, oN_s, oN_n, bI_t, bI_f, Nat.add_zero, I_bt1, I_bt0, Nat.reduceLT, Nat.reduceLeDiff, Nat.reduceEqDiff, Nat.reduceAdd, Nat.reduceMul, Nat.reduceSub, tn_I, I_add, I_mul, I_div, vp_I, I_eq, I_le, I_lt, I_no, no_I, negI1, kd7, rf71, kdS, lnS, mm_sa, mm_fa, mm_ms, mm_mf, true_and, and_true, false_and, and_false, if_true, if_false, ite_true, ite_false, forall_eq, true_or, or_true, c3]
        exact m_left hV (by omega) (by omega) g
    · rw [if_neg c2]
      rw [if_neg (fun z => c2 z.2)] at h
      simp (disch := first | exact lt4 (hb _) | exact hb _ | omega) only [I_0, I_1, I_2, I_3, I_4, I_5, I_6, I_7, I_8, I_9, I_10, I_11, I_12, I_20, I_22, I_27, I_31, I_32, I_38, I_42, I_48, I_54, I_55, I_56, I_57, I_60, I_66, I_72, I_78, I_80, I_97, I_98, I_99, I_100, I_108, I_109, I_116, I_120, I_438, I_488, I_512, I_552, I_3864, oN_s, oN_n, bI_t, bI_f, Nat.add_zero, I_bt1, I_bt0, Nat.reduceLT, Nat.reduceLeDiff, Nat.reduceEqDiff, Nat.reduceAdd, Nat.reduceMul, Nat.reduceSub, tn_I, I_add, I_mul, I_div, vp_I, I_eq, I_le, I_lt, I_no, no_I, negI1, kd7, rf71, kdS, lnS, mm_sa, mm_fa, mm_ms, mm_mf, true_and, and_true, false_and, and_false, if_true, if_false, ite_true, ite_false, forall_eq, true_or, or_true, m_fails]
      exact h _ updI_s (fun j hj => by rw [updI_n hj, updI_n hj])
  · rw [if_neg c1]
    rw [if_neg (fun z => c1 z.1)] at h
    simp (disch := first | exact lt4 (hb _) | exact hb _ | omega) only [I_0, I_1, I_2, I_3, I_4, I_5, I_6, I_7, I_8, I_9, I_10, I_11, I_12, I_20, I_22, I_27, I_31, I_32, I_38, I_42, I_48, I_54, I_55, I_56, I_57, I_60, I_66, I_72, I_78, I_80, I_97, I_98, I_99, I_100, I_108, I_109, I_116, I_120, I_438, I_488, I_512, I_552, I_3864, oN_s, oN_n, bI_t, bI_f, Nat.add_zero, I_bt1, I_bt0, Nat.reduceLT, Nat.reduceLeDiff, Nat.reduceEqDiff, Nat.reduceAdd, Nat.reduceMul, Nat.reduceSub, tn_I, I_add, I_mul, I_div, vp_I, I_eq, I_le, I_lt, I_no, no_I, negI1, kd7, rf71, kdS, lnS, mm_sa, mm_fa, mm_ms, mm_mf, true_and, and_true, false_and, and_false, if_true, if_false, ite_true, ite_false, forall_eq, true_or, or_true, m_fails]
    exact h _ updI_s (fun j hj => by rw [updI_n hj, updI_n hj])
theorem k_slot (hG : GS a) (hC : Cz a M) {p q b : Int32} (h : ∀ M', Cz a M' → Ot M M' → OUT Q X EA EA EA (rs_slot a p q b) M') : T_X6_slot Q X 0 p q b M := by
  have hV := hG.1
  have hb := hV.1
  have hS := hC.1
  unfold T_X6_slot T_X6_slot_57 T_X6_slot_17
  simp (disch := first | exact lt4 (hb _) | exact hb _ | omega) only [I_0, I_1, I_2, I_3, I_4, I_5, I_6, I_7, I_8, I_9, I_10, I_11, I_12, I_20, I_22, I_27, I_31, I_32, I_38, I_42, I_48, I_54, I_55, I_56, I_57, I_60, I_66, I_72, I_78, I_80, I_97, I_98, I_99, I_100, I_108, I_109, I_116, I_120, I_438, I_488, I_512, I_552, I_3864, oN_s, oN_n, bI_t, bI_f, Nat.add_zero, I_bt1, I_bt0, Nat.reduceLT, Nat.reduceLeDiff, Nat.reduceEqDiff, Nat.reduceAdd, Nat.reduceMul, Nat.reduceSub, tn_I, I_add, I_mul, I_div, vp_I, I_eq, I_le, I_lt, I_no, no_I, negI1, true_and, and_true, false_and, and_false, if_true, if_false, ite_true, ite_false, forall_eq, true_or, or_true, kn_0, kn_1, kn_2, kn_3, kn_4, kn_15, kn_16, kn_29, kn_30, kn_37, kn_38, kn_99, kn_100, kn_111, kn_112, kn_119, kn_120, kn_281, kn_282, kn_1543, kn_1544, kn_1545, kn_1546, kn_1547, kn_1551, kn_1552, kn_1553, kn_1554, lnn_2, lnn_4, lnn_16, lnn_30, lnn_38, lnn_100, lnn_112, lnn_120, lnn_282, lnn_1544, lnn_1547, lnn_1552, lnn_1554, rn_1_1, rn_1_2, rn_1_3, rn_1_4, rn_1_5, rn_1_6, rn_1_7, rn_1_8, rn_3_0, rn_15_0, rn_29_0, rn_37_0, rn_99_0, rn_111_0, rn_119_0, rn_1543_0, rn_1543_1, rn_1545_0, rn_1545_1, rn_0_0, rn_0_1, rn_0_3, rn_0_4, rn_0_5, rn_0_6, rn_0_7, rn_1546_0, rn_1551_0, rn_1551_3, rn_1553_0, rn_281_0, rr_4, rr_16, rr_30, rr_38, rr_100, rr_112, rr_120, rr_1547, rr_1554, kr_4, kr_16, kr_30, kr_38, kr_100, kr_112, kr_120, kr_1547, kr_1554, lr_4, lr_16, lr_30, lr_38, lr_100, lr_112, lr_120, lr_1547, lr_1554]
  rw [k_below (by decide)]
  unfold rs_slot at h
  by_cases c1 : isN p 56
  · rw [if_pos c1]
    obtain ⟨d, hd, rfl⟩ := isN_el c1
    simp (disch := first | exact lt4 (hb _) | exact hb _ | omega) only [I_0, I_1, I_2, I_3, I_4, I_5, I_6, I_7, I_8, I_9, I_10, I_11, I_12, I_20, I_22, I_27, I_31, I_32, I_38, I_42, I_48, I_54, I_55, I_56, I_57, I_60, I_66, I_72, I_78, I_80, I_97, I_98, I_99, I_100, I_108, I_109, I_116, I_120, I_438, I_488, I_512, I_552, I_3864, oN_s, oN_n, bI_t, bI_f, Nat.add_zero, I_bt1, I_bt0, Nat.reduceLT, Nat.reduceLeDiff, Nat.reduceEqDiff, Nat.reduceAdd, Nat.reduceMul, Nat.reduceSub, tn_I, I_add, I_mul, I_div, vp_I, I_eq, I_le, I_lt, I_no, no_I, negI1, true_and, and_true, false_and, and_false, if_true, if_false, ite_true, ite_false, forall_eq, true_or, or_true, kn_0, kn_1, kn_2, kn_3, kn_4, kn_15, kn_16, kn_29, kn_30, kn_37, kn_38, kn_99, kn_100, kn_111, kn_112, kn_119, kn_120, kn_281, kn_282, kn_1543, kn_1544, kn_1545, kn_1546, kn_1547, kn_1551, kn_1552, kn_1553, kn_1554, lnn_2, lnn_4, lnn_16, lnn_30, lnn_38, lnn_100, lnn_112, lnn_120, lnn_282, lnn_1544, lnn_1547, lnn_1552, lnn_1554, rn_1_1, rn_1_2, rn_1_3, rn_1_4, rn_1_5, rn_1_6, rn_1_7, rn_1_8, rn_3_0, rn_15_0, rn_29_0, rn_37_0, rn_99_0, rn_111_0, rn_119_0, rn_1543_0, rn_1543_1, rn_1545_0, rn_1545_1, rn_0_0, rn_0_1, rn_0_3, rn_0_4, rn_0_5, rn_0_6, rn_0_7, rn_1546_0, rn_1551_0, rn_1551_3, rn_1553_0, rn_281_0, rr_4, rr_16, rr_30, rr_38, rr_100, rr_112, rr_120, rr_1547, rr_1554, kr_4, kr_16, kr_30, kr_38, kr_100, kr_112, kr_120, kr_1547, kr_1554, lr_4, lr_16, lr_30, lr_38, lr_100, lr_112, lr_120, lr_1547, lr_1554]
    rw [k_below (by decide)]
    by_cases c2 : isN q 4
    · rw [if_pos c2]
      obtain ⟨t, ht, rfl⟩ := isN_el c2
      rw [if_pos ⟨c1, c2⟩, tn_I (by omega), tn_I (by omega), I_0] at h
      simp (disch := first | exact lt4 (hb _) | exact hb _ | omega) only [I_0, I_1, I_2, I_3, I_4, I_5, I_6, I_7, I_8, I_9, I_10, I_11, I_12, I_20, I_22, I_27, I_31, I_32, I_38, I_42, I_48, I_54, I_55, I_56, I_57, I_60, I_66, I_72, I_78, I_80, I_97, I_98, I_99, I_100, I_108, I_109, I_116, I_120, I_438, I_488, I_512, I_552, I_3864, oN_s, oN_n, bI_t, bI_f, Nat.add_zero, I_bt1, I_bt0, Nat.reduceLT, Nat.reduceLeDiff, Nat.reduceEqDiff, Nat.reduceAdd, Nat.reduceMul, Nat.reduceSub, tn_I, I_add, I_mul, I_div, vp_I, I_eq, I_le, I_lt, I_no, no_I, negI1, true_and, and_true, false_and, and_false, if_true, if_false, ite_true, ite_false, forall_eq, true_or, or_true, kn_0, kn_1, kn_2, kn_3, kn_4, kn_15, kn_16, kn_29, kn_30, kn_37, kn_38, kn_99, kn_100, kn_111, kn_112, kn_119, kn_120, kn_281, kn_282, kn_1543, kn_1544, kn_1545, kn_1546, kn_1547, kn_1551, kn_1552, kn_1553, kn_1554, lnn_2, lnn_4, lnn_16, lnn_30, lnn_38, lnn_100, lnn_112, lnn_120, lnn_282, lnn_1544, lnn_1547, lnn_1552, lnn_1554, rn_1_1, rn_1_2, rn_1_3, rn_1_4, rn_1_5, rn_1_6, rn_1_7, rn_1_8, rn_3_0, rn_15_0, rn_29_0, rn_37_0, rn_99_0, rn_111_0, rn_119_0, rn_1543_0, rn_1543_1, rn_1545_0, rn_1545_1, rn_0_0, rn_0_1, rn_0_3, rn_0_4, rn_0_5, rn_0_6, rn_0_7, rn_1546_0, rn_1551_0, rn_1551_3, rn_1553_0, rn_281_0, rr_4, rr_16, rr_30, rr_38, rr_100, rr_112, rr_120, rr_1547, rr_1554, kr_4, kr_16, kr_30, kr_38, kr_100, kr_112, kr_120, kr_1547, kr_1554, lr_4, lr_16, lr_30, lr_38, lr_100, lr_112, lr_120, lr_1547, lr_1554]
      rw [show M = jm M (M.1 1543) (M.1 1544) from jm_self.symm]
      refine k_look hV hS hG.2.1 (by omega) (by omega) (fun g w hJ _ => ?_)
      have g3 : g 3 = I (used a d t) := hJ.2.1
      have g4 : g 4 = J (lft a d t) := hJ.2.2.1
      have h' := h (jm M g w) (hC.jm hV) Ot.jm
      by_cases c3 : b = I 0
      · rw [if_pos c3] at h' ⊢
        rw [jm_g, g3]
        exact h'
      · rw [if_neg c3] at h' ⊢
        rw [jm_g, g4]
        exact h'
    · rw [if_neg c2]
      rw [if_neg (fun z => c2 z.2)] at h
      simp (disch := first | exact lt4 (hb _) | exact hb _ | omega) only [I_0, I_1, I_2, I_3, I_4, I_5, I_6, I_7, I_8, I_9, I_10, I_11, I_12, I_20, I_22, I_27, I_31, I_32, I_38, I_42, I_48, I_54, I_55, I_56, I_57, I_60, I_66, I_72, I_78, I_80, I_97, I_98, I_99, I_100, I_108, I_109, I_116, I_120, I_438, I_488, I_512, I_552, I_3864, oN_s, oN_n, bI_t, bI_f, Nat.add_zero, I_bt1, I_bt0, Nat.reduceLT, Nat.reduceLeDiff, Nat.reduceEqDiff, Nat.reduceAdd, Nat.reduceMul, Nat.reduceSub, tn_I, I_add, I_mul, I_div, vp_I, I_eq, I_le, I_lt, I_no, no_I, negI1, true_and, and_true, false_and, and_false, if_true, if_false, ite_true, ite_false, forall_eq, true_or, or_true, kn_0, kn_1, kn_2, kn_3, kn_4, kn_15, kn_16, kn_29, kn_30, kn_37, kn_38, kn_99, kn_100, kn_111, kn_112, kn_119, kn_120, kn_281, kn_282, kn_1543, kn_1544, kn_1545, kn_1546, kn_1547, kn_1551, kn_1552, kn_1553, kn_1554, lnn_2, lnn_4, lnn_16, lnn_30, lnn_38, lnn_100, lnn_112, lnn_120, lnn_282, lnn_1544, lnn_1547, lnn_1552, lnn_1554, rn_1_1, rn_1_2, rn_1_3, rn_1_4, rn_1_5, rn_1_6, rn_1_7, rn_1_8, rn_3_0, rn_15_0, rn_29_0, rn_37_0, rn_99_0, rn_111_0, rn_119_0, rn_1543_0, rn_1543_1, rn_1545_0, rn_1545_1, rn_0_0, rn_0_1, rn_0_3, rn_0_4, rn_0_5, rn_0_6, rn_0_7, rn_1546_0, rn_1551_0, rn_1551_3, rn_1553_0, rn_281_0, rr_4, rr_16, rr_30, rr_38, rr_100, rr_112, rr_120, rr_1547, rr_1554, kr_4, kr_16, kr_30, kr_38, kr_100, kr_112, kr_120, kr_1547, kr_1554, lr_4, lr_16, lr_30, lr_38, lr_100, lr_112, lr_120, lr_1547, lr_1554]
      exact h M hC Ot.rfl
  · rw [if_neg c1]
    rw [if_neg (fun z => c1 z.1)] at h
    simp (disch := first | exact lt4 (hb _) | exact hb _ | omega) only [I_0, I_1, I_2, I_3, I_4, I_5, I_6, I_7, I_8, I_9, I_10, I_11, I_12, I_20, I_22, I_27, I_31, I_32, I_38, I_42, I_48, I_54, I_55, I_56, I_57, I_60, I_66, I_72, I_78, I_80, I_97, I_98, I_99, I_100, I_108, I_109, I_116, I_120, I_438, I_488, I_512, I_552, I_3864, oN_s, oN_n, bI_t, bI_f, Nat.add_zero, I_bt1, I_bt0, Nat.reduceLT, Nat.reduceLeDiff, Nat.reduceEqDiff, Nat.reduceAdd, Nat.reduceMul, Nat.reduceSub, tn_I, I_add, I_mul, I_div, vp_I, I_eq, I_le, I_lt, I_no, no_I, negI1, true_and, and_true, false_and, and_false, if_true, if_false, ite_true, ite_false, forall_eq, true_or, or_true, kn_0, kn_1, kn_2, kn_3, kn_4, kn_15, kn_16, kn_29, kn_30, kn_37, kn_38, kn_99, kn_100, kn_111, kn_112, kn_119, kn_120, kn_281, kn_282, kn_1543, kn_1544, kn_1545, kn_1546, kn_1547, kn_1551, kn_1552, kn_1553, kn_1554, lnn_2, lnn_4, lnn_16, lnn_30, lnn_38, lnn_100, lnn_112, lnn_120, lnn_282, lnn_1544, lnn_1547, lnn_1552, lnn_1554, rn_1_1, rn_1_2, rn_1_3, rn_1_4, rn_1_5, rn_1_6, rn_1_7, rn_1_8, rn_3_0, rn_15_0, rn_29_0, rn_37_0, rn_99_0, rn_111_0, rn_119_0, rn_1543_0, rn_1543_1, rn_1545_0, rn_1545_1, rn_0_0, rn_0_1, rn_0_3, rn_0_4, rn_0_5, rn_0_6, rn_0_7, rn_1546_0, rn_1551_0, rn_1551_3, rn_1553_0, rn_281_0, rr_4, rr_16, rr_30, rr_38, rr_100, rr_112, rr_120, rr_1547, rr_1554, kr_4, kr_16, kr_30, kr_38, kr_100, kr_112, kr_120, kr_1547, kr_1554, lr_4, lr_16, lr_30, lr_38, lr_100, lr_112, lr_120, lr_1547, lr_1554]
    exact h M hC Ot.rfl
/-- visitors that may come, as a question that can be decided -/
abbrev isQ (a : Nat → Nat) (p : Int32) : Prop := isN p (2 ^ a 2) ∧ 1 ≤ pc p.toNatClampNeg ∧ pc p.toNatClampNeg ≤ 3
theorem isP_Q (hV : VA a) {p : Int32} : isP a p ↔ isQ a p := by
  have h2p := two_le hV.2.1.2.2.1
  refine ⟨fun ⟨s, e, g⟩ => ?_, fun g => ?_⟩
  · subst e
    refine ⟨by rw [isN_I (by omega)]; exact g.1.2, ?_⟩
    rw [tn_I (by omega)]
    exact g.2
  · obtain ⟨s, hs, rfl⟩ := isN_el g.1
    have g2 := g.2
    rw [tn_I (by omega)] at g2
    refine ⟨s, rfl, ⟨?_, hs⟩, g2⟩
    by_cases z : s = 0
    · subst z
      have : pc 0 = 0 := by decide
      omega
    · omega
theorem isQ_el (hV : VA a) {p : Int32} (h : isQ a p) : ∃ s, p = I s ∧ (0 < s ∧ s < 2 ^ a 2) ∧ p.toNatClampNeg = s := by
  have h2p := two_le hV.2.1.2.2.1
  obtain ⟨s, e, g, -⟩ := (isP_Q hV).mpr h
  exact ⟨s, e, g, by rw [e, tn_I (by omega)]⟩
end Rf1

