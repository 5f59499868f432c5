/-! ===== THE CLASS reads its state, second ===== -/
section Cp2
variable {M : Mem} {a : Nat → Nat} {Q : Int32 → Mem → Prop}
theorem k_cnt_l (hV : VA a) (hS : St 1 a M) (h3s : ∀ v, v < a 4 → a (78 + 6 * v + 5) < 3) {i w : Nat} (hi : i < 4096) (hw : w < 4096) (h : Q (I (cnt a i w)) M) : ∀ m k, k + m = a 4 → T_X3_countedVisits_12 Q (m + 1) 1 (I i) (I w) (I (vks a 2)) (I (sm (fun v => if a (78 + 6 * v + 5) < 2 ∧ a (78 + 6 * v) = i ∧ a (78 + 6 * v + 2) / 7 = w ∧ dcs a (a (78 + 6 * v + 1)) = true then 1 else 0) k)) (I k) M := by
  have hb := hV.1
  have hn := hV.2.1.2.2.2.2.1
  have h2p := two_le hV.2.1.2.2.1
  have hl := vks_lt hV 2
  intro m
  induction m with
  | zero =>
    intro k hk
    obtain rfl : k = a 4 := by omega
    unfold T_X3_countedVisits_12
    simp (disch := first | exact lt4 (hb _) | exact hb _ | omega) only [I_0, I_1, I_2, I_3, I_4, I_5, I_6, I_7, I_8, I_9, I_10, I_11, I_12, I_20, I_22, I_27, I_31, I_32, I_38, I_42, I_48, I_54, I_55, I_56, I_57, I_60, I_66, I_72, I_78, I_80, I_97, I_98, I_99, I_100, I_108, I_109, I_116, I_120, I_438, I_488, I_512, I_552, I_3864, oN_s, oN_n, bI_t, bI_f, Nat.add_zero, I_bt1, I_bt0, Nat.reduceLT, Nat.reduceLeDiff, Nat.reduceEqDiff, Nat.reduceAdd, Nat.reduceMul, Nat.reduceSub, tn_I, I_add, I_mul, I_div, vp_I, I_eq, I_le, I_lt, I_no, no_I, negI1, true_and, and_true, false_and, and_false, if_true, if_false, ite_true, ite_false, forall_eq, true_or, or_true, kn_0, kn_1, kn_2, kn_3, kn_4, kn_15, kn_16, kn_29, kn_30, kn_37, kn_38, kn_99, kn_100, kn_111, kn_112, kn_119, kn_120, kn_281, kn_282, kn_1543, kn_1544, kn_1545, kn_1546, kn_1547, kn_1551, kn_1552, kn_1553, kn_1554, lnn_2, lnn_4, lnn_16, lnn_30, lnn_38, lnn_100, lnn_112, lnn_120, lnn_282, lnn_1544, lnn_1547, lnn_1552, lnn_1554, rn_1_1, rn_1_2, rn_1_3, rn_1_4, rn_1_5, rn_1_6, rn_1_7, rn_1_8, rn_3_0, rn_15_0, rn_29_0, rn_37_0, rn_99_0, rn_111_0, rn_119_0, rn_1543_0, rn_1543_1, rn_1545_0, rn_1545_1, rn_0_0, rn_0_1, rn_0_3, rn_0_4, rn_0_5, rn_0_6, rn_0_7, rn_1546_0, rn_1551_0, rn_1551_3, rn_1553_0, rn_281_0, rr_4, rr_16, rr_30, rr_38, rr_100, rr_112, rr_120, rr_1547, rr_1554, kr_4, kr_16, kr_30, kr_38, kr_100, kr_112, kr_120, kr_1547, kr_1554, lr_4, lr_16, lr_30, lr_38, lr_100, lr_112, lr_120, lr_1547, lr_1554, s_d hS, s_q hS, s_ni hS, s_nk hS, s_nr hS, s_nv hS, s_nb hS, s_nw hS, s_nn hS, s_i0 hS, s_i1 hS, s_i2 hS, s_k hS, s_r0 hS, s_r1 hS, s_r2 hS, s_r3 hS, s_v0 hS, s_v1 hS, s_v2 hS, s_v3 hS, s_v4 hS, s_v5 hS, s_b0 hS, s_b1 hS, s_b2 hS, s_b3 hS, s_b4 hS, s_w0 hS, s_w1 hS, s_w2 hS, s_w3 hS, s_n0 hS, s_n1 hS, Nat.le_refl]
    exact h
  | succ m ih =>
    intro k hk
    have hvv := hV.2.2.2.2.2.1 k (by omega)
    have h9 := ih (k + 1) (by omega)
    unfold sm at h9
    have hx : a (78 + 6 * k + 1) ^^^ (a (78 + 6 * k + 1) &&& vks a 2) < 4096 := Nat.lt_of_lt_of_le (Nat.xor_lt_two_pow hvv.2.1.2 (Nat.lt_of_le_of_lt Nat.and_le_left hvv.2.1.2)) h2p
    have hdv : a (78 + 6 * k + 2) / 7 < 4096 := by have := hb (78 + 6 * k + 2); omega
    have key := dcs_set (a := a) hvv.2.1.2
    unfold T_X3_countedVisits_12 T_X3_countedVisits_77
    simp (disch := first | exact lt4 (hb _) | exact hb _ | omega) only [I_0, I_1, I_2, I_3, I_4, I_5, I_6, I_7, I_8, I_9, I_10, I_11, I_12, I_20, I_22, I_27, I_31, I_32, I_38, I_42, I_48, I_54, I_55, I_56, I_57, I_60, I_66, I_72, I_78, I_80, I_97, I_98, I_99, I_100, I_108, I_109, I_116, I_120, I_438, I_488, I_512, I_552, I_3864, oN_s, oN_n, bI_t, bI_f, Nat.add_zero, I_bt1, I_bt0, Nat.reduceLT, Nat.reduceLeDiff, Nat.reduceEqDiff, Nat.reduceAdd, Nat.reduceMul, Nat.reduceSub, tn_I, I_add, I_mul, I_div, vp_I, I_eq, I_le, I_lt, I_no, no_I, negI1, true_and, and_true, false_and, and_false, if_true, if_false, ite_true, ite_false, forall_eq, true_or, or_true, kn_0, kn_1, kn_2, kn_3, kn_4, kn_15, kn_16, kn_29, kn_30, kn_37, kn_38, kn_99, kn_100, kn_111, kn_112, kn_119, kn_120, kn_281, kn_282, kn_1543, kn_1544, kn_1545, kn_1546, kn_1547, kn_1551, kn_1552, kn_1553, kn_1554, lnn_2, lnn_4, lnn_16, lnn_30, lnn_38, lnn_100, lnn_112, lnn_120, lnn_282, lnn_1544, lnn_1547, lnn_1552, lnn_1554, rn_1_1, rn_1_2, rn_1_3, rn_1_4, rn_1_5, rn_1_6, rn_1_7, rn_1_8, rn_3_0, rn_15_0, rn_29_0, rn_37_0, rn_99_0, rn_111_0, rn_119_0, rn_1543_0, rn_1543_1, rn_1545_0, rn_1545_1, rn_0_0, rn_0_1, rn_0_3, rn_0_4, rn_0_5, rn_0_6, rn_0_7, rn_1546_0, rn_1551_0, rn_1551_3, rn_1553_0, rn_281_0, rr_4, rr_16, rr_30, rr_38, rr_100, rr_112, rr_120, rr_1547, rr_1554, kr_4, kr_16, kr_30, kr_38, kr_100, kr_112, kr_120, kr_1547, kr_1554, lr_4, lr_16, lr_30, lr_38, lr_100, lr_112, lr_120, lr_1547, lr_1554, s_d hS, s_q hS, s_ni hS, s_nk hS, s_nr hS, s_nv hS, s_nb hS, s_nw hS, s_nn hS, s_i0 hS, s_i1 hS, s_i2 hS, s_k hS, s_r0 hS, s_r1 hS, s_r2 hS, s_r3 hS, s_v0 hS, s_v1 hS, s_v2 hS, s_v3 hS, s_v4 hS, s_v5 hS, s_b0 hS, s_b1 hS, s_b2 hS, s_b3 hS, s_b4 hS, s_w0 hS, s_w1 hS, s_w2 hS, s_w3 hS, s_n0 hS, s_n1 hS, show ¬ a 4 ≤ k by omega, show k < 60 by omega, I_dif (lt4 (hb (78 + 6 * k + 1))) (show vks a 2 < 2147483648 by omega)]
    by_cases c0 : a (78 + 6 * k) = i
    · rw [if_pos c0]
      by_cases c1 : a (78 + 6 * k + 5) = 2
      · rw [if_pos c1]
        rw [if_neg (by omega)] at h9
        exact h9
      · rw [if_neg c1]
        have h3k := h3s k (by omega)
        by_cases c3 : a (78 + 6 * k + 2) / 7 = w
        · rw [if_pos c3]
          by_cases c4 : a (78 + 6 * k + 1) ^^^ (a (78 + 6 * k + 1) &&& vks a 2) = 0
          · rw [if_pos c4]
            rw [if_neg (fun q => key.mpr q.2.2.2 c4)] at h9
            exact h9
          · rw [if_neg c4]
            rw [if_pos ⟨by omega, c0, c3, key.mp c4⟩] at h9
            exact h9
        · rw [if_neg c3]
          rw [if_neg (fun q => c3 q.2.2.1)] at h9
          exact h9
    · rw [if_neg c0]
      rw [if_neg (fun q => c0 q.2.1)] at h9
      exact h9
theorem k_cnt (hV : VA a) (hS : St 1 a M) (h3s : ∀ v, v < a 4 → a (78 + 6 * v + 5) < 3) {i w : Nat} (hi : i < 4096) (hw : w < 4096) (h : Q (I (cnt a i w)) M) : T_X3_countedVisits Q 1 (I i) (I w) M := by
  have hb := hV.1
  unfold T_X3_countedVisits
  simp (disch := first | exact lt4 (hb _) | exact hb _ | omega) only [I_0, I_1, I_2, I_3, I_4, I_5, I_6, I_7, I_8, I_9, I_10, I_11, I_12, I_20, I_22, I_27, I_31, I_32, I_38, I_42, I_48, I_54, I_55, I_56, I_57, I_60, I_66, I_72, I_78, I_80, I_97, I_98, I_99, I_100, I_108, I_109, I_116, I_120, I_438, I_488, I_512, I_552, I_3864, oN_s, oN_n, bI_t, bI_f, Nat.add_zero, I_bt1, I_bt0, Nat.reduceLT, Nat.reduceLeDiff, Nat.reduceEqDiff, Nat.reduceAdd, Nat.reduceMul, Nat.reduceSub, tn_I, I_add, I_mul, I_div, vp_I, I_eq, I_le, I_lt, I_no, no_I, negI1, true_and, and_true, false_and, and_false, if_true, if_false, ite_true, ite_false, forall_eq, true_or, or_true, kn_0, kn_1, kn_2, kn_3, kn_4, kn_15, kn_16, kn_29, kn_30, kn_37, kn_38, kn_99, kn_100, kn_111, kn_112, kn_119, kn_120, kn_281, kn_282, kn_1543, kn_1544, kn_1545, kn_1546, kn_1547, kn_1551, kn_1552, kn_1553, kn_1554, lnn_2, lnn_4, lnn_16, lnn_30, lnn_38, lnn_100, lnn_112, lnn_120, lnn_282, lnn_1544, lnn_1547, lnn_1552, lnn_1554, rn_1_1, rn_1_2, rn_1_3, rn_1_4, rn_1_5, rn_1_6, rn_1_7, rn_1_8, rn_3_0, rn_15_0, rn_29_0, rn_37_0, rn_99_0, rn_111_0, rn_119_0, rn_1543_0, rn_1543_1, rn_1545_0, rn_1545_1, rn_0_0, rn_0_1, rn_0_3, rn_0_4, rn_0_5, rn_0_6, rn_0_7, rn_1546_0, rn_1551_0, rn_1551_3, rn_1553_0, rn_281_0, rr_4, rr_16, rr_30, rr_38, rr_100, rr_112, rr_120, rr_1547, rr_1554, kr_4, kr_16, kr_30, kr_38, kr_100, kr_112, kr_120, kr_1547, kr_1554, lr_4, lr_16, lr_30, lr_38, lr_100, lr_112, lr_120, lr_1547, lr_1554, s_d hS, s_q hS, s_ni hS, s_nk hS, s_nr hS, s_nv hS, s_nb hS, s_nw hS, s_nn hS, s_i0 hS, s_i1 hS, s_i2 hS, s_k hS, s_r0 hS, s_r1 hS, s_r2 hS, s_r3 hS, s_v0 hS, s_v1 hS, s_v2 hS, s_v3 hS, s_v4 hS, s_v5 hS, s_b0 hS, s_b1 hS, s_b2 hS, s_b3 hS, s_b4 hS, s_w0 hS, s_w1 hS, s_w2 hS, s_w3 hS, s_n0 hS, s_n1 hS]
  refine k_vk hV hS (by decide) ?_
  exact ⟨a 4 + 1, k_cnt_l hV hS h3s hi hw h (a 4) 0 (by omega)⟩
/-- Integer.bitCount as it is computed -/
def swr (v0 : Int32) : Int32 :=
  let x1 := v0 - (((Int32.toUInt32 v0 >>> (Int32.toUInt32 1 &&& Int32.toUInt32 31)).toInt32) &&& 1431655765)
  let x2 := (x1 &&& 858993459) + (((Int32.toUInt32 x1 >>> (Int32.toUInt32 2 &&& Int32.toUInt32 31)).toInt32) &&& 858993459)
  let x3 := (x2 + ((Int32.toUInt32 x2 >>> (Int32.toUInt32 4 &&& Int32.toUInt32 31)).toInt32)) &&& 252645135
  let x4 := x3 + ((Int32.toUInt32 x3 >>> (Int32.toUInt32 8 &&& Int32.toUInt32 31)).toInt32)
  let x5 := x4 + ((Int32.toUInt32 x4 >>> (Int32.toUInt32 16 &&& Int32.toUInt32 31)).toInt32)
  x5 &&& 63
theorem k_bc (v : Int32) : T_J6_bitCount_0f7a4 Q v M = Q (swr v) M := by
  unfold T_J6_bitCount_0f7a4 swr
  simp only [forall_eq]
theorem swr_c : ∀ i j : Fin 64, swr (I (64 * i.val + j.val)) = I (pc (64 * i.val + j.val)) := by decide +kernel
theorem swr_pc {s : Nat} (h : s < 4096) : swr (I s) = I (pc s) := by
  have := swr_c ⟨s / 64, by omega⟩ ⟨s % 64, by omega⟩
  simp only [Nat.div_add_mod] at this
  exact this
theorem low_c : ∀ i j : Fin 64, 64 * i.val + j.val ≠ 0 → oN (fnd (fun k => (64 * i.val + j.val).testBit k) 12 0) = swr ((I (64 * i.val + j.val) &&& -(I (64 * i.val + j.val))) - 1) := by decide +kernel
theorem swr_low {s : Nat} (h : s < 4096) (h0 : s ≠ 0) : swr ((I s &&& -(I s)) - 1) = oN (fnd (fun k => s.testBit k) 12 0) := by
  have := low_c ⟨s / 64, by omega⟩ ⟨s % 64, by omega⟩
  simp only [Nat.div_add_mod] at this
  exact (this h0).symm
theorem k_sea (hV : VA a) (hS : St 1 a M) {v : Nat} (hv : v < a 4) : T_X3_searchesOf Q 1 (I v) M = Q (if a (78 + 6 * v + 5) = 2 ∨ a (66 + a (78 + 6 * v + 4)) = 1 then I 0 else I (pc (a (78 + 6 * v + 1)))) M := by
  have hb := hV.1
  have hn := hV.2.1.2.2.2.2.1
  have h3 := hV.2.1.2.2.2.1
  have hvv := hV.2.2.2.2.2.1 v hv
  have hg := (hV.2.2.2.2.1 _ hvv.2.2.2.2.1).2.2.1
  unfold T_X3_searchesOf T_X3_searchesOf_37 T_X3_searchesOf_38 T_X3_searchesOf_53
  simp (disch := first | exact lt4 (hb _) | exact hb _ | omega) only [I_0, I_1, I_2, I_3, I_4, I_5, I_6, I_7, I_8, I_9, I_10, I_11, I_12, I_20, I_22, I_27, I_31, I_32, I_38, I_42, I_48, I_54, I_55, I_56, I_57, I_60, I_66, I_72, I_78, I_80, I_97, I_98, I_99, I_100, I_108, I_109, I_116, I_120, I_438, I_488, I_512, I_552, I_3864, oN_s, oN_n, bI_t, bI_f, Nat.add_zero, I_bt1, I_bt0, Nat.reduceLT, Nat.reduceLeDiff, Nat.reduceEqDiff, Nat.reduceAdd, Nat.reduceMul, Nat.reduceSub, tn_I, I_add, I_mul, I_div, vp_I, I_eq, I_le, I_lt, I_no, no_I, negI1, true_and, and_true, false_and, and_false, if_true, if_false, ite_true, ite_false, forall_eq, true_or, or_true, kn_0, kn_1, kn_2, kn_3, kn_4, kn_15, kn_16, kn_29, kn_30, kn_37, kn_38, kn_99, kn_100, kn_111, kn_112, kn_119, kn_120, kn_281, kn_282, kn_1543, kn_1544, kn_1545, kn_1546, kn_1547, kn_1551, kn_1552, kn_1553, kn_1554, lnn_2, lnn_4, lnn_16, lnn_30, lnn_38, lnn_100, lnn_112, lnn_120, lnn_282, lnn_1544, lnn_1547, lnn_1552, lnn_1554, rn_1_1, rn_1_2, rn_1_3, rn_1_4, rn_1_5, rn_1_6, rn_1_7, rn_1_8, rn_3_0, rn_15_0, rn_29_0, rn_37_0, rn_99_0, rn_111_0, rn_119_0, rn_1543_0, rn_1543_1, rn_1545_0, rn_1545_1, rn_0_0, rn_0_1, rn_0_3, rn_0_4, rn_0_5, rn_0_6, rn_0_7, rn_1546_0, rn_1551_0, rn_1551_3, rn_1553_0, rn_281_0, rr_4, rr_16, rr_30, rr_38, rr_100, rr_112, rr_120, rr_1547, rr_1554, kr_4, kr_16, kr_30, kr_38, kr_100, kr_112, kr_120, kr_1547, kr_1554, lr_4, lr_16, lr_30, lr_38, lr_100, lr_112, lr_120, lr_1547, lr_1554, s_d hS, s_q hS, s_ni hS, s_nk hS, s_nr hS, s_nv hS, s_nb hS, s_nw hS, s_nn hS, s_i0 hS, s_i1 hS, s_i2 hS, s_k hS, s_r0 hS, s_r1 hS, s_r2 hS, s_r3 hS, s_v0 hS, s_v1 hS, s_v2 hS, s_v3 hS, s_v4 hS, s_v5 hS, s_b0 hS, s_b1 hS, s_b2 hS, s_b3 hS, s_b4 hS, s_w0 hS, s_w1 hS, s_w2 hS, s_w3 hS, s_n0 hS, s_n1 hS, show v < 60 by omega, k_bc, swr_pc (hb (78 + 6 * v + 1)), show a (78 + 6 * v + 4) < 6 by omega, show a (78 + 6 * v + 4) < a 3 by omega]
  by_cases c1 : a (78 + 6 * v + 5) = 2
  · rw [if_pos c1, if_pos (Or.inl c1)]
  · rw [if_neg c1]
    by_cases c2 : a (66 + a (78 + 6 * v + 4)) = 0
    · rw [if_pos c2, if_neg (by omega)]
    · rw [if_neg c2, if_pos (by omega)]
theorem k_brk (hV : VA a) (hS : St 1 a M) {k i s d : Nat} (hk : k < a 5) (hi : i < 4096) (hs : s < 2 ^ a 2) (hd : d < 4096) (h : Q (bI (brk a k i s d)) M) : T_X3_isBroken Q 1 (101 + k) (I i) (I s) (I d) M := by
  have hb := hV.1
  have h5 := hV.2.1.2.2.2.2.2.1
  have h2 := hV.2.1.2.2.1
  have h2p := two_le h2
  have hB := hV.2.2.2.2.2.2.1 k hk
  unfold brk at h
  unfold T_X3_isBroken T_X3_isBroken_23 T_X3_isBroken_46
  simp (disch := first | exact lt4 (hb _) | exact hb _ | omega) only [I_0, I_1, I_2, I_3, I_4, I_5, I_6, I_7, I_8, I_9, I_10, I_11, I_12, I_20, I_22, I_27, I_31, I_32, I_38, I_42, I_48, I_54, I_55, I_56, I_57, I_60, I_66, I_72, I_78, I_80, I_97, I_98, I_99, I_100, I_108, I_109, I_116, I_120, I_438, I_488, I_512, I_552, I_3864, oN_s, oN_n, bI_t, bI_f, Nat.add_zero, I_bt1, I_bt0, Nat.reduceLT, Nat.reduceLeDiff, Nat.reduceEqDiff, Nat.reduceAdd, Nat.reduceMul, Nat.reduceSub, tn_I, I_add, I_mul, I_div, vp_I, I_eq, I_le, I_lt, I_no, no_I, negI1, true_and, and_true, false_and, and_false, if_true, if_false, ite_true, ite_false, forall_eq, true_or, or_true, kn_0, kn_1, kn_2, kn_3, kn_4, kn_15, kn_16, kn_29, kn_30, kn_37, kn_38, kn_99, kn_100, kn_111, kn_112, kn_119, kn_120, kn_281, kn_282, kn_1543, kn_1544, kn_1545, kn_1546, kn_1547, kn_1551, kn_1552, kn_1553, kn_1554, lnn_2, lnn_4, lnn_16, lnn_30, lnn_38, lnn_100, lnn_112, lnn_120, lnn_282, lnn_1544, lnn_1547, lnn_1552, lnn_1554, rn_1_1, rn_1_2, rn_1_3, rn_1_4, rn_1_5, rn_1_6, rn_1_7, rn_1_8, rn_3_0, rn_15_0, rn_29_0, rn_37_0, rn_99_0, rn_111_0, rn_119_0, rn_1543_0, rn_1543_1, rn_1545_0, rn_1545_1, rn_0_0, rn_0_1, rn_0_3, rn_0_4, rn_0_5, rn_0_6, rn_0_7, rn_1546_0, rn_1551_0, rn_1551_3, rn_1553_0, rn_281_0, rr_4, rr_16, rr_30, rr_38, rr_100, rr_112, rr_120, rr_1547, rr_1554, kr_4, kr_16, kr_30, kr_38, kr_100, kr_112, kr_120, kr_1547, kr_1554, lr_4, lr_16, lr_30, lr_38, lr_100, lr_112, lr_120, lr_1547, lr_1554, s_d hS, s_q hS, s_ni hS, s_nk hS, s_nr hS, s_nv hS, s_nb hS, s_nw hS, s_nn hS, s_i0 hS, s_i1 hS, s_i2 hS, s_k hS, s_r0 hS, s_r1 hS, s_r2 hS, s_r3 hS, s_v0 hS, s_v1 hS, s_v2 hS, s_v3 hS, s_v4 hS, s_v5 hS, s_b0 hS, s_b1 hS, s_b2 hS, s_b3 hS, s_b4 hS, s_w0 hS, s_w1 hS, s_w2 hS, s_w3 hS, s_n0 hS, s_n1 hS, show k < 10 by omega]
  by_cases c2 : a (438 + 5 * k + 1) = i
  · rw [if_pos c2]
    rw [decide_eq_true c2, Bool.true_and] at h
    by_cases c3 : d < a (438 + 5 * k + 3)
    · rw [if_pos c3]
      rw [decide_eq_false (by omega : ¬ (a (438 + 5 * k + 3) ≤ d ∧ d ≤ a (438 + 5 * k + 4))), Bool.false_and, Bool.and_false] at h
      exact h
    · rw [if_neg c3]
      by_cases c4 : d ≤ a (438 + 5 * k + 4)
      · rw [if_pos c4]
        rw [decide_eq_true (by omega : (a (438 + 5 * k + 3) ≤ d ∧ d ≤ a (438 + 5 * k + 4))), Bool.true_and] at h
        by_cases c5 : a (438 + 5 * k) = 0
        · have ho := hB.2.2.1 c5
          rw [if_pos c5]
          rw [if_pos c5, decide_eq_false (by omega : ¬ a (438 + 5 * k) = 2), Bool.not_false, Bool.true_and] at h
          simp (disch := first | exact lt4 (hb _) | exact hb _ | omega) only [I_0, I_1, I_2, I_3, I_4, I_5, I_6, I_7, I_8, I_9, I_10, I_11, I_12, I_20, I_22, I_27, I_31, I_32, I_38, I_42, I_48, I_54, I_55, I_56, I_57, I_60, I_66, I_72, I_78, I_80, I_97, I_98, I_99, I_100, I_108, I_109, I_116, I_120, I_438, I_488, I_512, I_552, I_3864, oN_s, oN_n, bI_t, bI_f, Nat.add_zero, I_bt1, I_bt0, Nat.reduceLT, Nat.reduceLeDiff, Nat.reduceEqDiff, Nat.reduceAdd, Nat.reduceMul, Nat.reduceSub, tn_I, I_add, I_mul, I_div, vp_I, I_eq, I_le, I_lt, I_no, no_I, negI1, true_and, and_true, false_and, and_false, if_true, if_false, ite_true, ite_false, forall_eq, true_or, or_true, kn_0, kn_1, kn_2, kn_3, kn_4, kn_15, kn_16, kn_29, kn_30, kn_37, kn_38, kn_99, kn_100, kn_111, kn_112, kn_119, kn_120, kn_281, kn_282, kn_1543, kn_1544, kn_1545, kn_1546, kn_1547, kn_1551, kn_1552, kn_1553, kn_1554, lnn_2, lnn_4, lnn_16, lnn_30, lnn_38, lnn_100, lnn_112, lnn_120, lnn_282, lnn_1544, lnn_1547, lnn_1552, lnn_1554, rn_1_1, rn_1_2, rn_1_3, rn_1_4, rn_1_5, rn_1_6, rn_1_7, rn_1_8, rn_3_0, rn_15_0, rn_29_0, rn_37_0, rn_99_0, rn_111_0, rn_119_0, rn_1543_0, rn_1543_1, rn_1545_0, rn_1545_1, rn_0_0, rn_0_1, rn_0_3, rn_0_4, rn_0_5, rn_0_6, rn_0_7, rn_1546_0, rn_1551_0, rn_1551_3, rn_1553_0, rn_281_0, rr_4, rr_16, rr_30, rr_38, rr_100, rr_112, rr_120, rr_1547, rr_1554, kr_4, kr_16, kr_30, kr_38, kr_100, kr_112, kr_120, kr_1547, kr_1554, lr_4, lr_16, lr_30, lr_38, lr_100, lr_112, lr_120, lr_1547, lr_1554, s_d hS, s_q hS, s_ni hS, s_nk hS, s_nr hS, s_nv hS, s_nb hS, s_nw hS, s_nn hS, s_i0 hS, s_i1 hS, s_i2 hS, s_k hS, s_r0 hS, s_r1 hS, s_r2 hS, s_r3 hS, s_v0 hS, s_v1 hS, s_v2 hS, s_v3 hS, s_v4 hS, s_v5 hS, s_b0 hS, s_b1 hS, s_b2 hS, s_b3 hS, s_b4 hS, s_w0 hS, s_w1 hS, s_w2 hS, s_w3 hS, s_n0 hS, s_n1 hS, show k < 10 by omega, I_ubit (show s < 2147483648 by omega) (show a (438 + 5 * k + 2) < 31 by omega)]
          by_cases c6 : s.testBit (a (438 + 5 * k + 2)) = false
          · rw [if_pos c6]; rw [c6] at h; exact h
          · rw [if_neg c6]; rw [show s.testBit (a (438 + 5 * k + 2)) = true by simpa using c6] at h; exact h
        · rw [if_neg c5]
          rw [if_neg c5] at h
          by_cases c6 : a (438 + 5 * k) = 1
          · rw [if_pos c6]
            rw [decide_eq_false (by omega : ¬ a (438 + 5 * k) = 2), Bool.not_false, Bool.true_and] at h
            refine k_vk hV hS (hb _) ?_
            have key := kind_set (a := a) (o := a (438 + 5 * k + 2)) hs
            have hl : s &&& vks a (a (438 + 5 * k + 2)) < 4096 := Nat.lt_of_le_of_lt Nat.and_le_left (by omega)
            unfold T_X3_isBroken_70 T_X3_isBroken_71
            simp (disch := first | exact lt4 (hb _) | exact hb _ | omega) only [I_0, I_1, I_2, I_3, I_4, I_5, I_6, I_7, I_8, I_9, I_10, I_11, I_12, I_20, I_22, I_27, I_31, I_32, I_38, I_42, I_48, I_54, I_55, I_56, I_57, I_60, I_66, I_72, I_78, I_80, I_97, I_98, I_99, I_100, I_108, I_109, I_116, I_120, I_438, I_488, I_512, I_552, I_3864, oN_s, oN_n, bI_t, bI_f, Nat.add_zero, I_bt1, I_bt0, Nat.reduceLT, Nat.reduceLeDiff, Nat.reduceEqDiff, Nat.reduceAdd, Nat.reduceMul, Nat.reduceSub, tn_I, I_add, I_mul, I_div, vp_I, I_eq, I_le, I_lt, I_no, no_I, negI1, true_and, and_true, false_and, and_false, if_true, if_false, ite_true, ite_false, forall_eq, true_or, or_true, kn_0, kn_1, kn_2, kn_3, kn_4, kn_15, kn_16, kn_29, kn_30, kn_37, kn_38, kn_99, kn_100, kn_111, kn_112, kn_119, kn_120, kn_281, kn_282, kn_1543, kn_1544, kn_1545, kn_1546, kn_1547, kn_1551, kn_1552, kn_1553, kn_1554, lnn_2, lnn_4, lnn_16, lnn_30, lnn_38, lnn_100, lnn_112, lnn_120, lnn_282, lnn_1544, lnn_1547, lnn_1552, lnn_1554, rn_1_1, rn_1_2, rn_1_3, rn_1_4, rn_1_5, rn_1_6, rn_1_7, rn_1_8, rn_3_0, rn_15_0, rn_29_0, rn_37_0, rn_99_0, rn_111_0, rn_119_0, rn_1543_0, rn_1543_1, rn_1545_0, rn_1545_1, rn_0_0, rn_0_1, rn_0_3, rn_0_4, rn_0_5, rn_0_6, rn_0_7, rn_1546_0, rn_1551_0, rn_1551_3, rn_1553_0, rn_281_0, rr_4, rr_16, rr_30, rr_38, rr_100, rr_112, rr_120, rr_1547, rr_1554, kr_4, kr_16, kr_30, kr_38, kr_100, kr_112, kr_120, kr_1547, kr_1554, lr_4, lr_16, lr_30, lr_38, lr_100, lr_112, lr_120, lr_1547, lr_1554, s_d hS, s_q hS, s_ni hS, s_nk hS, s_nr hS, s_nv hS, s_nb hS, s_nw hS, s_nn hS, s_i0 hS, s_i1 hS, s_i2 hS, s_k hS, s_r0 hS, s_r1 hS, s_r2 hS, s_r3 hS, s_v0 hS, s_v1 hS, s_v2 hS, s_v3 hS, s_v4 hS, s_v5 hS, s_b0 hS, s_b1 hS, s_b2 hS, s_b3 hS, s_b4 hS, s_w0 hS, s_w1 hS, s_w2 hS, s_w3 hS, s_n0 hS, s_n1 hS, I_and]
            by_cases c7 : s &&& vks a (a (438 + 5 * k + 2)) = 0
            · rw [if_pos c7]
              rw [show anyB (fun v => s.testBit v && decide (a (42 + v) = a (438 + 5 * k + 2))) (a 2) = false by
                cases q : anyB (fun v => s.testBit v && decide (a (42 + v) = a (438 + 5 * k + 2))) (a 2)
                · rfl
                · exact absurd c7 (key.mpr q)] at h
              exact h
            · rw [if_neg c7]
              rw [key.mp c7] at h
              exact h
          · rw [if_neg c6]
            rw [decide_eq_true (by omega : a (438 + 5 * k) = 2), Bool.not_true, Bool.false_and] at h
            unfold T_X3_isBroken_70 T_X3_isBroken_71
            simp (disch := first | exact lt4 (hb _) | exact hb _ | omega) only [I_0, I_1, I_2, I_3, I_4, I_5, I_6, I_7, I_8, I_9, I_10, I_11, I_12, I_20, I_22, I_27, I_31, I_32, I_38, I_42, I_48, I_54, I_55, I_56, I_57, I_60, I_66, I_72, I_78, I_80, I_97, I_98, I_99, I_100, I_108, I_109, I_116, I_120, I_438, I_488, I_512, I_552, I_3864, oN_s, oN_n, bI_t, bI_f, Nat.add_zero, I_bt1, I_bt0, Nat.reduceLT, Nat.reduceLeDiff, Nat.reduceEqDiff, Nat.reduceAdd, Nat.reduceMul, Nat.reduceSub, tn_I, I_add, I_mul, I_div, vp_I, I_eq, I_le, I_lt, I_no, no_I, negI1, true_and, and_true, false_and, and_false, if_true, if_false, ite_true, ite_false, forall_eq, true_or, or_true, kn_0, kn_1, kn_2, kn_3, kn_4, kn_15, kn_16, kn_29, kn_30, kn_37, kn_38, kn_99, kn_100, kn_111, kn_112, kn_119, kn_120, kn_281, kn_282, kn_1543, kn_1544, kn_1545, kn_1546, kn_1547, kn_1551, kn_1552, kn_1553, kn_1554, lnn_2, lnn_4, lnn_16, lnn_30, lnn_38, lnn_100, lnn_112, lnn_120, lnn_282, lnn_1544, lnn_1547, lnn_1552, lnn_1554, rn_1_1, rn_1_2, rn_1_3, rn_1_4, rn_1_5, rn_1_6, rn_1_7, rn_1_8, rn_3_0, rn_15_0, rn_29_0, rn_37_0, rn_99_0, rn_111_0, rn_119_0, rn_1543_0, rn_1543_1, rn_1545_0, rn_1545_1, rn_0_0, rn_0_1, rn_0_3, rn_0_4, rn_0_5, rn_0_6, rn_0_7, rn_1546_0, rn_1551_0, rn_1551_3, rn_1553_0, rn_281_0, rr_4, rr_16, rr_30, rr_38, rr_100, rr_112, rr_120, rr_1547, rr_1554, kr_4, kr_16, kr_30, kr_38, kr_100, kr_112, kr_120, kr_1547, kr_1554, lr_4, lr_16, lr_30, lr_38, lr_100, lr_112, lr_120, lr_1547, lr_1554, s_d hS, s_q hS, s_ni hS, s_nk hS, s_nr hS, s_nv hS, s_nb hS, s_nw hS, s_nn hS, s_i0 hS, s_i1 hS, s_i2 hS, s_k hS, s_r0 hS, s_r1 hS, s_r2 hS, s_r3 hS, s_v0 hS, s_v1 hS, s_v2 hS, s_v3 hS, s_v4 hS, s_v5 hS, s_b0 hS, s_b1 hS, s_b2 hS, s_b3 hS, s_b4 hS, s_w0 hS, s_w1 hS, s_w2 hS, s_w3 hS, s_n0 hS, s_n1 hS]
            exact h
      · rw [if_neg c4]
        rw [decide_eq_false (by omega : ¬ (a (438 + 5 * k + 3) ≤ d ∧ d ≤ a (438 + 5 * k + 4))), Bool.false_and, Bool.and_false] at h
        exact h
  · rw [if_neg c2]
    rw [decide_eq_false c2, Bool.false_and, Bool.and_false] at h
    exact h
end Cp2

