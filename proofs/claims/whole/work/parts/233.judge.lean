/-! ===== THE CLASS's judge: a room for a visit, and the reasons ===== -/
section Jd4
variable {M : Mem} {a : Nat → Nat} {g w : Nat → Int32} {Q : Int32 → Mem → Prop}
/-- the set of possible rooms, walked by seats -/
def pst (a : Nat → Nat) (n : Nat) (x : Nat) : Nat → Nat
  | 0 => x
  | k + 1 => if n ≤ a (60 + k) then pst a n x k else pst a n x k ^^^ (pst a n x k &&& 2 ^ k)
theorem pst_bit {a : Nat → Nat} {n x r : Nat} : ∀ k, (pst a n x k).testBit r = (x.testBit r && !(decide (r < k) && decide (a (60 + r) < n)))
  | 0 => by simp [pst]
  | k + 1 => by
    unfold pst
    by_cases c : n ≤ a (60 + k)
    · rw [if_pos c, pst_bit k]
      by_cases e : r = k
      · subst e
        rw [decide_eq_false (by omega : ¬ r < r), decide_eq_true (by omega : r < r + 1), decide_eq_false (by omega : ¬ a (60 + r) < n)]; simp
      · rw [show decide (r < k + 1) = decide (r < k) from decide_eq_decide.mpr (by omega)]
    · rw [if_neg c, Nat.testBit_xor, Nat.testBit_and, pst_bit k, Nat.testBit_two_pow]
      by_cases e : r = k
      · subst e
        rw [decide_eq_false (by omega : ¬ r < r), decide_eq_true (by omega : r < r + 1), decide_eq_true (by omega : a (60 + r) < n), decide_eq_true rfl]; simp
      · rw [show decide (r < k + 1) = decide (r < k) from decide_eq_decide.mpr (by omega), decide_eq_false (fun z => e z.symm : ¬ k = r)]; simp
theorem pst_lt {a : Nat → Nat} {n x : Nat} (hx : x < 64) : ∀ k, pst a n x k < 64
  | 0 => hx
  | k + 1 => by
    unfold pst
    have := pst_lt (a := a) (n := n) hx k
    split
    · exact this
    · exact Nat.xor_lt_two_pow (n := 6) this (Nat.lt_of_le_of_lt Nat.and_le_left this)
theorem k_ps_l (hV : VA a) (hS : St 1 a M) {n x : Nat} (hn : n < 100) (hx : x < 64) (h : Q (I (pst a n x (a 3))) (jm M g w)) : ∀ m k, k + m = a 3 → T_X2_possibleRooms_44 Q (m + 1) 1543 (I n) (I (pst a n x k)) (I k) (jm M g w) := by
  have hb := hV.1
  have h3 := hV.2.1.2.2.2.1
  have hS := jm_St hV hS g w
  intro m
  induction m with
  | zero =>
    intro k hk
    obtain rfl : k = a 3 := by omega
    unfold T_X2_possibleRooms_44
    simp (disch := first | exact lt4 (hb _) | exact hb _ | omega) only [I_0, I_1, I_2, I_3, I_4, I_5, I_6, I_7, I_8, I_9, I_10, I_11, I_12, I_20, I_22, I_27, I_31, I_32, I_38, I_42, I_48, I_54, I_55, I_56, I_57, I_60, I_66, I_72, I_78, I_80, I_97, I_98, I_99, I_100, I_108, I_109, I_116, I_120, I_438, I_488, I_512, I_552, I_3864, oN_s, oN_n, bI_t, bI_f, Nat.add_zero, I_bt1, I_bt0, Nat.reduceLT, Nat.reduceLeDiff, Nat.reduceEqDiff, Nat.reduceAdd, Nat.reduceMul, Nat.reduceSub, tn_I, I_add, I_mul, I_div, vp_I, I_eq, I_le, I_lt, I_no, no_I, negI1, true_and, and_true, false_and, and_false, if_true, if_false, ite_true, ite_false, forall_eq, true_or, or_true, kn_0, kn_1, kn_2, kn_3, kn_4, kn_15, kn_16, kn_29, kn_30, kn_37, kn_38, kn_99, kn_100, kn_111, kn_112, kn_119, kn_120, kn_281, kn_282, kn_1543, kn_1544, kn_1545, kn_1546, kn_1547, kn_1551, kn_1552, kn_1553, kn_1554, lnn_2, lnn_4, lnn_16, lnn_30, lnn_38, lnn_100, lnn_112, lnn_120, lnn_282, lnn_1544, lnn_1547, lnn_1552, lnn_1554, rn_1_1, rn_1_2, rn_1_3, rn_1_4, rn_1_5, rn_1_6, rn_1_7, rn_1_8, rn_3_0, rn_15_0, rn_29_0, rn_37_0, rn_99_0, rn_111_0, rn_119_0, rn_1543_0, rn_1543_1, rn_1545_0, rn_1545_1, rn_0_0, rn_0_1, rn_0_3, rn_0_4, rn_0_5, rn_0_6, rn_0_7, rn_1546_0, rn_1551_0, rn_1551_3, rn_1553_0, rn_281_0, rr_4, rr_16, rr_30, rr_38, rr_100, rr_112, rr_120, rr_1547, rr_1554, kr_4, kr_16, kr_30, kr_38, kr_100, kr_112, kr_120, kr_1547, kr_1554, lr_4, lr_16, lr_30, lr_38, lr_100, lr_112, lr_120, lr_1547, lr_1554, s_d hS, s_q hS, s_ni hS, s_nk hS, s_nr hS, s_nv hS, s_nb hS, s_nw hS, s_nn hS, s_i0 hS, s_i1 hS, s_i2 hS, s_k hS, s_r0 hS, s_r1 hS, s_r2 hS, s_r3 hS, s_v0 hS, s_v1 hS, s_v2 hS, s_v3 hS, s_v4 hS, s_v5 hS, s_b0 hS, s_b1 hS, s_b2 hS, s_b3 hS, s_b4 hS, s_w0 hS, s_w1 hS, s_w2 hS, s_w3 hS, s_n0 hS, s_n1 hS, Nat.le_refl]
    exact h
  | succ m ih =>
    intro k hk
    have h9 := ih (k + 1) (by omega)
    have hl := pst_lt (a := a) (n := n) hx k
    have h2k : 2 ^ k < 2147483648 := Nat.lt_of_lt_of_le (Nat.pow_lt_pow_right (by decide) (by omega : k < 31)) (by decide)
    unfold T_X2_possibleRooms_44 T_X2_possibleRooms_89
    by_cases c : n ≤ a (60 + k)
    · rw [show pst a n x (k + 1) = pst a n x k from if_pos c] at h9
      simp (disch := first | exact lt4 (hb _) | exact hb _ | omega) only [I_0, I_1, I_2, I_3, I_4, I_5, I_6, I_7, I_8, I_9, I_10, I_11, I_12, I_20, I_22, I_27, I_31, I_32, I_38, I_42, I_48, I_54, I_55, I_56, I_57, I_60, I_66, I_72, I_78, I_80, I_97, I_98, I_99, I_100, I_108, I_109, I_116, I_120, I_438, I_488, I_512, I_552, I_3864, oN_s, oN_n, bI_t, bI_f, Nat.add_zero, I_bt1, I_bt0, Nat.reduceLT, Nat.reduceLeDiff, Nat.reduceEqDiff, Nat.reduceAdd, Nat.reduceMul, Nat.reduceSub, tn_I, I_add, I_mul, I_div, vp_I, I_eq, I_le, I_lt, I_no, no_I, negI1, true_and, and_true, false_and, and_false, if_true, if_false, ite_true, ite_false, forall_eq, true_or, or_true, kn_0, kn_1, kn_2, kn_3, kn_4, kn_15, kn_16, kn_29, kn_30, kn_37, kn_38, kn_99, kn_100, kn_111, kn_112, kn_119, kn_120, kn_281, kn_282, kn_1543, kn_1544, kn_1545, kn_1546, kn_1547, kn_1551, kn_1552, kn_1553, kn_1554, lnn_2, lnn_4, lnn_16, lnn_30, lnn_38, lnn_100, lnn_112, lnn_120, lnn_282, lnn_1544, lnn_1547, lnn_1552, lnn_1554, rn_1_1, rn_1_2, rn_1_3, rn_1_4, rn_1_5, rn_1_6, rn_1_7, rn_1_8, rn_3_0, rn_15_0, rn_29_0, rn_37_0, rn_99_0, rn_111_0, rn_119_0, rn_1543_0, rn_1543_1, rn_1545_0, rn_1545_1, rn_0_0, rn_0_1, rn_0_3, rn_0_4, rn_0_5, rn_0_6, rn_0_7, rn_1546_0, rn_1551_0, rn_1551_3, rn_1553_0, rn_281_0, rr_4, rr_16, rr_30, rr_38, rr_100, rr_112, rr_120, rr_1547, rr_1554, kr_4, kr_16, kr_30, kr_38, kr_100, kr_112, kr_120, kr_1547, kr_1554, lr_4, lr_16, lr_30, lr_38, lr_100, lr_112, lr_120, lr_1547, lr_1554, s_d hS, s_q hS, s_ni hS, s_nk hS, s_nr hS, s_nv hS, s_nb hS, s_nw hS, s_nn hS, s_i0 hS, s_i1 hS, s_i2 hS, s_k hS, s_r0 hS, s_r1 hS, s_r2 hS, s_r3 hS, s_v0 hS, s_v1 hS, s_v2 hS, s_v3 hS, s_v4 hS, s_v5 hS, s_b0 hS, s_b1 hS, s_b2 hS, s_b3 hS, s_b4 hS, s_w0 hS, s_w1 hS, s_w2 hS, s_w3 hS, s_n0 hS, s_n1 hS, show ¬ a 3 ≤ k by omega, show k < 6 by omega, c]
      exact h9
    · rw [show pst a n x (k + 1) = pst a n x k ^^^ (pst a n x k &&& 2 ^ k) from if_neg c] at h9
      simp (disch := first | exact lt4 (hb _) | exact hb _ | omega) only [I_0, I_1, I_2, I_3, I_4, I_5, I_6, I_7, I_8, I_9, I_10, I_11, I_12, I_20, I_22, I_27, I_31, I_32, I_38, I_42, I_48, I_54, I_55, I_56, I_57, I_60, I_66, I_72, I_78, I_80, I_97, I_98, I_99, I_100, I_108, I_109, I_116, I_120, I_438, I_488, I_512, I_552, I_3864, oN_s, oN_n, bI_t, bI_f, Nat.add_zero, I_bt1, I_bt0, Nat.reduceLT, Nat.reduceLeDiff, Nat.reduceEqDiff, Nat.reduceAdd, Nat.reduceMul, Nat.reduceSub, tn_I, I_add, I_mul, I_div, vp_I, I_eq, I_le, I_lt, I_no, no_I, negI1, true_and, and_true, false_and, and_false, if_true, if_false, ite_true, ite_false, forall_eq, true_or, or_true, kn_0, kn_1, kn_2, kn_3, kn_4, kn_15, kn_16, kn_29, kn_30, kn_37, kn_38, kn_99, kn_100, kn_111, kn_112, kn_119, kn_120, kn_281, kn_282, kn_1543, kn_1544, kn_1545, kn_1546, kn_1547, kn_1551, kn_1552, kn_1553, kn_1554, lnn_2, lnn_4, lnn_16, lnn_30, lnn_38, lnn_100, lnn_112, lnn_120, lnn_282, lnn_1544, lnn_1547, lnn_1552, lnn_1554, rn_1_1, rn_1_2, rn_1_3, rn_1_4, rn_1_5, rn_1_6, rn_1_7, rn_1_8, rn_3_0, rn_15_0, rn_29_0, rn_37_0, rn_99_0, rn_111_0, rn_119_0, rn_1543_0, rn_1543_1, rn_1545_0, rn_1545_1, rn_0_0, rn_0_1, rn_0_3, rn_0_4, rn_0_5, rn_0_6, rn_0_7, rn_1546_0, rn_1551_0, rn_1551_3, rn_1553_0, rn_281_0, rr_4, rr_16, rr_30, rr_38, rr_100, rr_112, rr_120, rr_1547, rr_1554, kr_4, kr_16, kr_30, kr_38, kr_100, kr_112, kr_120, kr_1547, kr_1554, lr_4, lr_16, lr_30, lr_38, lr_100, lr_112, lr_120, lr_1547, lr_1554, s_d hS, s_q hS, s_ni hS, s_nk hS, s_nr hS, s_nv hS, s_nb hS, s_nw hS, s_nn hS, s_i0 hS, s_i1 hS, s_i2 hS, s_k hS, s_r0 hS, s_r1 hS, s_r2 hS, s_r3 hS, s_v0 hS, s_v1 hS, s_v2 hS, s_v3 hS, s_v4 hS, s_v5 hS, s_b0 hS, s_b1 hS, s_b2 hS, s_b3 hS, s_b4 hS, s_w0 hS, s_w1 hS, s_w2 hS, s_w3 hS, s_n0 hS, s_n1 hS, show ¬ a 3 ≤ k by omega, show k < 6 by omega, c, I_shl (show k < 31 by omega)]
      rw [I_dif (by omega) h2k]
      exact h9
theorem k_poss (hV : VA a) (hS : St 1 a M) {i n x : Nat} (hi : i < a 1) (hn : n < 100) (hx : x < 64) (h : Q (I (pst a n (if a (32 + i) = 1 then rset a (fun r => decide (a (66 + r) = 1)) &&& x else x) (a 3))) (jm M g w)) : T_X2_possibleRooms Q 1543 (I i) (I n) (I x) (jm M g w) := by
  have hb := hV.1
  have h1 := hV.2.1.2.1
  have hS0 := hS
  have hS := jm_St hV hS g w
  unfold T_X2_possibleRooms T_X2_possibleRooms_23 T_X2_possibleRooms_39
  by_cases c : a (32 + i) = 1
  · rw [if_pos c] at h
    simp (disch := first | exact lt4 (hb _) | exact hb _ | omega) only [I_0, I_1, I_2, I_3, I_4, I_5, I_6, I_7, I_8, I_9, I_10, I_11, I_12, I_20, I_22, I_27, I_31, I_32, I_38, I_42, I_48, I_54, I_55, I_56, I_57, I_60, I_66, I_72, I_78, I_80, I_97, I_98, I_99, I_100, I_108, I_109, I_116, I_120, I_438, I_488, I_512, I_552, I_3864, oN_s, oN_n, bI_t, bI_f, Nat.add_zero, I_bt1, I_bt0, Nat.reduceLT, Nat.reduceLeDiff, Nat.reduceEqDiff, Nat.reduceAdd, Nat.reduceMul, Nat.reduceSub, tn_I, I_add, I_mul, I_div, vp_I, I_eq, I_le, I_lt, I_no, no_I, negI1, true_and, and_true, false_and, and_false, if_true, if_false, ite_true, ite_false, forall_eq, true_or, or_true, kn_0, kn_1, kn_2, kn_3, kn_4, kn_15, kn_16, kn_29, kn_30, kn_37, kn_38, kn_99, kn_100, kn_111, kn_112, kn_119, kn_120, kn_281, kn_282, kn_1543, kn_1544, kn_1545, kn_1546, kn_1547, kn_1551, kn_1552, kn_1553, kn_1554, lnn_2, lnn_4, lnn_16, lnn_30, lnn_38, lnn_100, lnn_112, lnn_120, lnn_282, lnn_1544, lnn_1547, lnn_1552, lnn_1554, rn_1_1, rn_1_2, rn_1_3, rn_1_4, rn_1_5, rn_1_6, rn_1_7, rn_1_8, rn_3_0, rn_15_0, rn_29_0, rn_37_0, rn_99_0, rn_111_0, rn_119_0, rn_1543_0, rn_1543_1, rn_1545_0, rn_1545_1, rn_0_0, rn_0_1, rn_0_3, rn_0_4, rn_0_5, rn_0_6, rn_0_7, rn_1546_0, rn_1551_0, rn_1551_3, rn_1553_0, rn_281_0, rr_4, rr_16, rr_30, rr_38, rr_100, rr_112, rr_120, rr_1547, rr_1554, kr_4, kr_16, kr_30, kr_38, kr_100, kr_112, kr_120, kr_1547, kr_1554, lr_4, lr_16, lr_30, lr_38, lr_100, lr_112, lr_120, lr_1547, lr_1554, s_d hS, s_q hS, s_ni hS, s_nk hS, s_nr hS, s_nv hS, s_nb hS, s_nw hS, s_nn hS, s_i0 hS, s_i1 hS, s_i2 hS, s_k hS, s_r0 hS, s_r1 hS, s_r2 hS, s_r3 hS, s_v0 hS, s_v1 hS, s_v2 hS, s_v3 hS, s_v4 hS, s_v5 hS, s_b0 hS, s_b1 hS, s_b2 hS, s_b3 hS, s_b4 hS, s_w0 hS, s_w1 hS, s_w2 hS, s_w3 hS, s_n0 hS, s_n1 hS, show i < 10 by omega, c]
    refine k_gl hV hS0 (by omega) ?_
    exact ⟨a 3 + 1, k_ps_l hV hS0 hn (Nat.lt_of_le_of_lt Nat.and_le_right hx) h (a 3) 0 (by omega)⟩
  · rw [if_neg c] at h
    simp (disch := first | exact lt4 (hb _) | exact hb _ | omega) only [I_0, I_1, I_2, I_3, I_4, I_5, I_6, I_7, I_8, I_9, I_10, I_11, I_12, I_20, I_22, I_27, I_31, I_32, I_38, I_42, I_48, I_54, I_55, I_56, I_57, I_60, I_66, I_72, I_78, I_80, I_97, I_98, I_99, I_100, I_108, I_109, I_116, I_120, I_438, I_488, I_512, I_552, I_3864, oN_s, oN_n, bI_t, bI_f, Nat.add_zero, I_bt1, I_bt0, Nat.reduceLT, Nat.reduceLeDiff, Nat.reduceEqDiff, Nat.reduceAdd, Nat.reduceMul, Nat.reduceSub, tn_I, I_add, I_mul, I_div, vp_I, I_eq, I_le, I_lt, I_no, no_I, negI1, true_and, and_true, false_and, and_false, if_true, if_false, ite_true, ite_false, forall_eq, true_or, or_true, kn_0, kn_1, kn_2, kn_3, kn_4, kn_15, kn_16, kn_29, kn_30, kn_37, kn_38, kn_99, kn_100, kn_111, kn_112, kn_119, kn_120, kn_281, kn_282, kn_1543, kn_1544, kn_1545, kn_1546, kn_1547, kn_1551, kn_1552, kn_1553, kn_1554, lnn_2, lnn_4, lnn_16, lnn_30, lnn_38, lnn_100, lnn_112, lnn_120, lnn_282, lnn_1544, lnn_1547, lnn_1552, lnn_1554, rn_1_1, rn_1_2, rn_1_3, rn_1_4, rn_1_5, rn_1_6, rn_1_7, rn_1_8, rn_3_0, rn_15_0, rn_29_0, rn_37_0, rn_99_0, rn_111_0, rn_119_0, rn_1543_0, rn_1543_1, rn_1545_0, rn_1545_1, rn_0_0, rn_0_1, rn_0_3, rn_0_4, rn_0_5, rn_0_6, rn_0_7, rn_1546_0, rn_1551_0, rn_1551_3, rn_1553_0, rn_281_0, rr_4, rr_16, rr_30, rr_38, rr_100, rr_112, rr_120, rr_1547, rr_1554, kr_4, kr_16, kr_30, kr_38, kr_100, kr_112, kr_120, kr_1547, kr_1554, lr_4, lr_16, lr_30, lr_38, lr_100, lr_112, lr_120, lr_1547, lr_1554, s_d hS, s_q hS, s_ni hS, s_nk hS, s_nr hS, s_nv hS, s_nb hS, s_nw hS, s_nn hS, s_i0 hS, s_i1 hS, s_i2 hS, s_k hS, s_r0 hS, s_r1 hS, s_r2 hS, s_r3 hS, s_v0 hS, s_v1 hS, s_v2 hS, s_v3 hS, s_v4 hS, s_v5 hS, s_b0 hS, s_b1 hS, s_b2 hS, s_b3 hS, s_b4 hS, s_w0 hS, s_w1 hS, s_w2 hS, s_w3 hS, s_n0 hS, s_n1 hS, show i < 10 by omega, c]
    exact ⟨a 3 + 1, k_ps_l hV hS0 hn hx h (a 3) 0 (by omega)⟩
theorem k_refuse (r v : Int32) : T_X2_refuse Q 1543 r v (jm M g w) = Q r (jm M (updI g 5 v) w) := by
  unfold T_X2_refuse
  simp (disch := first | exact lt4 (hb _) | exact hb _ | omega) only [I_0, I_1, I_2, I_3, I_4, I_5, I_6, I_7, I_8, I_9, I_10, I_11, I_12, I_20, I_22, I_27, I_31, I_32, I_38, I_42, I_48, I_54, I_55, I_56, I_57, I_60, I_66, I_72, I_78, I_80, I_97, I_98, I_99, I_100, I_108, I_109, I_116, I_120, I_438, I_488, I_512, I_552, I_3864, oN_s, oN_n, bI_t, bI_f, Nat.add_zero, I_bt1, I_bt0, Nat.reduceLT, Nat.reduceLeDiff, Nat.reduceEqDiff, Nat.reduceAdd, Nat.reduceMul, Nat.reduceSub, tn_I, I_add, I_mul, I_div, vp_I, I_eq, I_le, I_lt, I_no, no_I, negI1, true_and, and_true, false_and, and_false, if_true, if_false, ite_true, ite_false, forall_eq, true_or, or_true, kn_0, kn_1, kn_2, kn_3, kn_4, kn_15, kn_16, kn_29, kn_30, kn_37, kn_38, kn_99, kn_100, kn_111, kn_112, kn_119, kn_120, kn_281, kn_282, kn_1543, kn_1544, kn_1545, kn_1546, kn_1547, kn_1551, kn_1552, kn_1553, kn_1554, lnn_2, lnn_4, lnn_16, lnn_30, lnn_38, lnn_100, lnn_112, lnn_120, lnn_282, lnn_1544, lnn_1547, lnn_1552, lnn_1554, rn_1_1, rn_1_2, rn_1_3, rn_1_4, rn_1_5, rn_1_6, rn_1_7, rn_1_8, rn_3_0, rn_15_0, rn_29_0, rn_37_0, rn_99_0, rn_111_0, rn_119_0, rn_1543_0, rn_1543_1, rn_1545_0, rn_1545_1, rn_0_0, rn_0_1, rn_0_3, rn_0_4, rn_0_5, rn_0_6, rn_0_7, rn_1546_0, rn_1551_0, rn_1551_3, rn_1553_0, rn_281_0, rr_4, rr_16, rr_30, rr_38, rr_100, rr_112, rr_120, rr_1547, rr_1554, kr_4, kr_16, kr_30, kr_38, kr_100, kr_112, kr_120, kr_1547, kr_1554, lr_4, lr_16, lr_30, lr_38, lr_100, lr_112, lr_120, lr_1547, lr_1554, jm_mg]
/-- the set of possible rooms as the judge has it -/
def PS (a : Nat → Nat) (i n d t : Nat) (w : Nat → Int32) : Nat := pst a n (if a (32 + i) = 1 then rset a (fun r => decide (a (66 + r) = 1)) &&& ((rset a (fun r => decide (a (72 + r) = 1)) ^^^ (rset a (fun r => decide (a (72 + r) = 1)) &&& used a d t)) ^^^ ((rset a (fun r => decide (a (72 + r) = 1)) ^^^ (rset a (fun r => decide (a (72 + r) = 1)) &&& used a d t)) &&& rset a (fun r => (ors (bw a i d w) (a 5)).testBit (a (54 + r))))) else ((rset a (fun r => decide (a (72 + r) = 1)) ^^^ (rset a (fun r => decide (a (72 + r) = 1)) &&& used a d t)) ^^^ ((rset a (fun r => decide (a (72 + r) = 1)) ^^^ (rset a (fun r => decide (a (72 + r) = 1)) &&& used a d t)) &&& rset a (fun r => (ors (bw a i d w) (a 5)).testBit (a (54 + r)))))) (a 3)
theorem k_possP (hV : VA a) (hS : St 1 a M) {i n d t : Nat} (hi : i < a 1) (hn : n < 100) (hx : ((rset a (fun r => decide (a (72 + r) = 1)) ^^^ (rset a (fun r => decide (a (72 + r) = 1)) &&& used a d t)) ^^^ ((rset a (fun r => decide (a (72 + r) = 1)) ^^^ (rset a (fun r => decide (a (72 + r) = 1)) &&& used a d t)) &&& rset a (fun r => (ors (bw a i d w) (a 5)).testBit (a (54 + r))))) < 64) (h : Q (I (PS a i n d t w)) (jm M g w)) : T_X2_possibleRooms Q 1543 (I i) (I n) (I ((rset a (fun r => decide (a (72 + r) = 1)) ^^^ (rset a (fun r => decide (a (72 + r) = 1)) &&& used a d t)) ^^^ ((rset a (fun r => decide (a (72 + r) = 1)) ^^^ (rset a (fun r => decide (a (72 + r) = 1)) &&& used a d t)) &&& rset a (fun r => (ors (bw a i d w) (a 5)).testBit (a (54 + r)))))) (jm M g w) := k_poss hV hS hi hn hx h
theorem PS_bit (hV : VA a) (hD : DD a) {i n d t r : Nat} (hi : i < a 1) (hw : ∀ k, k < 10 → w k = oN (visO a k d t)) : (PS a i n d t w).testBit r = (decide (r < a 3) && poss a r i n d t) := by
  have hg := (hV.2.2.1 i hi).2.2
  unfold PS
  rw [pst_bit]
  by_cases hr : r < a 3
  · have hrr := hV.2.2.2.2.1 r hr
    have hbn := bar_near hV hD (i := i) hr hw
    unfold poss
    rw [decide_eq_true hr]
    have e1 : decide (a (72 + r) = 1) = !decide (a (72 + r) = 0) := by
      by_cases c : a (72 + r) = 0
      · simp [c]
      · rw [decide_eq_true (by omega : a (72 + r) = 1), decide_eq_false c]; rfl
    by_cases c : a (32 + i) = 1
    · rw [if_pos c]
      simp only [Nat.testBit_xor, Nat.testBit_and, rset_bit, decide_eq_true hr, hbn, Bool.true_and, c, decide_true, e1]
      have e2 : decide (a (66 + r) = 1) = !decide (a (66 + r) = 0) := by
        by_cases c : a (66 + r) = 0
        · simp [c]
        · rw [decide_eq_true (by omega : a (66 + r) = 1), decide_eq_false c]; rfl
      rw [e2]
      cases decide (a (72 + r) = 0) <;> cases decide (a (60 + r) < n) <;> cases (used a d t).testBit r <;> cases decide (a (66 + r) = 0) <;> cases nearB a r i d t <;> rfl
    · rw [if_neg c]
      simp only [Nat.testBit_xor, Nat.testBit_and, rset_bit, decide_eq_true hr, hbn, Bool.true_and, decide_eq_false c, Bool.false_and, Bool.not_false, e1]
      cases decide (a (72 + r) = 0) <;> cases decide (a (60 + r) < n) <;> cases (used a d t).testBit r <;> cases nearB a r i d t <;> rfl
  · rw [decide_eq_false hr, Bool.false_and]
    by_cases c : a (32 + i) = 1
    · rw [if_pos c]; simp [Nat.testBit_xor, Nat.testBit_and, rset_bit, hr]
    · rw [if_neg c]; simp [Nat.testBit_xor, Nat.testBit_and, rset_bit, hr]
end Jd4

