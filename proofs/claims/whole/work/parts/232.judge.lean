/-! ===== THE CLASS's judge: which rooms are possible ===== -/
section Jd3
variable {M : Mem} {a : Nat → Nat} {g w : Nat → Int32} {Q : Int32 → Mem → Prop}
theorem I_shl2 {z k : Nat} (hz : z < 2) (hk : k < 31) : I z <<< (I k &&& I 31) = I (z * 2 ^ k) := by
  rcases (show z = 0 ∨ z = 1 by omega) with rfl | rfl
  · have : ∀ k : Fin 31, I 0 <<< (I k.val &&& I 31) = I (0 * 2 ^ k.val) := by decide +kernel
    exact this ⟨k, hk⟩
  · rw [I_shl hk, Nat.one_mul]
theorem wing3 : ∀ z : Fin 4, (I 7 <<< (I z.val &&& I 31)) >>> (I 1 &&& I 31) = I (2 ^ z.val * 7 / 2) := by decide +kernel
theorem wingb : ∀ (z r : Fin 4), (2 ^ z.val * 7 / 2).testBit r.val = decide (ad z.val r.val < 2) := by decide
/-- the wings that a partner's visit bars -/
def bw (a : Nat → Nat) (i d : Nat) (w : Nat → Int32) (k : Nat) : Nat := if a (438 + 5 * k) = 2 ∧ a (438 + 5 * k + 3) ≤ d ∧ d ≤ a (438 + 5 * k + 4) then (match (if a (438 + 5 * k + 1) = i then some (a (438 + 5 * k + 2)) else if a (438 + 5 * k + 2) = i then some (a (438 + 5 * k + 1)) else none) with | none => 0 | some q => if w q = NO then 0 else 2 ^ a (54 + a (78 + 6 * (w q).toNatClampNeg + 4)) * 7 / 2) else 0
theorem k_part (hV : VA a) (hS : St 1 a M) {k i : Nat} (hk : k < a 5) (hi : i < 4096) : T_X2_visitOfPartner Q 1543 (101 + k) (I i) (jm M g w) = Q (if a (438 + 5 * k) = 2 then (match (if a (438 + 5 * k + 1) = i then some (a (438 + 5 * k + 2)) else if a (438 + 5 * k + 2) = i then some (a (438 + 5 * k + 1)) else none) with | none => NO | some q => w q) else NO) (jm M g w) := by
  have hb := hV.1
  have h5 := hV.2.1.2.2.2.2.2.1
  have h1 := hV.2.1.2.1
  have hB := hV.2.2.2.2.2.2.1 k hk
  have hS := jm_St hV hS g w
  unfold T_X2_visitOfPartner T_X2_visitOfPartner_44
  by_cases c1 : a (438 + 5 * k) = 2
  · have hB2 := hB.2.2.2.2.1 c1
    simp (disch := first | exact lt4 (hb _) | exact hb _ | omega) only [I_0, I_1, I_2, I_3, I_4, I_5, I_6, I_7, I_8, I_9, I_10, I_11, I_12, I_20, I_22, I_27, I_31, I_32, I_38, I_42, I_48, I_54, I_55, I_56, I_57, I_60, I_66, I_72, I_78, I_80, I_97, I_98, I_99, I_100, I_108, I_109, I_116, I_120, I_438, I_488, I_512, I_552, I_3864, oN_s, oN_n, bI_t, bI_f, Nat.add_zero, I_bt1, I_bt0, Nat.reduceLT, Nat.reduceLeDiff, Nat.reduceEqDiff, Nat.reduceAdd, Nat.reduceMul, Nat.reduceSub, tn_I, I_add, I_mul, I_div, vp_I, I_eq, I_le, I_lt, I_no, no_I, negI1, true_and, and_true, false_and, and_false, if_true, if_false, ite_true, ite_false, forall_eq, true_or, or_true, kn_0, kn_1, kn_2, kn_3, kn_4, kn_15, kn_16, kn_29, kn_30, kn_37, kn_38, kn_99, kn_100, kn_111, kn_112, kn_119, kn_120, kn_281, kn_282, kn_1543, kn_1544, kn_1545, kn_1546, kn_1547, kn_1551, kn_1552, kn_1553, kn_1554, lnn_2, lnn_4, lnn_16, lnn_30, lnn_38, lnn_100, lnn_112, lnn_120, lnn_282, lnn_1544, lnn_1547, lnn_1552, lnn_1554, rn_1_1, rn_1_2, rn_1_3, rn_1_4, rn_1_5, rn_1_6, rn_1_7, rn_1_8, rn_3_0, rn_15_0, rn_29_0, rn_37_0, rn_99_0, rn_111_0, rn_119_0, rn_1543_0, rn_1543_1, rn_1545_0, rn_1545_1, rn_0_0, rn_0_1, rn_0_3, rn_0_4, rn_0_5, rn_0_6, rn_0_7, rn_1546_0, rn_1551_0, rn_1551_3, rn_1553_0, rn_281_0, rr_4, rr_16, rr_30, rr_38, rr_100, rr_112, rr_120, rr_1547, rr_1554, kr_4, kr_16, kr_30, kr_38, kr_100, kr_112, kr_120, kr_1547, kr_1554, lr_4, lr_16, lr_30, lr_38, lr_100, lr_112, lr_120, lr_1547, lr_1554, s_d hS, s_q hS, s_ni hS, s_nk hS, s_nr hS, s_nv hS, s_nb hS, s_nw hS, s_nn hS, s_i0 hS, s_i1 hS, s_i2 hS, s_k hS, s_r0 hS, s_r1 hS, s_r2 hS, s_r3 hS, s_v0 hS, s_v1 hS, s_v2 hS, s_v3 hS, s_v4 hS, s_v5 hS, s_b0 hS, s_b1 hS, s_b2 hS, s_b3 hS, s_b4 hS, s_w0 hS, s_w1 hS, s_w2 hS, s_w3 hS, s_n0 hS, s_n1 hS, show k < 10 by omega, c1, jm_w, show a (438 + 5 * k + 1) < 10 by omega, show a (438 + 5 * k + 2) < 10 by omega]
    by_cases c2 : a (438 + 5 * k + 1) = i
    · rw [if_pos c2, if_pos c2]
    · rw [if_neg c2, if_neg c2]
      by_cases c3 : a (438 + 5 * k + 2) = i
      · rw [if_pos c3, if_pos c3]
      · rw [if_neg c3, if_neg c3]
  · simp (disch := first | exact lt4 (hb _) | exact hb _ | omega) only [I_0, I_1, I_2, I_3, I_4, I_5, I_6, I_7, I_8, I_9, I_10, I_11, I_12, I_20, I_22, I_27, I_31, I_32, I_38, I_42, I_48, I_54, I_55, I_56, I_57, I_60, I_66, I_72, I_78, I_80, I_97, I_98, I_99, I_100, I_108, I_109, I_116, I_120, I_438, I_488, I_512, I_552, I_3864, oN_s, oN_n, bI_t, bI_f, Nat.add_zero, I_bt1, I_bt0, Nat.reduceLT, Nat.reduceLeDiff, Nat.reduceEqDiff, Nat.reduceAdd, Nat.reduceMul, Nat.reduceSub, tn_I, I_add, I_mul, I_div, vp_I, I_eq, I_le, I_lt, I_no, no_I, negI1, true_and, and_true, false_and, and_false, if_true, if_false, ite_true, ite_false, forall_eq, true_or, or_true, kn_0, kn_1, kn_2, kn_3, kn_4, kn_15, kn_16, kn_29, kn_30, kn_37, kn_38, kn_99, kn_100, kn_111, kn_112, kn_119, kn_120, kn_281, kn_282, kn_1543, kn_1544, kn_1545, kn_1546, kn_1547, kn_1551, kn_1552, kn_1553, kn_1554, lnn_2, lnn_4, lnn_16, lnn_30, lnn_38, lnn_100, lnn_112, lnn_120, lnn_282, lnn_1544, lnn_1547, lnn_1552, lnn_1554, rn_1_1, rn_1_2, rn_1_3, rn_1_4, rn_1_5, rn_1_6, rn_1_7, rn_1_8, rn_3_0, rn_15_0, rn_29_0, rn_37_0, rn_99_0, rn_111_0, rn_119_0, rn_1543_0, rn_1543_1, rn_1545_0, rn_1545_1, rn_0_0, rn_0_1, rn_0_3, rn_0_4, rn_0_5, rn_0_6, rn_0_7, rn_1546_0, rn_1551_0, rn_1551_3, rn_1553_0, rn_281_0, rr_4, rr_16, rr_30, rr_38, rr_100, rr_112, rr_120, rr_1547, rr_1554, kr_4, kr_16, kr_30, kr_38, kr_100, kr_112, kr_120, kr_1547, kr_1554, lr_4, lr_16, lr_30, lr_38, lr_100, lr_112, lr_120, lr_1547, lr_1554, s_d hS, s_q hS, s_ni hS, s_nk hS, s_nr hS, s_nv hS, s_nb hS, s_nw hS, s_nn hS, s_i0 hS, s_i1 hS, s_i2 hS, s_k hS, s_r0 hS, s_r1 hS, s_r2 hS, s_r3 hS, s_v0 hS, s_v1 hS, s_v2 hS, s_v3 hS, s_v4 hS, s_v5 hS, s_b0 hS, s_b1 hS, s_b2 hS, s_b3 hS, s_b4 hS, s_w0 hS, s_w1 hS, s_w2 hS, s_w3 hS, s_n0 hS, s_n1 hS, show k < 10 by omega, c1]
theorem bw_lt (hV : VA a) {i d : Nat} (k : Nat) (hw : ∀ q, q < 10 → w q = NO ∨ ∃ v, v < a 4 ∧ w q = I v) (hk : k < a 5) : bw a i d w k < 2 ^ 5 := by
  have hB := hV.2.2.2.2.2.2.1 k hk
  have h1 := hV.2.1.2.1
  have h4 := hV.2.1.2.2.2.2.1
  have fin : ∀ q, q < 10 → (if w q = NO then 0 else 2 ^ a (54 + a (78 + 6 * (w q).toNatClampNeg + 4)) * 7 / 2) < 2 ^ 5 := by
    intro q hq
    rcases hw q hq with e | ⟨v, hv, e⟩
    · rw [if_pos e]; decide
    · rw [if_neg (by rw [e, I_no (by omega)]; exact id), e, tn_I (by omega)]
      have hvv := hV.2.2.2.2.2.1 v hv
      have hr := (hV.2.2.2.2.1 _ hvv.2.2.2.2.1).1
      rcases (show a (54 + a (78 + 6 * v + 4)) = 0 ∨ a (54 + a (78 + 6 * v + 4)) = 1 ∨ a (54 + a (78 + 6 * v + 4)) = 2 ∨ a (54 + a (78 + 6 * v + 4)) = 3 by omega) with e | e | e | e <;> rw [e] <;> decide
  unfold bw
  split
  · rename_i h
    have hB2 := hB.2.2.2.2.1 h.1
    by_cases c2 : a (438 + 5 * k + 1) = i
    · rw [if_pos c2]; exact fin _ (by omega)
    · rw [if_neg c2]
      by_cases c3 : a (438 + 5 * k + 2) = i
      · rw [if_pos c3]; exact fin _ (by omega)
      · rw [if_neg c3]; show (0 : Nat) < 2 ^ 5; decide
  · decide
theorem k_bar1 (hV : VA a) (hS : St 1 a M) {W : Nat} (hW : W < 32) (h : Q (I (rset a (fun r => W.testBit (a (54 + r))))) (jm M g w)) : ∀ m k, k + m = a 3 → T_X2_barredRooms_118 Q (m + 1) 1543 (I W) (I (ors (fun r => if W.testBit (a (54 + r)) = true then 2 ^ r else 0) k)) (I k) (jm M g w) := by
  have hb := hV.1
  have h3 := hV.2.1.2.2.2.1
  have hS := jm_St hV hS g w
  intro m
  induction m with
  | zero =>
    intro k hk
    obtain rfl : k = a 3 := by omega
    unfold T_X2_barredRooms_118
    simp (disch := first | exact lt4 (hb _) | exact hb _ | omega) only [I_0, I_1, I_2, I_3, I_4, I_5, I_6, I_7, I_8, I_9, I_10, I_11, I_12, I_20, I_22, I_27, I_31, I_32, I_38, I_42, I_48, I_54, I_55, I_56, I_57, I_60, I_66, I_72, I_78, I_80, I_97, I_98, I_99, I_100, I_108, I_109, I_116, I_120, I_438, I_488, I_512, I_552, I_3864, oN_s, oN_n, bI_t, bI_f, Nat.add_zero, I_bt1, I_bt0, Nat.reduceLT, Nat.reduceLeDiff, Nat.reduceEqDiff, Nat.reduceAdd, Nat.reduceMul, Nat.reduceSub, tn_I, I_add, I_mul, I_div, vp_I, I_eq, I_le, I_lt, I_no, no_I, negI1, true_and, and_true, false_and, and_false, if_true, if_false, ite_true, ite_false, forall_eq, true_or, or_true, kn_0, kn_1, kn_2, kn_3, kn_4, kn_15, kn_16, kn_29, kn_30, kn_37, kn_38, kn_99, kn_100, kn_111, kn_112, kn_119, kn_120, kn_281, kn_282, kn_1543, kn_1544, kn_1545, kn_1546, kn_1547, kn_1551, kn_1552, kn_1553, kn_1554, lnn_2, lnn_4, lnn_16, lnn_30, lnn_38, lnn_100, lnn_112, lnn_120, lnn_282, lnn_1544, lnn_1547, lnn_1552, lnn_1554, rn_1_1, rn_1_2, rn_1_3, rn_1_4, rn_1_5, rn_1_6, rn_1_7, rn_1_8, rn_3_0, rn_15_0, rn_29_0, rn_37_0, rn_99_0, rn_111_0, rn_119_0, rn_1543_0, rn_1543_1, rn_1545_0, rn_1545_1, rn_0_0, rn_0_1, rn_0_3, rn_0_4, rn_0_5, rn_0_6, rn_0_7, rn_1546_0, rn_1551_0, rn_1551_3, rn_1553_0, rn_281_0, rr_4, rr_16, rr_30, rr_38, rr_100, rr_112, rr_120, rr_1547, rr_1554, kr_4, kr_16, kr_30, kr_38, kr_100, kr_112, kr_120, kr_1547, kr_1554, lr_4, lr_16, lr_30, lr_38, lr_100, lr_112, lr_120, lr_1547, lr_1554, s_d hS, s_q hS, s_ni hS, s_nk hS, s_nr hS, s_nv hS, s_nb hS, s_nw hS, s_nn hS, s_i0 hS, s_i1 hS, s_i2 hS, s_k hS, s_r0 hS, s_r1 hS, s_r2 hS, s_r3 hS, s_v0 hS, s_v1 hS, s_v2 hS, s_v3 hS, s_v4 hS, s_v5 hS, s_b0 hS, s_b1 hS, s_b2 hS, s_b3 hS, s_b4 hS, s_w0 hS, s_w1 hS, s_w2 hS, s_w3 hS, s_n0 hS, s_n1 hS, Nat.le_refl]
    exact h
  | succ m ih =>
    intro k hk
    have hr := (hV.2.2.2.2.1 k (by omega)).1
    have h9 := ih (k + 1) (by omega)
    rw [ors_s] at h9
    unfold T_X2_barredRooms_118
    simp (disch := first | exact lt4 (hb _) | exact hb _ | omega) only [I_0, I_1, I_2, I_3, I_4, I_5, I_6, I_7, I_8, I_9, I_10, I_11, I_12, I_20, I_22, I_27, I_31, I_32, I_38, I_42, I_48, I_54, I_55, I_56, I_57, I_60, I_66, I_72, I_78, I_80, I_97, I_98, I_99, I_100, I_108, I_109, I_116, I_120, I_438, I_488, I_512, I_552, I_3864, oN_s, oN_n, bI_t, bI_f, Nat.add_zero, I_bt1, I_bt0, Nat.reduceLT, Nat.reduceLeDiff, Nat.reduceEqDiff, Nat.reduceAdd, Nat.reduceMul, Nat.reduceSub, tn_I, I_add, I_mul, I_div, vp_I, I_eq, I_le, I_lt, I_no, no_I, negI1, true_and, and_true, false_and, and_false, if_true, if_false, ite_true, ite_false, forall_eq, true_or, or_true, kn_0, kn_1, kn_2, kn_3, kn_4, kn_15, kn_16, kn_29, kn_30, kn_37, kn_38, kn_99, kn_100, kn_111, kn_112, kn_119, kn_120, kn_281, kn_282, kn_1543, kn_1544, kn_1545, kn_1546, kn_1547, kn_1551, kn_1552, kn_1553, kn_1554, lnn_2, lnn_4, lnn_16, lnn_30, lnn_38, lnn_100, lnn_112, lnn_120, lnn_282, lnn_1544, lnn_1547, lnn_1552, lnn_1554, rn_1_1, rn_1_2, rn_1_3, rn_1_4, rn_1_5, rn_1_6, rn_1_7, rn_1_8, rn_3_0, rn_15_0, rn_29_0, rn_37_0, rn_99_0, rn_111_0, rn_119_0, rn_1543_0, rn_1543_1, rn_1545_0, rn_1545_1, rn_0_0, rn_0_1, rn_0_3, rn_0_4, rn_0_5, rn_0_6, rn_0_7, rn_1546_0, rn_1551_0, rn_1551_3, rn_1553_0, rn_281_0, rr_4, rr_16, rr_30, rr_38, rr_100, rr_112, rr_120, rr_1547, rr_1554, kr_4, kr_16, kr_30, kr_38, kr_100, kr_112, kr_120, kr_1547, kr_1554, lr_4, lr_16, lr_30, lr_38, lr_100, lr_112, lr_120, lr_1547, lr_1554, s_d hS, s_q hS, s_ni hS, s_nk hS, s_nr hS, s_nv hS, s_nb hS, s_nw hS, s_nn hS, s_i0 hS, s_i1 hS, s_i2 hS, s_k hS, s_r0 hS, s_r1 hS, s_r2 hS, s_r3 hS, s_v0 hS, s_v1 hS, s_v2 hS, s_v3 hS, s_v4 hS, s_v5 hS, s_b0 hS, s_b1 hS, s_b2 hS, s_b3 hS, s_b4 hS, s_w0 hS, s_w1 hS, s_w2 hS, s_w3 hS, s_n0 hS, s_n1 hS, show ¬ a 3 ≤ k by omega, show k < 6 by omega, I_bit (show W < 2147483648 by omega) (show a (54 + k) < 31 by omega), I_shl2 (bt_lt W (a (54 + k))) (show k < 31 by omega), I_or]
    have e : bt W (a (54 + k)) * 2 ^ k = if W.testBit (a (54 + k)) = true then 2 ^ k else 0 := by
      unfold bt
      cases W.testBit (a (54 + k)) <;> simp
    rw [e]
    exact h9
theorem k_bar2 (hV : VA a) (hS : St 1 a M) {i d : Nat} (hi : i < 4096) (hd : d < 4096) (hw : ∀ q, q < 10 → w q = NO ∨ ∃ v, v < a 4 ∧ w q = I v) (h : Q (I (rset a (fun r => (ors (bw a i d w) (a 5)).testBit (a (54 + r))))) (jm M g w)) : ∀ m k, k + m = a 5 → T_X2_barredRooms_5 Q (m + 1) 1543 (I i) (I d) (I (ors (bw a i d w) k)) (I k) (jm M g w) := by
  have hb := hV.1
  have h5 := hV.2.1.2.2.2.2.2.1
  have h4 := hV.2.1.2.2.2.2.1
  have h3 := hV.2.1.2.2.2.1
  have h1 := hV.2.1.2.1
  have hS0 := hS
  have hS := jm_St hV hS g w
  intro m
  induction m with
  | zero =>
    intro k hk
    obtain rfl : k = a 5 := by omega
    unfold T_X2_barredRooms_5
    simp (disch := first | exact lt4 (hb _) | exact hb _ | omega) only [I_0, I_1, I_2, I_3, I_4, I_5, I_6, I_7, I_8, I_9, I_10, I_11, I_12, I_20, I_22, I_27, I_31, I_32, I_38, I_42, I_48, I_54, I_55, I_56, I_57, I_60, I_66, I_72, I_78, I_80, I_97, I_98, I_99, I_100, I_108, I_109, I_116, I_120, I_438, I_488, I_512, I_552, I_3864, oN_s, oN_n, bI_t, bI_f, Nat.add_zero, I_bt1, I_bt0, Nat.reduceLT, Nat.reduceLeDiff, Nat.reduceEqDiff, Nat.reduceAdd, Nat.reduceMul, Nat.reduceSub, tn_I, I_add, I_mul, I_div, vp_I, I_eq, I_le, I_lt, I_no, no_I, negI1, true_and, and_true, false_and, and_false, if_true, if_false, ite_true, ite_false, forall_eq, true_or, or_true, kn_0, kn_1, kn_2, kn_3, kn_4, kn_15, kn_16, kn_29, kn_30, kn_37, kn_38, kn_99, kn_100, kn_111, kn_112, kn_119, kn_120, kn_281, kn_282, kn_1543, kn_1544, kn_1545, kn_1546, kn_1547, kn_1551, kn_1552, kn_1553, kn_1554, lnn_2, lnn_4, lnn_16, lnn_30, lnn_38, lnn_100, lnn_112, lnn_120, lnn_282, lnn_1544, lnn_1547, lnn_1552, lnn_1554, rn_1_1, rn_1_2, rn_1_3, rn_1_4, rn_1_5, rn_1_6, rn_1_7, rn_1_8, rn_3_0, rn_15_0, rn_29_0, rn_37_0, rn_99_0, rn_111_0, rn_119_0, rn_1543_0, rn_1543_1, rn_1545_0, rn_1545_1, rn_0_0, rn_0_1, rn_0_3, rn_0_4, rn_0_5, rn_0_6, rn_0_7, rn_1546_0, rn_1551_0, rn_1551_3, rn_1553_0, rn_281_0, rr_4, rr_16, rr_30, rr_38, rr_100, rr_112, rr_120, rr_1547, rr_1554, kr_4, kr_16, kr_30, kr_38, kr_100, kr_112, kr_120, kr_1547, kr_1554, lr_4, lr_16, lr_30, lr_38, lr_100, lr_112, lr_120, lr_1547, lr_1554, s_d hS, s_q hS, s_ni hS, s_nk hS, s_nr hS, s_nv hS, s_nb hS, s_nw hS, s_nn hS, s_i0 hS, s_i1 hS, s_i2 hS, s_k hS, s_r0 hS, s_r1 hS, s_r2 hS, s_r3 hS, s_v0 hS, s_v1 hS, s_v2 hS, s_v3 hS, s_v4 hS, s_v5 hS, s_b0 hS, s_b1 hS, s_b2 hS, s_b3 hS, s_b4 hS, s_w0 hS, s_w1 hS, s_w2 hS, s_w3 hS, s_n0 hS, s_n1 hS, Nat.le_refl]
    exact ⟨a 3 + 1, k_bar1 hV hS0 (ors_lt (w := 5) (fun k hk => bw_lt hV k hw hk)) h (a 3) 0 (by omega)⟩
  | succ m ih =>
    intro k hk
    have h9 := ih (k + 1) (by omega)
    rw [ors_s] at h9
    have hB := hV.2.2.2.2.2.2.1 k (by omega)
    unfold T_X2_barredRooms_5 T_X2_barredRooms_106
    simp (disch := first | exact lt4 (hb _) | exact hb _ | omega) only [I_0, I_1, I_2, I_3, I_4, I_5, I_6, I_7, I_8, I_9, I_10, I_11, I_12, I_20, I_22, I_27, I_31, I_32, I_38, I_42, I_48, I_54, I_55, I_56, I_57, I_60, I_66, I_72, I_78, I_80, I_97, I_98, I_99, I_100, I_108, I_109, I_116, I_120, I_438, I_488, I_512, I_552, I_3864, oN_s, oN_n, bI_t, bI_f, Nat.add_zero, I_bt1, I_bt0, Nat.reduceLT, Nat.reduceLeDiff, Nat.reduceEqDiff, Nat.reduceAdd, Nat.reduceMul, Nat.reduceSub, tn_I, I_add, I_mul, I_div, vp_I, I_eq, I_le, I_lt, I_no, no_I, negI1, true_and, and_true, false_and, and_false, if_true, if_false, ite_true, ite_false, forall_eq, true_or, or_true, kn_0, kn_1, kn_2, kn_3, kn_4, kn_15, kn_16, kn_29, kn_30, kn_37, kn_38, kn_99, kn_100, kn_111, kn_112, kn_119, kn_120, kn_281, kn_282, kn_1543, kn_1544, kn_1545, kn_1546, kn_1547, kn_1551, kn_1552, kn_1553, kn_1554, lnn_2, lnn_4, lnn_16, lnn_30, lnn_38, lnn_100, lnn_112, lnn_120, lnn_282, lnn_1544, lnn_1547, lnn_1552, lnn_1554, rn_1_1, rn_1_2, rn_1_3, rn_1_4, rn_1_5, rn_1_6, rn_1_7, rn_1_8, rn_3_0, rn_15_0, rn_29_0, rn_37_0, rn_99_0, rn_111_0, rn_119_0, rn_1543_0, rn_1543_1, rn_1545_0, rn_1545_1, rn_0_0, rn_0_1, rn_0_3, rn_0_4, rn_0_5, rn_0_6, rn_0_7, rn_1546_0, rn_1551_0, rn_1551_3, rn_1553_0, rn_281_0, rr_4, rr_16, rr_30, rr_38, rr_100, rr_112, rr_120, rr_1547, rr_1554, kr_4, kr_16, kr_30, kr_38, kr_100, kr_112, kr_120, kr_1547, kr_1554, lr_4, lr_16, lr_30, lr_38, lr_100, lr_112, lr_120, lr_1547, lr_1554, s_d hS, s_q hS, s_ni hS, s_nk hS, s_nr hS, s_nv hS, s_nb hS, s_nw hS, s_nn hS, s_i0 hS, s_i1 hS, s_i2 hS, s_k hS, s_r0 hS, s_r1 hS, s_r2 hS, s_r3 hS, s_v0 hS, s_v1 hS, s_v2 hS, s_v3 hS, s_v4 hS, s_v5 hS, s_b0 hS, s_b1 hS, s_b2 hS, s_b3 hS, s_b4 hS, s_w0 hS, s_w1 hS, s_w2 hS, s_w3 hS, s_n0 hS, s_n1 hS, show ¬ a 5 ≤ k by omega, show k < 10 by omega, k_part hV hS0 (show k < a 5 by omega) hi]
    by_cases c1 : a (438 + 5 * k) = 2
    · have hB2 := hB.2.2.2.2.1 c1
      rw [if_pos c1]
      have ebw : bw a i d w k = if a (438 + 5 * k + 3) ≤ d ∧ d ≤ a (438 + 5 * k + 4) then (match (if a (438 + 5 * k + 1) = i then some (a (438 + 5 * k + 2)) else if a (438 + 5 * k + 2) = i then some (a (438 + 5 * k + 1)) else none) with | none => 0 | some q => if w q = NO then 0 else 2 ^ a (54 + a (78 + 6 * (w q).toNatClampNeg + 4)) * 7 / 2) else 0 := by
        unfold bw
        by_cases c : a (438 + 5 * k + 3) ≤ d ∧ d ≤ a (438 + 5 * k + 4)
        · rw [if_pos ⟨c1, c⟩, if_pos c]
        · rw [if_neg (fun z => c z.2), if_neg c]
      have hq : ∀ q, (if a (438 + 5 * k + 1) = i then some (a (438 + 5 * k + 2)) else if a (438 + 5 * k + 2) = i then some (a (438 + 5 * k + 1)) else none) = some q → q < 10 := by
        intro q e
        by_cases c2 : a (438 + 5 * k + 1) = i
        · rw [if_pos c2] at e; cases e; omega
        · rw [if_neg c2] at e
          by_cases c3 : a (438 + 5 * k + 2) = i
          · rw [if_pos c3] at e; cases e; omega
          · rw [if_neg c3] at e; cases e
      generalize (if a (438 + 5 * k + 1) = i then some (a (438 + 5 * k + 2)) else if a (438 + 5 * k + 2) = i then some (a (438 + 5 * k + 1)) else none) = P at ebw hq ⊢
      have zero : bw a i d w k = 0 → T_X2_barredRooms_5 Q (m + 1) 1543 (I i) (I d) (I (ors (bw a i d w) k)) (I (k + 1)) (jm M g w) := by
        intro e
        rw [e, Nat.or_zero] at h9
        exact h9
      cases P with
      | none =>
        dsimp only
        simp (disch := first | exact lt4 (hb _) | exact hb _ | omega) only [I_0, I_1, I_2, I_3, I_4, I_5, I_6, I_7, I_8, I_9, I_10, I_11, I_12, I_20, I_22, I_27, I_31, I_32, I_38, I_42, I_48, I_54, I_55, I_56, I_57, I_60, I_66, I_72, I_78, I_80, I_97, I_98, I_99, I_100, I_108, I_109, I_116, I_120, I_438, I_488, I_512, I_552, I_3864, oN_s, oN_n, bI_t, bI_f, Nat.add_zero, I_bt1, I_bt0, Nat.reduceLT, Nat.reduceLeDiff, Nat.reduceEqDiff, Nat.reduceAdd, Nat.reduceMul, Nat.reduceSub, tn_I, I_add, I_mul, I_div, vp_I, I_eq, I_le, I_lt, I_no, no_I, negI1, true_and, and_true, false_and, and_false, if_true, if_false, ite_true, ite_false, forall_eq, true_or, or_true, kn_0, kn_1, kn_2, kn_3, kn_4, kn_15, kn_16, kn_29, kn_30, kn_37, kn_38, kn_99, kn_100, kn_111, kn_112, kn_119, kn_120, kn_281, kn_282, kn_1543, kn_1544, kn_1545, kn_1546, kn_1547, kn_1551, kn_1552, kn_1553, kn_1554, lnn_2, lnn_4, lnn_16, lnn_30, lnn_38, lnn_100, lnn_112, lnn_120, lnn_282, lnn_1544, lnn_1547, lnn_1552, lnn_1554, rn_1_1, rn_1_2, rn_1_3, rn_1_4, rn_1_5, rn_1_6, rn_1_7, rn_1_8, rn_3_0, rn_15_0, rn_29_0, rn_37_0, rn_99_0, rn_111_0, rn_119_0, rn_1543_0, rn_1543_1, rn_1545_0, rn_1545_1, rn_0_0, rn_0_1, rn_0_3, rn_0_4, rn_0_5, rn_0_6, rn_0_7, rn_1546_0, rn_1551_0, rn_1551_3, rn_1553_0, rn_281_0, rr_4, rr_16, rr_30, rr_38, rr_100, rr_112, rr_120, rr_1547, rr_1554, kr_4, kr_16, kr_30, kr_38, kr_100, kr_112, kr_120, kr_1547, kr_1554, lr_4, lr_16, lr_30, lr_38, lr_100, lr_112, lr_120, lr_1547, lr_1554, s_d hS, s_q hS, s_ni hS, s_nk hS, s_nr hS, s_nv hS, s_nb hS, s_nw hS, s_nn hS, s_i0 hS, s_i1 hS, s_i2 hS, s_k hS, s_r0 hS, s_r1 hS, s_r2 hS, s_r3 hS, s_v0 hS, s_v1 hS, s_v2 hS, s_v3 hS, s_v4 hS, s_v5 hS, s_b0 hS, s_b1 hS, s_b2 hS, s_b3 hS, s_b4 hS, s_w0 hS, s_w1 hS, s_w2 hS, s_w3 hS, s_n0 hS, s_n1 hS]
        refine zero ?_
        rw [ebw]
        dsimp only
        split <;> rfl
      | some q =>
        dsimp only at ebw ⊢
        rcases hw q (hq q rfl) with e | ⟨v, hv, e⟩
        · simp only [e, eq_self, if_true] at ebw ⊢
          refine zero ?_
          rw [ebw]
          split <;> rfl
        · have hvv := hV.2.2.2.2.2.1 v hv
          have hr := (hV.2.2.2.2.1 _ hvv.2.2.2.2.1).1
          have e7 : (I 7 <<< (I (a (54 + a (78 + 6 * v + 4))) &&& I 31)) >>> (I 1 &&& I 31) = I (2 ^ a (54 + a (78 + 6 * v + 4)) * 7 / 2) := wing3 ⟨_, hr⟩
          simp only [e] at ebw ⊢
          rw [if_neg (show ¬ I v = NO by rw [I_no (by omega)]; exact id), tn_I (show v < 2147483648 by omega)] at ebw
          simp (disch := first | exact lt4 (hb _) | exact hb _ | omega) only [I_0, I_1, I_2, I_3, I_4, I_5, I_6, I_7, I_8, I_9, I_10, I_11, I_12, I_20, I_22, I_27, I_31, I_32, I_38, I_42, I_48, I_54, I_55, I_56, I_57, I_60, I_66, I_72, I_78, I_80, I_97, I_98, I_99, I_100, I_108, I_109, I_116, I_120, I_438, I_488, I_512, I_552, I_3864, oN_s, oN_n, bI_t, bI_f, Nat.add_zero, I_bt1, I_bt0, Nat.reduceLT, Nat.reduceLeDiff, Nat.reduceEqDiff, Nat.reduceAdd, Nat.reduceMul, Nat.reduceSub, tn_I, I_add, I_mul, I_div, vp_I, I_eq, I_le, I_lt, I_no, no_I, negI1, true_and, and_true, false_and, and_false, if_true, if_false, ite_true, ite_false, forall_eq, true_or, or_true, kn_0, kn_1, kn_2, kn_3, kn_4, kn_15, kn_16, kn_29, kn_30, kn_37, kn_38, kn_99, kn_100, kn_111, kn_112, kn_119, kn_120, kn_281, kn_282, kn_1543, kn_1544, kn_1545, kn_1546, kn_1547, kn_1551, kn_1552, kn_1553, kn_1554, lnn_2, lnn_4, lnn_16, lnn_30, lnn_38, lnn_100, lnn_112, lnn_120, lnn_282, lnn_1544, lnn_1547, lnn_1552, lnn_1554, rn_1_1, rn_1_2, rn_1_3, rn_1_4, rn_1_5, rn_1_6, rn_1_7, rn_1_8, rn_3_0, rn_15_0, rn_29_0, rn_37_0, rn_99_0, rn_111_0, rn_119_0, rn_1543_0, rn_1543_1, rn_1545_0, rn_1545_1, rn_0_0, rn_0_1, rn_0_3, rn_0_4, rn_0_5, rn_0_6, rn_0_7, rn_1546_0, rn_1551_0, rn_1551_3, rn_1553_0, rn_281_0, rr_4, rr_16, rr_30, rr_38, rr_100, rr_112, rr_120, rr_1547, rr_1554, kr_4, kr_16, kr_30, kr_38, kr_100, kr_112, kr_120, kr_1547, kr_1554, lr_4, lr_16, lr_30, lr_38, lr_100, lr_112, lr_120, lr_1547, lr_1554, s_d hS, s_q hS, s_ni hS, s_nk hS, s_nr hS, s_nv hS, s_nb hS, s_nw hS, s_nn hS, s_i0 hS, s_i1 hS, s_i2 hS, s_k hS, s_r0 hS, s_r1 hS, s_r2 hS, s_r3 hS, s_v0 hS, s_v1 hS, s_v2 hS, s_v3 hS, s_v4 hS, s_v5 hS, s_b0 hS, s_b1 hS, s_b2 hS, s_b3 hS, s_b4 hS, s_w0 hS, s_w1 hS, s_w2 hS, s_w3 hS, s_n0 hS, s_n1 hS, show k < 10 by omega, show v < 60 by omega, show a (78 + 6 * v + 4) < 6 by omega, e7, I_or]
          by_cases c4 : d < a (438 + 5 * k + 3)
          · rw [if_pos c4]
            exact zero (by rw [ebw, if_neg (by omega)])
          · rw [if_neg c4]
            by_cases c5 : a (438 + 5 * k + 4) < d
            · rw [if_pos c5]
              exact zero (by rw [ebw, if_neg (by omega)])
            · rw [if_neg c5]
              rw [ebw, if_pos (by omega)] at h9
              exact h9
    · rw [if_neg c1]
      simp (disch := first | exact lt4 (hb _) | exact hb _ | omega) only [I_0, I_1, I_2, I_3, I_4, I_5, I_6, I_7, I_8, I_9, I_10, I_11, I_12, I_20, I_22, I_27, I_31, I_32, I_38, I_42, I_48, I_54, I_55, I_56, I_57, I_60, I_66, I_72, I_78, I_80, I_97, I_98, I_99, I_100, I_108, I_109, I_116, I_120, I_438, I_488, I_512, I_552, I_3864, oN_s, oN_n, bI_t, bI_f, Nat.add_zero, I_bt1, I_bt0, Nat.reduceLT, Nat.reduceLeDiff, Nat.reduceEqDiff, Nat.reduceAdd, Nat.reduceMul, Nat.reduceSub, tn_I, I_add, I_mul, I_div, vp_I, I_eq, I_le, I_lt, I_no, no_I, negI1, true_and, and_true, false_and, and_false, if_true, if_false, ite_true, ite_false, forall_eq, true_or, or_true, kn_0, kn_1, kn_2, kn_3, kn_4, kn_15, kn_16, kn_29, kn_30, kn_37, kn_38, kn_99, kn_100, kn_111, kn_112, kn_119, kn_120, kn_281, kn_282, kn_1543, kn_1544, kn_1545, kn_1546, kn_1547, kn_1551, kn_1552, kn_1553, kn_1554, lnn_2, lnn_4, lnn_16, lnn_30, lnn_38, lnn_100, lnn_112, lnn_120, lnn_282, lnn_1544, lnn_1547, lnn_1552, lnn_1554, rn_1_1, rn_1_2, rn_1_3, rn_1_4, rn_1_5, rn_1_6, rn_1_7, rn_1_8, rn_3_0, rn_15_0, rn_29_0, rn_37_0, rn_99_0, rn_111_0, rn_119_0, rn_1543_0, rn_1543_1, rn_1545_0, rn_1545_1, rn_0_0, rn_0_1, rn_0_3, rn_0_4, rn_0_5, rn_0_6, rn_0_7, rn_1546_0, rn_1551_0, rn_1551_3, rn_1553_0, rn_281_0, rr_4, rr_16, rr_30, rr_38, rr_100, rr_112, rr_120, rr_1547, rr_1554, kr_4, kr_16, kr_30, kr_38, kr_100, kr_112, kr_120, kr_1547, kr_1554, lr_4, lr_16, lr_30, lr_38, lr_100, lr_112, lr_120, lr_1547, lr_1554, s_d hS, s_q hS, s_ni hS, s_nk hS, s_nr hS, s_nv hS, s_nb hS, s_nw hS, s_nn hS, s_i0 hS, s_i1 hS, s_i2 hS, s_k hS, s_r0 hS, s_r1 hS, s_r2 hS, s_r3 hS, s_v0 hS, s_v1 hS, s_v2 hS, s_v3 hS, s_v4 hS, s_v5 hS, s_b0 hS, s_b1 hS, s_b2 hS, s_b3 hS, s_b4 hS, s_w0 hS, s_w1 hS, s_w2 hS, s_w3 hS, s_n0 hS, s_n1 hS]
      have e : bw a i d w k = 0 := by unfold bw; rw [if_neg (fun z => c1 z.1)]
      rw [e, Nat.or_zero] at h9
      exact h9
theorem k_bar (hV : VA a) (hS : St 1 a M) {i d : Nat} (hi : i < 4096) (hd : d < 4096) (hw : ∀ q, q < 10 → w q = NO ∨ ∃ v, v < a 4 ∧ w q = I v) (h : Q (I (rset a (fun r => (ors (bw a i d w) (a 5)).testBit (a (54 + r))))) (jm M g w)) : T_X2_barredRooms Q 1543 (I i) (I d) (jm M g w) := by
  unfold T_X2_barredRooms
  rw [I_0]
  exact ⟨a 5 + 1, k_bar2 hV hS hi hd hw h (a 5) 0 (by omega)⟩
theorem visO_w (hV : VA a) {d t : Nat} (hw : ∀ k, k < 10 → w k = oN (visO a k d t)) : ∀ q, q < 10 → w q = NO ∨ ∃ v, v < a 4 ∧ w q = I v := by
  intro q hq
  rw [hw q hq]
  cases e : visO a q d t with
  | none => exact Or.inl rfl
  | some v => exact Or.inr ⟨v, by have := (fnd_sp e).2.1; omega, rfl⟩
/-- a room is barred as a booked visit of a partner is near -/
theorem bar_near (hV : VA a) (hD : DD a) {i d t r : Nat} (hr : r < a 3) (hw : ∀ k, k < 10 → w k = oN (visO a k d t)) : (ors (bw a i d w) (a 5)).testBit (a (54 + r)) = nearB a r i d t := by
  have h4 := hV.2.1.2.2.2.2.1
  have h1 := hV.2.1.2.1
  have hwr := (hV.2.2.2.2.1 r hr).1
  have wt : ∀ z, z < 4 → (2 ^ z * 7 / 2).testBit (a (54 + r)) = decide (ad z (a (54 + r)) < 2) := fun z hz => wingb ⟨z, hz⟩ ⟨_, hwr⟩
  rw [ors_bit]
  have key : anyB (fun k => (bw a i d w k).testBit (a (54 + r))) (a 5) = true ↔ nearB a r i d t = true := by
    unfold nearB
    rw [anyB_t, exF_t]
    constructor
    · rintro ⟨k, hk, h⟩
      unfold bw at h
      by_cases c : a (438 + 5 * k) = 2 ∧ a (438 + 5 * k + 3) ≤ d ∧ d ≤ a (438 + 5 * k + 4)
      · rw [if_pos c] at h
        have hB2 := (hV.2.2.2.2.2.2.1 k hk).2.2.2.2.1 c.1
        have hB1 := (hV.2.2.2.2.2.2.1 k hk).2.1
        have fin : ∀ q, q < 10 → (if w q = NO then 0 else 2 ^ a (54 + a (78 + 6 * (w q).toNatClampNeg + 4)) * 7 / 2).testBit (a (54 + r)) = true → (∀ v, a (78 + 6 * v) = q → arP a i (a (78 + 6 * v)) d = true) → ∃ v, 0 ≤ v ∧ v < 0 + a 4 ∧ (decide (isI3 a v d t) && (arP a i (a (78 + 6 * v)) d && decide (ad (a (54 + a (78 + 6 * v + 4))) (a (54 + r)) < 2))) = true := by
          intro q hq h hp
          cases e : visO a q d t with
          | none =>
            rw [hw q hq, e, if_pos oN_n] at h; simp at h
          | some v =>
            have hv := fnd_sp e
            have hvv := hV.2.2.2.2.2.1 v (by omega)
            have hrr := (hV.2.2.2.2.1 _ hvv.2.2.2.2.1).1
            rw [hw q hq, e, oN_s, if_neg (by rw [I_no (by omega)]; exact id), tn_I (by omega), wt _ hrr] at h
            have h3 := hv.2.2.1
            rw [Bool.and_eq_true] at h3
            refine ⟨v, Nat.zero_le _, by omega, ?_⟩
            rw [h3.1, hp v (by simpa using h3.2), h]; rfl
        by_cases c2 : a (438 + 5 * k + 1) = i
        · rw [if_pos c2] at h
          refine fin _ (by omega) h (fun v hv => anyB_t.mpr ⟨k, hk, ?_⟩)
          rw [hv]
          simp [c.1, c2, c.2.1, c.2.2]
        · rw [if_neg c2] at h
          by_cases c3 : a (438 + 5 * k + 2) = i
          · rw [if_pos c3] at h
            refine fin _ (by omega) h (fun v hv => anyB_t.mpr ⟨k, hk, ?_⟩)
            rw [hv]
            simp [c.1, c3, c.2.1, c.2.2]
          · rw [if_neg c3] at h; simp at h
      · rw [if_neg c] at h; simp at h
    · rintro ⟨v, -, hv, h⟩
      rw [Bool.and_eq_true, Bool.and_eq_true] at h
      obtain ⟨g1, g2, g3⟩ := h
      have g1 : isI3 a v d t := by simpa using g1
      have hvv := hV.2.2.2.2.2.1 v (by omega)
      have hrr := (hV.2.2.2.2.1 _ hvv.2.2.2.2.1).1
      obtain ⟨k, hk, h⟩ := anyB_t.mp g2
      refine ⟨k, hk, ?_⟩
      have hv0 : visO a (a (78 + 6 * v)) d t = some v := fnd_s (Nat.zero_le _) hv (by simp [g1]) (fun q _ hq => by
        by_cases c6 : isI3 a q d t
        · have := (hD q v (by omega) (by omega) (by omega) c6.1 g1.1 (c6.2.1.trans g1.2.1.symm) (c6.2.2.trans g1.2.2.symm)).1
          simp [this]
        · rw [decide_eq_false c6, Bool.false_and])
      have hwv : w (a (78 + 6 * v)) = I v := by rw [hw _ (by omega), hv0, oN_s]
      have fin : (if w (a (78 + 6 * v)) = NO then 0 else 2 ^ a (54 + a (78 + 6 * (w (a (78 + 6 * v))).toNatClampNeg + 4)) * 7 / 2).testBit (a (54 + r)) = true := by
        rw [hwv, if_neg (by rw [I_no (by omega)]; exact id), tn_I (by omega), wt _ hrr]; exact g3
      simp only [Bool.and_eq_true, Bool.or_eq_true, decide_eq_true_eq] at h
      obtain ⟨q1, q2, q3⟩ := h
      have hB2 := (hV.2.2.2.2.2.2.1 k hk).2.2.2.2.1 q1
      unfold bw
      rw [if_pos ⟨q1, q3⟩]
      rcases q2 with ⟨q4, q5⟩ | ⟨q4, q5⟩
      · rw [if_pos q4, q5]; exact fin
      · by_cases c : a (438 + 5 * k + 1) = i
        · exfalso; exact hB2.2 (by rw [q5, c])
        · rw [if_neg c, if_pos q5, q4]; exact fin
  cases q : nearB a r i d t
  · cases q2 : anyB (fun k => (bw a i d w k).testBit (a (54 + r))) (a 5)
    · rfl
    · rw [key.mp q2] at q; cases q
  · exact key.mpr q
end Jd3

