/-! ===== THE CLASS: the booked visits in their order ===== -/
section Ne2
variable {M : Mem} {a : Nat → Nat} {f : Nat → Int32} {Q : Int32 → Mem → Prop} {X : String → Mem → Prop}
theorem k_booked {Q : Int64 → Mem → Prop} (hV : VA a) (hS : St 1 a M) (h : ∀ l, (∀ u, u < 64 → bq l u = (decide (u < a 4) && bk a u)) → Q l M) : T_X3_bookedVisits Q 1 M := by
  have hb := hV.1
  have h4 := hV.2.1.2.2.2.2.1
  have key : ∀ m k (l : Int64), k + m = a 4 → (∀ u, u < 64 → bq l u = (decide (u < k) && bk a u)) → T_X3_bookedVisits_4 Q (m + 1) 1 l (I k) M := by
    intro m
    induction m with
    | zero =>
      intro k l hk hl
      obtain rfl : k = a 4 := by omega
      unfold T_X3_bookedVisits_4
      simp (disch := first | exact lt4 (hb _) | exact hb _ | omega) only [I_0, I_1, I_2, I_3, I_4, I_5, I_6, I_7, I_8, I_9, I_10, I_11, I_12, I_20, I_22, I_27, I_31, I_32, I_38, I_42, I_48, I_54, I_55, I_56, I_57, I_60, I_66, I_72, I_78, I_80, I_97, I_98, I_99, I_100, I_108, I_109, I_116, I_120, I_438, I_488, I_512, I_552, I_3864, oN_s, oN_n, bI_t, bI_f, Nat.add_zero, I_bt1, I_bt0, Nat.reduceLT, Nat.reduceLeDiff, Nat.reduceEqDiff, Nat.reduceAdd, Nat.reduceMul, Nat.reduceSub, tn_I, I_add, I_mul, I_div, vp_I, I_eq, I_le, I_lt, I_no, no_I, negI1, true_and, and_true, false_and, and_false, if_true, if_false, ite_true, ite_false, forall_eq, true_or, or_true, kn_0, kn_1, kn_2, kn_3, kn_4, kn_15, kn_16, kn_29, kn_30, kn_37, kn_38, kn_99, kn_100, kn_111, kn_112, kn_119, kn_120, kn_281, kn_282, kn_1543, kn_1544, kn_1545, kn_1546, kn_1547, kn_1551, kn_1552, kn_1553, kn_1554, lnn_2, lnn_4, lnn_16, lnn_30, lnn_38, lnn_100, lnn_112, lnn_120, lnn_282, lnn_1544, lnn_1547, lnn_1552, lnn_1554, rn_1_1, rn_1_2, rn_1_3, rn_1_4, rn_1_5, rn_1_6, rn_1_7, rn_1_8, rn_3_0, rn_15_0, rn_29_0, rn_37_0, rn_99_0, rn_111_0, rn_119_0, rn_1543_0, rn_1543_1, rn_1545_0, rn_1545_1, rn_0_0, rn_0_1, rn_0_3, rn_0_4, rn_0_5, rn_0_6, rn_0_7, rn_1546_0, rn_1551_0, rn_1551_3, rn_1553_0, rn_281_0, rr_4, rr_16, rr_30, rr_38, rr_100, rr_112, rr_120, rr_1547, rr_1554, kr_4, kr_16, kr_30, kr_38, kr_100, kr_112, kr_120, kr_1547, kr_1554, lr_4, lr_16, lr_30, lr_38, lr_100, lr_112, lr_120, lr_1547, lr_1554, s_d hS, s_q hS, s_ni hS, s_nk hS, s_nr hS, s_nv hS, s_nb hS, s_nw hS, s_nn hS, s_i0 hS, s_i1 hS, s_i2 hS, s_k hS, s_r0 hS, s_r1 hS, s_r2 hS, s_r3 hS, s_v0 hS, s_v1 hS, s_v2 hS, s_v3 hS, s_v4 hS, s_v5 hS, s_b0 hS, s_b1 hS, s_b2 hS, s_b3 hS, s_b4 hS, s_w0 hS, s_w1 hS, s_w2 hS, s_w3 hS, s_n0 hS, s_n1 hS, show a 4 ≤ a 4 from Nat.le_refl _]
      exact h l hl
    | succ m ih =>
      intro k l hk hl
      have hk4 : k < a 4 := by omega
      have hk60 : k < 60 := by omega
      unfold T_X3_bookedVisits_4 T_X3_bookedVisits_35
      by_cases c5 : a (78 + 6 * k + 5) = 0
      · simp (disch := first | exact lt4 (hb _) | exact hb _ | omega) only [I_0, I_1, I_2, I_3, I_4, I_5, I_6, I_7, I_8, I_9, I_10, I_11, I_12, I_20, I_22, I_27, I_31, I_32, I_38, I_42, I_48, I_54, I_55, I_56, I_57, I_60, I_66, I_72, I_78, I_80, I_97, I_98, I_99, I_100, I_108, I_109, I_116, I_120, I_438, I_488, I_512, I_552, I_3864, oN_s, oN_n, bI_t, bI_f, Nat.add_zero, I_bt1, I_bt0, Nat.reduceLT, Nat.reduceLeDiff, Nat.reduceEqDiff, Nat.reduceAdd, Nat.reduceMul, Nat.reduceSub, tn_I, I_add, I_mul, I_div, vp_I, I_eq, I_le, I_lt, I_no, no_I, negI1, true_and, and_true, false_and, and_false, if_true, if_false, ite_true, ite_false, forall_eq, true_or, or_true, kn_0, kn_1, kn_2, kn_3, kn_4, kn_15, kn_16, kn_29, kn_30, kn_37, kn_38, kn_99, kn_100, kn_111, kn_112, kn_119, kn_120, kn_281, kn_282, kn_1543, kn_1544, kn_1545, kn_1546, kn_1547, kn_1551, kn_1552, kn_1553, kn_1554, lnn_2, lnn_4, lnn_16, lnn_30, lnn_38, lnn_100, lnn_112, lnn_120, lnn_282, lnn_1544, lnn_1547, lnn_1552, lnn_1554, rn_1_1, rn_1_2, rn_1_3, rn_1_4, rn_1_5, rn_1_6, rn_1_7, rn_1_8, rn_3_0, rn_15_0, rn_29_0, rn_37_0, rn_99_0, rn_111_0, rn_119_0, rn_1543_0, rn_1543_1, rn_1545_0, rn_1545_1, rn_0_0, rn_0_1, rn_0_3, rn_0_4, rn_0_5, rn_0_6, rn_0_7, rn_1546_0, rn_1551_0, rn_1551_3, rn_1553_0, rn_281_0, rr_4, rr_16, rr_30, rr_38, rr_100, rr_112, rr_120, rr_1547, rr_1554, kr_4, kr_16, kr_30, kr_38, kr_100, kr_112, kr_120, kr_1547, kr_1554, lr_4, lr_16, lr_30, lr_38, lr_100, lr_112, lr_120, lr_1547, lr_1554, s_d hS, s_q hS, s_ni hS, s_nk hS, s_nr hS, s_nv hS, s_nb hS, s_nw hS, s_nn hS, s_i0 hS, s_i1 hS, s_i2 hS, s_k hS, s_r0 hS, s_r1 hS, s_r2 hS, s_r3 hS, s_v0 hS, s_v1 hS, s_v2 hS, s_v3 hS, s_v4 hS, s_v5 hS, s_b0 hS, s_b1 hS, s_b2 hS, s_b3 hS, s_b4 hS, s_w0 hS, s_w1 hS, s_w2 hS, s_w3 hS, s_n0 hS, s_n1 hS, show ¬ a 4 ≤ k by omega, hk60, hk4, c5]
        refine ih (k + 1) _ (by omega) (fun u hu => ?_)
        rw [bq_or (by omega) hu, hl u hu]
        by_cases q : u = k
        · subst q
          rw [show bk a u = true from decide_eq_true c5, decide_eq_true (show u < u + 1 by omega), decide_eq_true rfl]
          simp
        · rw [decide_eq_false q, Bool.or_false]
          congr 1
          apply decide_eq_decide.mpr
          omega
      · simp (disch := first | exact lt4 (hb _) | exact hb _ | omega) only [I_0, I_1, I_2, I_3, I_4, I_5, I_6, I_7, I_8, I_9, I_10, I_11, I_12, I_20, I_22, I_27, I_31, I_32, I_38, I_42, I_48, I_54, I_55, I_56, I_57, I_60, I_66, I_72, I_78, I_80, I_97, I_98, I_99, I_100, I_108, I_109, I_116, I_120, I_438, I_488, I_512, I_552, I_3864, oN_s, oN_n, bI_t, bI_f, Nat.add_zero, I_bt1, I_bt0, Nat.reduceLT, Nat.reduceLeDiff, Nat.reduceEqDiff, Nat.reduceAdd, Nat.reduceMul, Nat.reduceSub, tn_I, I_add, I_mul, I_div, vp_I, I_eq, I_le, I_lt, I_no, no_I, negI1, true_and, and_true, false_and, and_false, if_true, if_false, ite_true, ite_false, forall_eq, true_or, or_true, kn_0, kn_1, kn_2, kn_3, kn_4, kn_15, kn_16, kn_29, kn_30, kn_37, kn_38, kn_99, kn_100, kn_111, kn_112, kn_119, kn_120, kn_281, kn_282, kn_1543, kn_1544, kn_1545, kn_1546, kn_1547, kn_1551, kn_1552, kn_1553, kn_1554, lnn_2, lnn_4, lnn_16, lnn_30, lnn_38, lnn_100, lnn_112, lnn_120, lnn_282, lnn_1544, lnn_1547, lnn_1552, lnn_1554, rn_1_1, rn_1_2, rn_1_3, rn_1_4, rn_1_5, rn_1_6, rn_1_7, rn_1_8, rn_3_0, rn_15_0, rn_29_0, rn_37_0, rn_99_0, rn_111_0, rn_119_0, rn_1543_0, rn_1543_1, rn_1545_0, rn_1545_1, rn_0_0, rn_0_1, rn_0_3, rn_0_4, rn_0_5, rn_0_6, rn_0_7, rn_1546_0, rn_1551_0, rn_1551_3, rn_1553_0, rn_281_0, rr_4, rr_16, rr_30, rr_38, rr_100, rr_112, rr_120, rr_1547, rr_1554, kr_4, kr_16, kr_30, kr_38, kr_100, kr_112, kr_120, kr_1547, kr_1554, lr_4, lr_16, lr_30, lr_38, lr_100, lr_112, lr_120, lr_1547, lr_1554, s_d hS, s_q hS, s_ni hS, s_nk hS, s_nr hS, s_nv hS, s_nb hS, s_nw hS, s_nn hS, s_i0 hS, s_i1 hS, s_i2 hS, s_k hS, s_r0 hS, s_r1 hS, s_r2 hS, s_r3 hS, s_v0 hS, s_v1 hS, s_v2 hS, s_v3 hS, s_v4 hS, s_v5 hS, s_b0 hS, s_b1 hS, s_b2 hS, s_b3 hS, s_b4 hS, s_w0 hS, s_w1 hS, s_w2 hS, s_w3 hS, s_n0 hS, s_n1 hS, show ¬ a 4 ≤ k by omega, hk60, hk4, c5]
        refine ih (k + 1) _ (by omega) (fun u hu => ?_)
        rw [hl u hu]
        by_cases q : u = k
        · subst q
          rw [show bk a u = false from decide_eq_false c5, Bool.and_false, Bool.and_false]
        · congr 1
          apply decide_eq_decide.mpr
          omega
  unfold T_X3_bookedVisits
  rw [I_0]
  exact ⟨_, key (a 4) 0 0 (by omega) (fun u hu => by rw [bq_0, decide_eq_false (Nat.not_lt_zero u), Bool.false_and])⟩
theorem k_nx_l (hG : GS a) (hS : St 1 a M) {p : Nat} (hp : p < cnP (bk a) (a 4)) (h : ∀ r, r < a 4 → bk a r = true → rkb a r = p → Q (I r) M) :
    ∀ m k (l : Int64) r, k + m = p → (∀ u, u < 64 → bq l u = (decide (u < a 4) && (bk a u && decide (k ≤ rkb a u)))) → r < a 4 → bk a r = true → rkb a r = k → T_X6_next_42 Q X (m + 1) 0 (I p) l (I r) (I k) M := by
  have hV := hG.1
  have h4 := hV.2.1.2.2.2.2.1
  have inj := kyP_inj (keyV_inj hG) (keyV_lt hV)
  have hcn : cnP (bk a) (a 4) ≤ 60 := by
    have := sm_le (f := fun v => if bk a v = true then 1 else 0) (c := 1) one_le (a 4)
    unfold cnP
    omega
  have hcl : cnP (bk a) (a 4) ≤ a 4 := by
    have := sm_le (f := fun v => if bk a v = true then 1 else 0) (c := 1) one_le (a 4)
    unfold cnP
    omega
  intro m
  induction m with
  | zero =>
    intro k l r hk hl hr hb hrk
    obtain rfl : k = p := by omega
    unfold T_X6_next_42
    rw [if_pos (ile k k (by omega) (by omega) (Nat.le_refl _))]
    exact h r hr hb hrk
  | succ m ih =>
    intro k l r hk hl hr hb hrk
    obtain ⟨r', hr', hrk'⟩ := rk_ex inj (k + 1) (by omega)
    have hb' : bk a r' = true := by
      by_cases c : bk a r' = true
      · exact c
      · have := rkP_ge (key := keyV a) (n := a 4) (r := r') (keyV_lt hV) c
        omega
    have hdel : ∀ u, u < 64 → bq (l &&& ((1 <<< (Int32.toInt64 (I r) &&& 63)) ^^^ (-1))) u = (decide (u < a 4) && (bk a u && decide (k + 1 ≤ rkb a u))) := fun u hu => by
      rw [bq_del (by omega) hu, hl u hu]
      by_cases c : u = r
      · subst c
        rw [decide_eq_true (show u = u from rfl), decide_eq_false (show ¬ k + 1 ≤ rkb a u by omega), Bool.and_false, Bool.and_false]
        simp
      · rw [decide_eq_false c, Bool.not_false, Bool.and_true]
        by_cases c4 : u < a 4
        · have hne : rkb a u ≠ k := fun z => c (rk_inj inj c4 hr (show rk _ _ u = rk _ _ r from z.trans hrk.symm))
          by_cases c2 : k ≤ rkb a u
          · rw [decide_eq_true c2, decide_eq_true (show k + 1 ≤ rkb a u by omega)]
          · rw [decide_eq_false c2, decide_eq_false (show ¬ k + 1 ≤ rkb a u by omega)]
        · rw [decide_eq_false c4, Bool.false_and, Bool.false_and]
    unfold T_X6_next_42
    rw [if_neg (nle p k (by omega) (by omega) (by omega))]
    rintro l1 rfl
    refine ⟨kn_0, by rw [rn_0_0]; exact kn_1, ?_⟩
    rw [rn_0_0, show (1 : Int64) <<< (Int32.toInt64 (I r) &&& 63) = 1 <<< (Int32.toInt64 (I r) &&& 63) from rfl]
    refine k_earl hV hS ?_
    rw [show am (keyV a) (bq (l &&& ((1 <<< (Int32.toInt64 (I r) &&& 63)) ^^^ (-1)))) (a 4) = some r' by
      rw [← am_rk (keyV_inj hG) hr' hb' (show rk (kyP (keyV a) (bk a)) (a 4) r' = k + 1 from hrk')]
      exact am_cg (fun _ _ _ _ => Iff.rfl) (fun x hx => by rw [hdel x (by omega), decide_eq_true hx, Bool.true_and]; rfl)]
    rintro x6 rfl
    rw [I_1, I_add]
    exact ih (k + 1) _ r' (by omega) hdel hr' hb' hrk'
theorem k_nextc (hG : GS a) (hC : Cz a M) {p : Int32} (h0 : ∀ v, rs_next a p = (0, v) → Q v M) (h1 : (rs_next a p).1 = 1 → X "java/util/NoSuchElementException" M) : T_X6_next Q X 0 p M := by
  have hV := hG.1
  have hb := hV.1
  have hS := hC.1
  have h4 := hV.2.1.2.2.2.2.1
  have inj := kyP_inj (keyV_inj hG) (keyV_lt hV)
  have hcl : cnP (bk a) (a 4) ≤ a 4 := by
    have := sm_le (f := fun v => if bk a v = true then 1 else 0) (c := 1) one_le (a 4)
    unfold cnP
    omega
  unfold T_X6_next
  simp (disch := first | exact lt4 (hb _) | exact hb _ | omega) only [I_0, I_1, I_2, I_3, I_4, I_5, I_6, I_7, I_8, I_9, I_10, I_11, I_12, I_20, I_22, I_27, I_31, I_32, I_38, I_42, I_48, I_54, I_55, I_56, I_57, I_60, I_66, I_72, I_78, I_80, I_97, I_98, I_99, I_100, I_108, I_109, I_116, I_120, I_438, I_488, I_512, I_552, I_3864, oN_s, oN_n, bI_t, bI_f, Nat.add_zero, I_bt1, I_bt0, Nat.reduceLT, Nat.reduceLeDiff, Nat.reduceEqDiff, Nat.reduceAdd, Nat.reduceMul, Nat.reduceSub, tn_I, I_add, I_mul, I_div, vp_I, I_eq, I_le, I_lt, I_no, no_I, negI1, true_and, and_true, false_and, and_false, if_true, if_false, ite_true, ite_false, forall_eq, true_or, or_true, kn_0, kn_1, kn_2, kn_3, kn_4, kn_15, kn_16, kn_29, kn_30, kn_37, kn_38, kn_99, kn_100, kn_111, kn_112, kn_119, kn_120, kn_281, kn_282, kn_1543, kn_1544, kn_1545, kn_1546, kn_1547, kn_1551, kn_1552, kn_1553, kn_1554, lnn_2, lnn_4, lnn_16, lnn_30, lnn_38, lnn_100, lnn_112, lnn_120, lnn_282, lnn_1544, lnn_1547, lnn_1552, lnn_1554, rn_1_1, rn_1_2, rn_1_3, rn_1_4, rn_1_5, rn_1_6, rn_1_7, rn_1_8, rn_3_0, rn_15_0, rn_29_0, rn_37_0, rn_99_0, rn_111_0, rn_119_0, rn_1543_0, rn_1543_1, rn_1545_0, rn_1545_1, rn_0_0, rn_0_1, rn_0_3, rn_0_4, rn_0_5, rn_0_6, rn_0_7, rn_1546_0, rn_1551_0, rn_1551_3, rn_1553_0, rn_281_0, rr_4, rr_16, rr_30, rr_38, rr_100, rr_112, rr_120, rr_1547, rr_1554, kr_4, kr_16, kr_30, kr_38, kr_100, kr_112, kr_120, kr_1547, kr_1554, lr_4, lr_16, lr_30, lr_38, lr_100, lr_112, lr_120, lr_1547, lr_1554, s_d hS, s_q hS, s_ni hS, s_nk hS, s_nr hS, s_nv hS, s_nb hS, s_nw hS, s_nn hS, s_i0 hS, s_i1 hS, s_i2 hS, s_k hS, s_r0 hS, s_r1 hS, s_r2 hS, s_r3 hS, s_v0 hS, s_v1 hS, s_v2 hS, s_v3 hS, s_v4 hS, s_v5 hS, s_b0 hS, s_b1 hS, s_b2 hS, s_b3 hS, s_b4 hS, s_w0 hS, s_w1 hS, s_w2 hS, s_w3 hS, s_n0 hS, s_n1 hS]
  refine k_booked hV hS (fun l hl => k_lbc ?_)
  rw [cb_sm (n := a 4) (p := bk a) (by omega) hl, show sm (fun v => if bk a v = true then 1 else 0) (a 4) = cnP (bk a) (a 4) from rfl, k_below (by omega)]
  by_cases c1 : isN p (cnP (bk a) (a 4))
  · rw [if_pos c1]
    obtain ⟨j, hj, rfl⟩ := isN_el c1
    simp (disch := first | exact lt4 (hb _) | exact hb _ | omega) only [I_0, I_1, I_2, I_3, I_4, I_5, I_6, I_7, I_8, I_9, I_10, I_11, I_12, I_20, I_22, I_27, I_31, I_32, I_38, I_42, I_48, I_54, I_55, I_56, I_57, I_60, I_66, I_72, I_78, I_80, I_97, I_98, I_99, I_100, I_108, I_109, I_116, I_120, I_438, I_488, I_512, I_552, I_3864, oN_s, oN_n, bI_t, bI_f, Nat.add_zero, I_bt1, I_bt0, Nat.reduceLT, Nat.reduceLeDiff, Nat.reduceEqDiff, Nat.reduceAdd, Nat.reduceMul, Nat.reduceSub, tn_I, I_add, I_mul, I_div, vp_I, I_eq, I_le, I_lt, I_no, no_I, negI1, true_and, and_true, false_and, and_false, if_true, if_false, ite_true, ite_false, forall_eq, true_or, or_true, kn_0, kn_1, kn_2, kn_3, kn_4, kn_15, kn_16, kn_29, kn_30, kn_37, kn_38, kn_99, kn_100, kn_111, kn_112, kn_119, kn_120, kn_281, kn_282, kn_1543, kn_1544, kn_1545, kn_1546, kn_1547, kn_1551, kn_1552, kn_1553, kn_1554, lnn_2, lnn_4, lnn_16, lnn_30, lnn_38, lnn_100, lnn_112, lnn_120, lnn_282, lnn_1544, lnn_1547, lnn_1552, lnn_1554, rn_1_1, rn_1_2, rn_1_3, rn_1_4, rn_1_5, rn_1_6, rn_1_7, rn_1_8, rn_3_0, rn_15_0, rn_29_0, rn_37_0, rn_99_0, rn_111_0, rn_119_0, rn_1543_0, rn_1543_1, rn_1545_0, rn_1545_1, rn_0_0, rn_0_1, rn_0_3, rn_0_4, rn_0_5, rn_0_6, rn_0_7, rn_1546_0, rn_1551_0, rn_1551_3, rn_1553_0, rn_281_0, rr_4, rr_16, rr_30, rr_38, rr_100, rr_112, rr_120, rr_1547, rr_1554, kr_4, kr_16, kr_30, kr_38, kr_100, kr_112, kr_120, kr_1547, kr_1554, lr_4, lr_16, lr_30, lr_38, lr_100, lr_112, lr_120, lr_1547, lr_1554]
    obtain ⟨r1, g1, g2⟩ := rk_ex inj 0 (by omega)
    have gb : bk a r1 = true := by
      by_cases c : bk a r1 = true
      · exact c
      · have := rkP_ge (key := keyV a) (n := a 4) (r := r1) (keyV_lt hV) c
        omega
    refine k_earl hV hS ?_
    rw [show am (keyV a) (bq l) (a 4) = some r1 by
      rw [← am_rk (keyV_inj hG) g1 gb g2]
      exact am_cg (fun _ _ _ _ => Iff.rfl) (fun x hx => by rw [hl x (by omega), decide_eq_true hx, Bool.true_and, decide_eq_true (Nat.zero_le _), Bool.and_true])]
    refine ⟨_, k_nx_l hG hS hj (fun r q1 q2 q3 => ?_) j 0 l r1 (by omega) (fun u hu => by rw [hl u hu, decide_eq_true (Nat.zero_le _), Bool.and_true]) g1 gb g2⟩
    refine h0 _ ?_
    unfold rs_next
    rw [nxF_s hG q1 q2 (by rw [q3])]
  · rw [if_neg c1]
    simp (disch := first | exact lt4 (hb _) | exact hb _ | omega) only [I_0, I_1, I_2, I_3, I_4, I_5, I_6, I_7, I_8, I_9, I_10, I_11, I_12, I_20, I_22, I_27, I_31, I_32, I_38, I_42, I_48, I_54, I_55, I_56, I_57, I_60, I_66, I_72, I_78, I_80, I_97, I_98, I_99, I_100, I_108, I_109, I_116, I_120, I_438, I_488, I_512, I_552, I_3864, oN_s, oN_n, bI_t, bI_f, Nat.add_zero, I_bt1, I_bt0, Nat.reduceLT, Nat.reduceLeDiff, Nat.reduceEqDiff, Nat.reduceAdd, Nat.reduceMul, Nat.reduceSub, tn_I, I_add, I_mul, I_div, vp_I, I_eq, I_le, I_lt, I_no, no_I, negI1, true_and, and_true, false_and, and_false, if_true, if_false, ite_true, ite_false, forall_eq, true_or, or_true, kn_0, kn_1, kn_2, kn_3, kn_4, kn_15, kn_16, kn_29, kn_30, kn_37, kn_38, kn_99, kn_100, kn_111, kn_112, kn_119, kn_120, kn_281, kn_282, kn_1543, kn_1544, kn_1545, kn_1546, kn_1547, kn_1551, kn_1552, kn_1553, kn_1554, lnn_2, lnn_4, lnn_16, lnn_30, lnn_38, lnn_100, lnn_112, lnn_120, lnn_282, lnn_1544, lnn_1547, lnn_1552, lnn_1554, rn_1_1, rn_1_2, rn_1_3, rn_1_4, rn_1_5, rn_1_6, rn_1_7, rn_1_8, rn_3_0, rn_15_0, rn_29_0, rn_37_0, rn_99_0, rn_111_0, rn_119_0, rn_1543_0, rn_1543_1, rn_1545_0, rn_1545_1, rn_0_0, rn_0_1, rn_0_3, rn_0_4, rn_0_5, rn_0_6, rn_0_7, rn_1546_0, rn_1551_0, rn_1551_3, rn_1553_0, rn_281_0, rr_4, rr_16, rr_30, rr_38, rr_100, rr_112, rr_120, rr_1547, rr_1554, kr_4, kr_16, kr_30, kr_38, kr_100, kr_112, kr_120, kr_1547, kr_1554, lr_4, lr_16, lr_30, lr_38, lr_100, lr_112, lr_120, lr_1547, lr_1554]
    refine h1 ?_
    unfold rs_next
    rw [nxF_n (fun v hv hb' e => c1 ?_)]
    have := rkP_lt (key := keyV a) (n := a 4) (r := v) (keyV_lt hV) hb' hv
    have hr := rkb_bd hV hv
    rw [← e, isN_I (by omega)]
    exact this
end Ne2

