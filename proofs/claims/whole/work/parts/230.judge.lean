/-! ===== THE CLASS's judge ===== -/
theorem ors_s (f : Nat → Nat) (n : Nat) : ors f (n + 1) = ors f n ||| f n := rfl
theorem sm_s (f : Nat → Nat) (n : Nat) : sm f (n + 1) = sm f n + f n := rfl
/-- a memory with the judge's fields g and its row w -/
def jm (M : Mem) (g w : Nat → Int32) : Mem := (fun i => if i = 1544 then w else if i = 1543 then g else M.1 i, M.2)
/-- two booked visits of one slot have two inmates and two rooms -/
def DD (a : Nat → Nat) : Prop := ∀ v w, v < a 4 → w < a 4 → v ≠ w → a (78 + 6 * v + 5) = 0 → a (78 + 6 * w + 5) = 0 → a (78 + 6 * v + 2) = a (78 + 6 * w + 2) → a (78 + 6 * v + 3) = a (78 + 6 * w + 3) → a (78 + 6 * v) ≠ a (78 + 6 * w) ∧ a (78 + 6 * v + 4) ≠ a (78 + 6 * w + 4)
section Jd1
variable {M : Mem} {a : Nat → Nat} {g w : Nat → Int32} {Q : Int32 → Mem → Prop}
theorem jm_g (k : Nat) : (jm M g w).1 1543 k = g k := rfl
theorem jm_w (k : Nat) : (jm M g w).1 1544 k = w k := rfl
theorem jm_o {i : Nat} (h1 : i ≠ 1543) (h2 : i ≠ 1544) : (jm M g w).1 i = M.1 i := by show (if i = 1544 then _ else if i = 1543 then g else M.1 i) = _; rw [if_neg h2, if_neg h1]
theorem jm_mg (k : Nat) (v : Int32) : mset (jm M g w) 1543 k v = jm M (updI g k v) w := by
  refine mem_ext (fun i => ?_) rfl
  by_cases q : i = 1543
  · subst q
    rw [mset_at]
    funext j
    show upd g k v j = updI g k v j
    unfold updI
    by_cases e : j = k
    · subst e; rw [pk_us, if_pos rfl]
    · rw [pk_un e, if_neg e]
  · rw [mset_ne q]
    by_cases q2 : i = 1544
    · subst q2; rfl
    · rw [jm_o q q2, jm_o q q2]
theorem jm_mw (k : Nat) (v : Int32) : mset (jm M g w) 1544 k v = jm M g (updI w k v) := by
  refine mem_ext (fun i => ?_) rfl
  by_cases q : i = 1544
  · subst q
    rw [mset_at]
    funext j
    show upd w k v j = updI w k v j
    unfold updI
    by_cases e : j = k
    · subst e; rw [pk_us, if_pos rfl]
    · rw [pk_un e, if_neg e]
  · rw [mset_ne q]
    by_cases q2 : i = 1543
    · subst q2; rfl
    · rw [jm_o q2 q, jm_o q2 q]
theorem jm_self : jm M (M.1 1543) (M.1 1544) = M := by
  refine mem_ext (fun i => ?_) rfl
  by_cases q : i = 1543
  · subst q; rfl
  · by_cases q2 : i = 1544
    · subst q2; rfl
    · exact jm_o q q2
theorem jm_St (hV : VA a) (hS : St 1 a M) (g w : Nat → Int32) : St 1 a (jm M g w) := hS.fr (fun i _ h => jm_o (by omega) (by omega)) hV
theorem l_fill {QP : Mem → Prop} (h : ∀ w' : Nat → Int32, (∀ k, k < 10 → w' k = NO) → QP (jm M g w')) : ∀ m k (w : Nat → Int32), k + m = 10 → (∀ j, j < k → w j = NO) → T_J7_fill_53178_5 QP (m + 1) 1544 NO (I k) (I 10) (jm M g w) := by
  intro m
  induction m with
  | zero =>
    intro k w hk hw
    obtain rfl : k = 10 := by omega
    unfold T_J7_fill_53178_5
    simp (disch := first | exact lt4 (hb _) | exact hb _ | omega) only [I_0, I_1, I_2, I_3, I_4, I_5, I_6, I_7, I_8, I_9, I_10, I_11, I_12, I_20, I_22, I_27, I_31, I_32, I_38, I_42, I_48, I_54, I_55, I_56, I_57, I_60, I_66, I_72, I_78, I_80, I_97, I_98, I_99, I_100, I_108, I_109, I_116, I_120, I_438, I_488, I_512, I_552, I_3864, oN_s, oN_n, bI_t, bI_f, Nat.add_zero, I_bt1, I_bt0, Nat.reduceLT, Nat.reduceLeDiff, Nat.reduceEqDiff, Nat.reduceAdd, Nat.reduceMul, Nat.reduceSub, tn_I, I_add, I_mul, I_div, vp_I, I_eq, I_le, I_lt, I_no, no_I, negI1, true_and, and_true, false_and, and_false, if_true, if_false, ite_true, ite_false, forall_eq, true_or, or_true, kn_0, kn_1, kn_2, kn_3, kn_4, kn_15, kn_16, kn_29, kn_30, kn_37, kn_38, kn_99, kn_100, kn_111, kn_112, kn_119, kn_120, kn_281, kn_282, kn_1543, kn_1544, kn_1545, kn_1546, kn_1547, kn_1551, kn_1552, kn_1553, kn_1554, lnn_2, lnn_4, lnn_16, lnn_30, lnn_38, lnn_100, lnn_112, lnn_120, lnn_282, lnn_1544, lnn_1547, lnn_1552, lnn_1554, rn_1_1, rn_1_2, rn_1_3, rn_1_4, rn_1_5, rn_1_6, rn_1_7, rn_1_8, rn_3_0, rn_15_0, rn_29_0, rn_37_0, rn_99_0, rn_111_0, rn_119_0, rn_1543_0, rn_1543_1, rn_1545_0, rn_1545_1, rn_0_0, rn_0_1, rn_0_3, rn_0_4, rn_0_5, rn_0_6, rn_0_7, rn_1546_0, rn_1551_0, rn_1551_3, rn_1553_0, rn_281_0, rr_4, rr_16, rr_30, rr_38, rr_100, rr_112, rr_120, rr_1547, rr_1554, kr_4, kr_16, kr_30, kr_38, kr_100, kr_112, kr_120, kr_1547, kr_1554, lr_4, lr_16, lr_30, lr_38, lr_100, lr_112, lr_120, lr_1547, lr_1554, Nat.le_refl]
    exact h w hw
  | succ m ih =>
    intro k w hk hw
    unfold T_J7_fill_53178_5
    simp (disch := first | exact lt4 (hb _) | exact hb _ | omega) only [I_0, I_1, I_2, I_3, I_4, I_5, I_6, I_7, I_8, I_9, I_10, I_11, I_12, I_20, I_22, I_27, I_31, I_32, I_38, I_42, I_48, I_54, I_55, I_56, I_57, I_60, I_66, I_72, I_78, I_80, I_97, I_98, I_99, I_100, I_108, I_109, I_116, I_120, I_438, I_488, I_512, I_552, I_3864, oN_s, oN_n, bI_t, bI_f, Nat.add_zero, I_bt1, I_bt0, Nat.reduceLT, Nat.reduceLeDiff, Nat.reduceEqDiff, Nat.reduceAdd, Nat.reduceMul, Nat.reduceSub, tn_I, I_add, I_mul, I_div, vp_I, I_eq, I_le, I_lt, I_no, no_I, negI1, true_and, and_true, false_and, and_false, if_true, if_false, ite_true, ite_false, forall_eq, true_or, or_true, kn_0, kn_1, kn_2, kn_3, kn_4, kn_15, kn_16, kn_29, kn_30, kn_37, kn_38, kn_99, kn_100, kn_111, kn_112, kn_119, kn_120, kn_281, kn_282, kn_1543, kn_1544, kn_1545, kn_1546, kn_1547, kn_1551, kn_1552, kn_1553, kn_1554, lnn_2, lnn_4, lnn_16, lnn_30, lnn_38, lnn_100, lnn_112, lnn_120, lnn_282, lnn_1544, lnn_1547, lnn_1552, lnn_1554, rn_1_1, rn_1_2, rn_1_3, rn_1_4, rn_1_5, rn_1_6, rn_1_7, rn_1_8, rn_3_0, rn_15_0, rn_29_0, rn_37_0, rn_99_0, rn_111_0, rn_119_0, rn_1543_0, rn_1543_1, rn_1545_0, rn_1545_1, rn_0_0, rn_0_1, rn_0_3, rn_0_4, rn_0_5, rn_0_6, rn_0_7, rn_1546_0, rn_1551_0, rn_1551_3, rn_1553_0, rn_281_0, rr_4, rr_16, rr_30, rr_38, rr_100, rr_112, rr_120, rr_1547, rr_1554, kr_4, kr_16, kr_30, kr_38, kr_100, kr_112, kr_120, kr_1547, kr_1554, lr_4, lr_16, lr_30, lr_38, lr_100, lr_112, lr_120, lr_1547, lr_1554, show ¬ 10 ≤ k by omega, show k < 10 by omega, jm_mw]
    refine ih (k + 1) _ (by omega) (fun j hj => ?_)
    unfold updI
    split
    · rfl
    · exact hw j (by omega)
theorem fnd_a {p : Nat → Bool} : ∀ {m k : Nat}, fnd p (m + 1) k = (match fnd p m k with | some r => some r | none => if p (k + m) = true then some (k + m) else none)
  | 0, k => by unfold fnd; simp only [Nat.add_zero]; unfold fnd; rfl
  | m + 1, k => by
    rw [show fnd p (m + 1 + 1) k = if p k = true then some k else fnd p (m + 1) (k + 1) from rfl, show fnd p (m + 1) k = if p k = true then some k else fnd p m (k + 1) from rfl]
    by_cases c : p k = true
    · rw [if_pos c, if_pos c]
    · rw [if_neg c, if_neg c, fnd_a (m := m), show k + 1 + m = k + (m + 1) by omega]
/-- what the judge holds of a slot -/
def Jk (a : Nat → Nat) (d t n : Nat) (g w : Nat → Int32) : Prop := g 2 = I (ors (fun v => if isI3 a v d t then a (78 + 6 * v + 1) else 0) n) ∧ g 3 = I (ors (fun v => if isI3 a v d t then 2 ^ a (78 + 6 * v + 4) else 0) n) ∧ g 4 = J ((a 11 : Int) - (sm (fun v => if isI3 a v d t then sea a v else 0) n : Int)) ∧ ∀ k, k < 10 → w k = oN (fnd (fun v => decide (isI3 a v d t) && decide (a (78 + 6 * v) = k)) n 0)
theorem l_look {QP : Mem → Prop} (hV : VA a) (hS : St 1 a M) (hD : DD a) {d t : Nat} (hd : d < 4096) (ht : t < 4096) (g0 : Nat → Int32) (h : ∀ g' w' : Nat → Int32, Jk a d t (a 4) g' w' → (∀ k, 5 ≤ k → g' k = g0 k) → QP (jm M g' w')) : ∀ m k (g w : Nat → Int32), k + m = a 4 → Jk a d t k g w → (∀ k, 5 ≤ k → g k = g0 k) → T_X2_lookAt_33 QP (m + 1) 1543 (I d) (I t) (I k) (jm M g w) := by
  have hb := hV.1
  have hn := hV.2.1.2.2.2.2.1
  have h1 := hV.2.1.2.1
  have h3 := hV.2.1.2.2.2.1
  intro m
  induction m with
  | zero =>
    intro k g w hk hJ hg
    have hS := jm_St hV hS g w
    obtain rfl : k = a 4 := by omega
    unfold T_X2_lookAt_33
    simp (disch := first | exact lt4 (hb _) | exact hb _ | omega) only [I_0, I_1, I_2, I_3, I_4, I_5, I_6, I_7, I_8, I_9, I_10, I_11, I_12, I_20, I_22, I_27, I_31, I_32, I_38, I_42, I_48, I_54, I_55, I_56, I_57, I_60, I_66, I_72, I_78, I_80, I_97, I_98, I_99, I_100, I_108, I_109, I_116, I_120, I_438, I_488, I_512, I_552, I_3864, oN_s, oN_n, bI_t, bI_f, Nat.add_zero, I_bt1, I_bt0, Nat.reduceLT, Nat.reduceLeDiff, Nat.reduceEqDiff, Nat.reduceAdd, Nat.reduceMul, Nat.reduceSub, tn_I, I_add, I_mul, I_div, vp_I, I_eq, I_le, I_lt, I_no, no_I, negI1, true_and, and_true, false_and, and_false, if_true, if_false, ite_true, ite_false, forall_eq, true_or, or_true, kn_0, kn_1, kn_2, kn_3, kn_4, kn_15, kn_16, kn_29, kn_30, kn_37, kn_38, kn_99, kn_100, kn_111, kn_112, kn_119, kn_120, kn_281, kn_282, kn_1543, kn_1544, kn_1545, kn_1546, kn_1547, kn_1551, kn_1552, kn_1553, kn_1554, lnn_2, lnn_4, lnn_16, lnn_30, lnn_38, lnn_100, lnn_112, lnn_120, lnn_282, lnn_1544, lnn_1547, lnn_1552, lnn_1554, rn_1_1, rn_1_2, rn_1_3, rn_1_4, rn_1_5, rn_1_6, rn_1_7, rn_1_8, rn_3_0, rn_15_0, rn_29_0, rn_37_0, rn_99_0, rn_111_0, rn_119_0, rn_1543_0, rn_1543_1, rn_1545_0, rn_1545_1, rn_0_0, rn_0_1, rn_0_3, rn_0_4, rn_0_5, rn_0_6, rn_0_7, rn_1546_0, rn_1551_0, rn_1551_3, rn_1553_0, rn_281_0, rr_4, rr_16, rr_30, rr_38, rr_100, rr_112, rr_120, rr_1547, rr_1554, kr_4, kr_16, kr_30, kr_38, kr_100, kr_112, kr_120, kr_1547, kr_1554, lr_4, lr_16, lr_30, lr_38, lr_100, lr_112, lr_120, lr_1547, lr_1554, s_d hS, s_q hS, s_ni hS, s_nk hS, s_nr hS, s_nv hS, s_nb hS, s_nw hS, s_nn hS, s_i0 hS, s_i1 hS, s_i2 hS, s_k hS, s_r0 hS, s_r1 hS, s_r2 hS, s_r3 hS, s_v0 hS, s_v1 hS, s_v2 hS, s_v3 hS, s_v4 hS, s_v5 hS, s_b0 hS, s_b1 hS, s_b2 hS, s_b3 hS, s_b4 hS, s_w0 hS, s_w1 hS, s_w2 hS, s_w3 hS, s_n0 hS, s_n1 hS, Nat.le_refl]
    exact h g w hJ hg
  | succ m ih =>
    intro k g w hk hJ hg
    have hS0 := hS
    have hS := jm_St hV hS g w
    have hvv := hV.2.2.2.2.2.1 k (by omega)
    obtain ⟨j2, j3, j4, jw⟩ := hJ
    unfold T_X2_lookAt_33
    have skip : ¬ isI3 a k d t → T_X2_lookAt_139 (T_X2_lookAt_33 QP (m + 1)) QP 1543 (I d) (I t) (I k) (jm M g w) := by
      intro c
      unfold T_X2_lookAt_139
      simp (disch := first | exact lt4 (hb _) | exact hb _ | omega) only [I_0, I_1, I_2, I_3, I_4, I_5, I_6, I_7, I_8, I_9, I_10, I_11, I_12, I_20, I_22, I_27, I_31, I_32, I_38, I_42, I_48, I_54, I_55, I_56, I_57, I_60, I_66, I_72, I_78, I_80, I_97, I_98, I_99, I_100, I_108, I_109, I_116, I_120, I_438, I_488, I_512, I_552, I_3864, oN_s, oN_n, bI_t, bI_f, Nat.add_zero, I_bt1, I_bt0, Nat.reduceLT, Nat.reduceLeDiff, Nat.reduceEqDiff, Nat.reduceAdd, Nat.reduceMul, Nat.reduceSub, tn_I, I_add, I_mul, I_div, vp_I, I_eq, I_le, I_lt, I_no, no_I, negI1, true_and, and_true, false_and, and_false, if_true, if_false, ite_true, ite_false, forall_eq, true_or, or_true, kn_0, kn_1, kn_2, kn_3, kn_4, kn_15, kn_16, kn_29, kn_30, kn_37, kn_38, kn_99, kn_100, kn_111, kn_112, kn_119, kn_120, kn_281, kn_282, kn_1543, kn_1544, kn_1545, kn_1546, kn_1547, kn_1551, kn_1552, kn_1553, kn_1554, lnn_2, lnn_4, lnn_16, lnn_30, lnn_38, lnn_100, lnn_112, lnn_120, lnn_282, lnn_1544, lnn_1547, lnn_1552, lnn_1554, rn_1_1, rn_1_2, rn_1_3, rn_1_4, rn_1_5, rn_1_6, rn_1_7, rn_1_8, rn_3_0, rn_15_0, rn_29_0, rn_37_0, rn_99_0, rn_111_0, rn_119_0, rn_1543_0, rn_1543_1, rn_1545_0, rn_1545_1, rn_0_0, rn_0_1, rn_0_3, rn_0_4, rn_0_5, rn_0_6, rn_0_7, rn_1546_0, rn_1551_0, rn_1551_3, rn_1553_0, rn_281_0, rr_4, rr_16, rr_30, rr_38, rr_100, rr_112, rr_120, rr_1547, rr_1554, kr_4, kr_16, kr_30, kr_38, kr_100, kr_112, kr_120, kr_1547, kr_1554, lr_4, lr_16, lr_30, lr_38, lr_100, lr_112, lr_120, lr_1547, lr_1554]
      refine ih (k + 1) g w (by omega) ⟨?_, ?_, ?_, fun q hq => ?_⟩ hg
      · rw [ors_s, if_neg c, Nat.or_zero]; exact j2
      · rw [ors_s, if_neg c, Nat.or_zero]; exact j3
      · rw [sm_s, if_neg c, Nat.add_zero]; exact j4
      · rw [fnd_a, jw q hq, Nat.zero_add, decide_eq_false c, Bool.false_and, if_neg (by decide)]
        cases fnd (fun v => decide (isI3 a v d t) && decide (a (78 + 6 * v) = q)) k 0 <;> rfl
    simp (disch := first | exact lt4 (hb _) | exact hb _ | omega) only [I_0, I_1, I_2, I_3, I_4, I_5, I_6, I_7, I_8, I_9, I_10, I_11, I_12, I_20, I_22, I_27, I_31, I_32, I_38, I_42, I_48, I_54, I_55, I_56, I_57, I_60, I_66, I_72, I_78, I_80, I_97, I_98, I_99, I_100, I_108, I_109, I_116, I_120, I_438, I_488, I_512, I_552, I_3864, oN_s, oN_n, bI_t, bI_f, Nat.add_zero, I_bt1, I_bt0, Nat.reduceLT, Nat.reduceLeDiff, Nat.reduceEqDiff, Nat.reduceAdd, Nat.reduceMul, Nat.reduceSub, tn_I, I_add, I_mul, I_div, vp_I, I_eq, I_le, I_lt, I_no, no_I, negI1, true_and, and_true, false_and, and_false, if_true, if_false, ite_true, ite_false, forall_eq, true_or, or_true, kn_0, kn_1, kn_2, kn_3, kn_4, kn_15, kn_16, kn_29, kn_30, kn_37, kn_38, kn_99, kn_100, kn_111, kn_112, kn_119, kn_120, kn_281, kn_282, kn_1543, kn_1544, kn_1545, kn_1546, kn_1547, kn_1551, kn_1552, kn_1553, kn_1554, lnn_2, lnn_4, lnn_16, lnn_30, lnn_38, lnn_100, lnn_112, lnn_120, lnn_282, lnn_1544, lnn_1547, lnn_1552, lnn_1554, rn_1_1, rn_1_2, rn_1_3, rn_1_4, rn_1_5, rn_1_6, rn_1_7, rn_1_8, rn_3_0, rn_15_0, rn_29_0, rn_37_0, rn_99_0, rn_111_0, rn_119_0, rn_1543_0, rn_1543_1, rn_1545_0, rn_1545_1, rn_0_0, rn_0_1, rn_0_3, rn_0_4, rn_0_5, rn_0_6, rn_0_7, rn_1546_0, rn_1551_0, rn_1551_3, rn_1553_0, rn_281_0, rr_4, rr_16, rr_30, rr_38, rr_100, rr_112, rr_120, rr_1547, rr_1554, kr_4, kr_16, kr_30, kr_38, kr_100, kr_112, kr_120, kr_1547, kr_1554, lr_4, lr_16, lr_30, lr_38, lr_100, lr_112, lr_120, lr_1547, lr_1554, s_d hS, s_q hS, s_ni hS, s_nk hS, s_nr hS, s_nv hS, s_nb hS, s_nw hS, s_nn hS, s_i0 hS, s_i1 hS, s_i2 hS, s_k hS, s_r0 hS, s_r1 hS, s_r2 hS, s_r3 hS, s_v0 hS, s_v1 hS, s_v2 hS, s_v3 hS, s_v4 hS, s_v5 hS, s_b0 hS, s_b1 hS, s_b2 hS, s_b3 hS, s_b4 hS, s_w0 hS, s_w1 hS, s_w2 hS, s_w3 hS, s_n0 hS, s_n1 hS, show ¬ a 4 ≤ k by omega, show k < 60 by omega]
    by_cases c1 : a (78 + 6 * k + 2) = d
    · rw [if_pos c1]
      by_cases c2 : a (78 + 6 * k + 3) = t
      · rw [if_pos c2]
        by_cases c3 : a (78 + 6 * k + 5) = 0
        · rw [if_pos c3]
          have c : isI3 a k d t := ⟨c3, c1, c2⟩
          have key : ∀ (QQ : Int32 → Mem → Prop) (g9 w9 : Nat → Int32), T_X3_searchesOf QQ 1 (I k) (jm M g9 w9) = QQ (I (sea a k)) (jm M g9 w9) := by
            intro QQ g9 w9
            rw [k_sea hV (jm_St hV hS0 g9 w9) (by omega)]
            unfold sea
            by_cases c4 : a (66 + a (78 + 6 * k + 4)) = 1
            · rw [if_pos (Or.inr c4), if_pos c4]
            · rw [if_neg (by omega), if_neg c4]
          have e1 : ∀ (g9 w9 : Nat → Int32), (jm M g9 w9).1 (39 + k) = M.1 (39 + k) := fun _ _ => jm_o (by omega) (by omega)
          have e2 := s_v1 hS0 (i := k) (by omega)
          have e4 := s_v4 hS0 (i := k) (by omega)
          simp (disch := first | exact lt4 (hb _) | exact hb _ | omega) only [I_0, I_1, I_2, I_3, I_4, I_5, I_6, I_7, I_8, I_9, I_10, I_11, I_12, I_20, I_22, I_27, I_31, I_32, I_38, I_42, I_48, I_54, I_55, I_56, I_57, I_60, I_66, I_72, I_78, I_80, I_97, I_98, I_99, I_100, I_108, I_109, I_116, I_120, I_438, I_488, I_512, I_552, I_3864, oN_s, oN_n, bI_t, bI_f, Nat.add_zero, I_bt1, I_bt0, Nat.reduceLT, Nat.reduceLeDiff, Nat.reduceEqDiff, Nat.reduceAdd, Nat.reduceMul, Nat.reduceSub, tn_I, I_add, I_mul, I_div, vp_I, I_eq, I_le, I_lt, I_no, no_I, negI1, true_and, and_true, false_and, and_false, if_true, if_false, ite_true, ite_false, forall_eq, true_or, or_true, kn_0, kn_1, kn_2, kn_3, kn_4, kn_15, kn_16, kn_29, kn_30, kn_37, kn_38, kn_99, kn_100, kn_111, kn_112, kn_119, kn_120, kn_281, kn_282, kn_1543, kn_1544, kn_1545, kn_1546, kn_1547, kn_1551, kn_1552, kn_1553, kn_1554, lnn_2, lnn_4, lnn_16, lnn_30, lnn_38, lnn_100, lnn_112, lnn_120, lnn_282, lnn_1544, lnn_1547, lnn_1552, lnn_1554, rn_1_1, rn_1_2, rn_1_3, rn_1_4, rn_1_5, rn_1_6, rn_1_7, rn_1_8, rn_3_0, rn_15_0, rn_29_0, rn_37_0, rn_99_0, rn_111_0, rn_119_0, rn_1543_0, rn_1543_1, rn_1545_0, rn_1545_1, rn_0_0, rn_0_1, rn_0_3, rn_0_4, rn_0_5, rn_0_6, rn_0_7, rn_1546_0, rn_1551_0, rn_1551_3, rn_1553_0, rn_281_0, rr_4, rr_16, rr_30, rr_38, rr_100, rr_112, rr_120, rr_1547, rr_1554, kr_4, kr_16, kr_30, kr_38, kr_100, kr_112, kr_120, kr_1547, kr_1554, lr_4, lr_16, lr_30, lr_38, lr_100, lr_112, lr_120, lr_1547, lr_1554, show a (78 + 6 * k) < 10 by omega, jm_mw, jm_mg, jm_g, jm_w, e1, e2, e4, key, I_shl (show a (78 + 6 * k + 4) < 31 by omega), updI_s, updI_n, j2, j3, j4, I_or, J_sub, ne_eq]
          unfold T_X2_lookAt_139
          simp (disch := first | exact lt4 (hb _) | exact hb _ | omega) only [I_0, I_1, I_2, I_3, I_4, I_5, I_6, I_7, I_8, I_9, I_10, I_11, I_12, I_20, I_22, I_27, I_31, I_32, I_38, I_42, I_48, I_54, I_55, I_56, I_57, I_60, I_66, I_72, I_78, I_80, I_97, I_98, I_99, I_100, I_108, I_109, I_116, I_120, I_438, I_488, I_512, I_552, I_3864, oN_s, oN_n, bI_t, bI_f, Nat.add_zero, I_bt1, I_bt0, Nat.reduceLT, Nat.reduceLeDiff, Nat.reduceEqDiff, Nat.reduceAdd, Nat.reduceMul, Nat.reduceSub, tn_I, I_add, I_mul, I_div, vp_I, I_eq, I_le, I_lt, I_no, no_I, negI1, true_and, and_true, false_and, and_false, if_true, if_false, ite_true, ite_false, forall_eq, true_or, or_true, kn_0, kn_1, kn_2, kn_3, kn_4, kn_15, kn_16, kn_29, kn_30, kn_37, kn_38, kn_99, kn_100, kn_111, kn_112, kn_119, kn_120, kn_281, kn_282, kn_1543, kn_1544, kn_1545, kn_1546, kn_1547, kn_1551, kn_1552, kn_1553, kn_1554, lnn_2, lnn_4, lnn_16, lnn_30, lnn_38, lnn_100, lnn_112, lnn_120, lnn_282, lnn_1544, lnn_1547, lnn_1552, lnn_1554, rn_1_1, rn_1_2, rn_1_3, rn_1_4, rn_1_5, rn_1_6, rn_1_7, rn_1_8, rn_3_0, rn_15_0, rn_29_0, rn_37_0, rn_99_0, rn_111_0, rn_119_0, rn_1543_0, rn_1543_1, rn_1545_0, rn_1545_1, rn_0_0, rn_0_1, rn_0_3, rn_0_4, rn_0_5, rn_0_6, rn_0_7, rn_1546_0, rn_1551_0, rn_1551_3, rn_1553_0, rn_281_0, rr_4, rr_16, rr_30, rr_38, rr_100, rr_112, rr_120, rr_1547, rr_1554, kr_4, kr_16, kr_30, kr_38, kr_100, kr_112, kr_120, kr_1547, kr_1554, lr_4, lr_16, lr_30, lr_38, lr_100, lr_112, lr_120, lr_1547, lr_1554]
          refine ih (k + 1) _ _ (by omega) ⟨?_, ?_, ?_, fun q hq => ?_⟩ (fun q hq => ?_)
          · rw [ors_s, if_pos c]
            simp [updI, j2, I_or]
          · rw [ors_s, if_pos c]
            simp [updI, j3, I_or]
          · rw [sm_s, if_pos c]
            simp [updI, j4, J_sub]
            congr 1; omega
          · rw [fnd_a, Nat.zero_add, decide_eq_true c, Bool.true_and]
            by_cases c5 : a (78 + 6 * k) = q
            · subst c5
              have hno : fnd (fun v => decide (isI3 a v d t) && decide (a (78 + 6 * v) = a (78 + 6 * k))) k 0 = none := fnd_n (fun v _ hv => by
                by_cases c6 : isI3 a v d t
                · have := (hD v k (by omega) (by omega) (by omega) c6.1 c3 (c6.2.1.trans c1.symm) (c6.2.2.trans c2.symm)).1
                  simp [this]
                · simp [decide_eq_false c6])
              rw [hno]
              simp [updI, oN]
            · rw [decide_eq_false c5, if_neg (by decide)]
              unfold updI
              rw [if_neg (fun e => c5 e.symm), jw q hq]
              cases fnd (fun v => decide (isI3 a v d t) && decide (a (78 + 6 * v) = q)) k 0 <;> rfl
          · unfold updI
            rw [if_neg (by omega), if_neg (by omega), if_neg (by omega)]
            exact hg q hq
        · rw [if_neg c3]
          exact skip (fun z => c3 z.1)
      · rw [if_neg c2]
        exact skip (fun z => c2 z.2.2)
    · rw [if_neg c1]
      exact skip (fun z => c1 z.2.1)
theorem k_look {QP : Mem → Prop} (hV : VA a) (hS : St 1 a M) (hD : DD a) {d t : Nat} (hd : d < 4096) (ht : t < 4096) (h : ∀ g' w' : Nat → Int32, Jk a d t (a 4) g' w' → (∀ k, 5 ≤ k → g' k = g k) → QP (jm M g' w')) : T_X2_lookAt QP 1543 (I d) (I t) (jm M g w) := by
  have hb := hV.1
  unfold T_X2_lookAt T_J7_fill_53178
  simp (disch := first | exact lt4 (hb _) | exact hb _ | omega) only [I_0, I_1, I_2, I_3, I_4, I_5, I_6, I_7, I_8, I_9, I_10, I_11, I_12, I_20, I_22, I_27, I_31, I_32, I_38, I_42, I_48, I_54, I_55, I_56, I_57, I_60, I_66, I_72, I_78, I_80, I_97, I_98, I_99, I_100, I_108, I_109, I_116, I_120, I_438, I_488, I_512, I_552, I_3864, oN_s, oN_n, bI_t, bI_f, Nat.add_zero, I_bt1, I_bt0, Nat.reduceLT, Nat.reduceLeDiff, Nat.reduceEqDiff, Nat.reduceAdd, Nat.reduceMul, Nat.reduceSub, tn_I, I_add, I_mul, I_div, vp_I, I_eq, I_le, I_lt, I_no, no_I, negI1, true_and, and_true, false_and, and_false, if_true, if_false, ite_true, ite_false, forall_eq, true_or, or_true, kn_0, kn_1, kn_2, kn_3, kn_4, kn_15, kn_16, kn_29, kn_30, kn_37, kn_38, kn_99, kn_100, kn_111, kn_112, kn_119, kn_120, kn_281, kn_282, kn_1543, kn_1544, kn_1545, kn_1546, kn_1547, kn_1551, kn_1552, kn_1553, kn_1554, lnn_2, lnn_4, lnn_16, lnn_30, lnn_38, lnn_100, lnn_112, lnn_120, lnn_282, lnn_1544, lnn_1547, lnn_1552, lnn_1554, rn_1_1, rn_1_2, rn_1_3, rn_1_4, rn_1_5, rn_1_6, rn_1_7, rn_1_8, rn_3_0, rn_15_0, rn_29_0, rn_37_0, rn_99_0, rn_111_0, rn_119_0, rn_1543_0, rn_1543_1, rn_1545_0, rn_1545_1, rn_0_0, rn_0_1, rn_0_3, rn_0_4, rn_0_5, rn_0_6, rn_0_7, rn_1546_0, rn_1551_0, rn_1551_3, rn_1553_0, rn_281_0, rr_4, rr_16, rr_30, rr_38, rr_100, rr_112, rr_120, rr_1547, rr_1554, kr_4, kr_16, kr_30, kr_38, kr_100, kr_112, kr_120, kr_1547, kr_1554, lr_4, lr_16, lr_30, lr_38, lr_100, lr_112, lr_120, lr_1547, lr_1554]
  refine ⟨11, l_fill (fun w' hw' => ?_) 10 0 w rfl (fun j hj => by omega)⟩
  have hS' := jm_St hV hS (updI (updI g 2 (I 0)) 3 (I 0)) w'
  have e11 := s_q hS' (k := 3) (by decide)
  simp (disch := first | exact lt4 (hb _) | exact hb _ | omega) only [I_0, I_1, I_2, I_3, I_4, I_5, I_6, I_7, I_8, I_9, I_10, I_11, I_12, I_20, I_22, I_27, I_31, I_32, I_38, I_42, I_48, I_54, I_55, I_56, I_57, I_60, I_66, I_72, I_78, I_80, I_97, I_98, I_99, I_100, I_108, I_109, I_116, I_120, I_438, I_488, I_512, I_552, I_3864, oN_s, oN_n, bI_t, bI_f, Nat.add_zero, I_bt1, I_bt0, Nat.reduceLT, Nat.reduceLeDiff, Nat.reduceEqDiff, Nat.reduceAdd, Nat.reduceMul, Nat.reduceSub, tn_I, I_add, I_mul, I_div, vp_I, I_eq, I_le, I_lt, I_no, no_I, negI1, true_and, and_true, false_and, and_false, if_true, if_false, ite_true, ite_false, forall_eq, true_or, or_true, kn_0, kn_1, kn_2, kn_3, kn_4, kn_15, kn_16, kn_29, kn_30, kn_37, kn_38, kn_99, kn_100, kn_111, kn_112, kn_119, kn_120, kn_281, kn_282, kn_1543, kn_1544, kn_1545, kn_1546, kn_1547, kn_1551, kn_1552, kn_1553, kn_1554, lnn_2, lnn_4, lnn_16, lnn_30, lnn_38, lnn_100, lnn_112, lnn_120, lnn_282, lnn_1544, lnn_1547, lnn_1552, lnn_1554, rn_1_1, rn_1_2, rn_1_3, rn_1_4, rn_1_5, rn_1_6, rn_1_7, rn_1_8, rn_3_0, rn_15_0, rn_29_0, rn_37_0, rn_99_0, rn_111_0, rn_119_0, rn_1543_0, rn_1543_1, rn_1545_0, rn_1545_1, rn_0_0, rn_0_1, rn_0_3, rn_0_4, rn_0_5, rn_0_6, rn_0_7, rn_1546_0, rn_1551_0, rn_1551_3, rn_1553_0, rn_281_0, rr_4, rr_16, rr_30, rr_38, rr_100, rr_112, rr_120, rr_1547, rr_1554, kr_4, kr_16, kr_30, kr_38, kr_100, kr_112, kr_120, kr_1547, kr_1554, lr_4, lr_16, lr_30, lr_38, lr_100, lr_112, lr_120, lr_1547, lr_1554, jm_mg, e11]
  refine ⟨a 4 + 1, l_look hV hS hD hd ht g h (a 4) 0 _ w' (by omega) ⟨rfl, rfl, ?_, fun k hk => ?_⟩ (fun k hk => ?_)⟩
  · show I (a (8 + 3)) = _
    rw [← J_I]
    simp [sm]
  · rw [hw' k hk]; rfl
  · unfold updI
    rw [if_neg (by omega), if_neg (by omega), if_neg (by omega)]
end Jd1

