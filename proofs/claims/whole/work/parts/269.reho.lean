/-! ===== THE CLASS rehouses the visits of an inmate or of a room ===== -/
section Rh6
variable {M : Mem} {a : Nat → Nat} {f : Nat → Int32}
theorem sm_del {f g : Nat → Nat} {v : Nat} (h1 : ∀ u, u ≠ v → f u = g u) (h2 : f v = g v + 1) : ∀ n, v < n → sm f n = sm g n + 1
  | 0, h => by omega
  | n + 1, h => by
    rw [sm_s, sm_s]
    by_cases q : n = v
    · subst q
      rw [sm_cg (fun k hk => h1 k (by omega)), h2]
      omega
    · rw [sm_del h1 h2 n (by omega), h1 n q]
      omega
def cb (l : Int64) : Nat := sm (fun u => if bq l u = true then 1 else 0) 64
theorem cb_del {l l2 : Int64} {v : Nat} (hv : v < 64) (h : bq l v = true) (hl2 : ∀ u, u < 64 → bq l2 u = (bq l u && !decide (u = v))) : cb l = cb l2 + 1 := by
  unfold cb
  have e : sm (fun u => if bq l2 u = true then 1 else 0) 64 = sm (fun u => if (bq l u && !decide (u = v)) = true then 1 else 0) 64 := sm_cg (fun u hu => by rw [hl2 u hu])
  rw [e]
  refine sm_del (v := v) (fun u hu => ?_) ?_ 64 hv
  · simp only [decide_eq_false hu, Bool.not_false, Bool.and_true]
  · simp only [h, decide_true, Bool.not_true, Bool.and_false, if_true, Bool.false_eq_true, if_false]
theorem rhs_n {c x n L k : Nat} (h : nx a c x L = none) : rhs c x n a L k = (a, k) := by
  cases n with
  | zero => rfl
  | succ n => rw [show rhs c x (n + 1) a L k = (match nx a c x L with | none => (a, k) | some v => rhs c x n (chg a v).1 (mdV a v + 1) (k + (chg a v).2)) from rfl, h]
theorem rhs_s {c x n L k v : Nat} (h : nx a c x L = some v) : rhs c x (n + 1) a L k = rhs c x n (chg a v).1 (mdV a v + 1) (k + (chg a v).2) := by
  rw [show rhs c x (n + 1) a L k = (match nx a c x L with | none => (a, k) | some v => rhs c x n (chg a v).1 (mdV a v + 1) (k + (chg a v).2)) from rfl, h]
theorem nx_nil {c x L : Nat} {l : Int64} (h4 : a 4 ≤ 60) (hl : ∀ u, u < 64 → bq l u = (decide (u < a 4) && nxp a c x L u)) : (l = 0) = (nx a c x L = none) := by
  apply propext
  rw [lg_nil]
  constructor
  · intro h
    cases hz : nx a c x L with
    | none => rfl
    | some v =>
      have q := am_s hz
      have := h v (by omega)
      rw [hl v (by omega), decide_eq_true q.1, q.2.1] at this
      cases this
  · intro h u hu
    rw [hl u hu]
    by_cases c : u < a 4
    · rw [am_n h u c, Bool.and_false]
    · rw [decide_eq_false c, Bool.false_and]
theorem chg_2 {v : Nat} : (chg a v).2 = 0 ∨ (chg a v).2 = 1 := by
  cases hr : rmV a v with
  | none => rw [chg_n hr]; exact Or.inr rfl
  | some r =>
    by_cases c : r = a (78 + 6 * v + 4)
    · subst c; rw [chg_e hr]; exact Or.inl rfl
    · rw [chg_d hr c]; exact Or.inr rfl
theorem k_reh_l {Q : Int32 → Mem → Prop} {c x : Nat} (hc : c = 4 ∨ c = 0) : ∀ (j : Nat) (a : Nat → Nat) (M : Mem) (n L k p : Nat) (l : Int64), GS a → Cz a M → p + j = 60 → cb l ≤ j → 224 ≤ n + L → (∀ u, u < 64 → bq l u = (decide (u < a 4) && nxp a c x L u)) →
    (∀ M', Cz (rhs c x n a L k).1 M' → Ot M M' → Q (I (rhs c x n a L k).2) M') → T_X0_rehouse_8 Q (j + 1) 1545 (I k) l (I p) M := by
  intro j
  induction j with
  | zero =>
    intro a M n L k p l hG hC hp hcb hn hl h
    have h4 := hG.1.2.1.2.2.2.2.1
    have hz : nx a c x L = none := by
      cases hz : nx a c x L with
      | none => rfl
      | some v =>
        exfalso
        have q := am_s hz
        have hv : bq l v = true := by rw [hl v (by omega), decide_eq_true q.1, q.2.1]; rfl
        have := cb_del (l2 := l &&& ((1 <<< (Int32.toInt64 (I v) &&& 63)) ^^^ (-1))) (show v < 64 by omega) hv (fun u hu => bq_del (by omega) hu)
        omega
    rw [rhs_n hz] at h
    unfold T_X0_rehouse_8 T_X0_rehouse_64
    simp (disch := first | exact lt4 (hb _) | exact hb _ | omega) only [I_0, I_1, I_2, I_3, I_4, I_5, I_6, I_7, I_8, I_9, I_10, I_11, I_12, I_20, I_22, I_27, I_31, I_32, I_38, I_42, I_48, I_54, I_55, I_56, I_57, I_60, I_66, I_72, I_78, I_80, I_97, I_98, I_99, I_100, I_108, I_109, I_116, I_120, I_438, I_488, I_512, I_552, I_3864, oN_s, oN_n, bI_t, bI_f, Nat.add_zero, I_bt1, I_bt0, Nat.reduceLT, Nat.reduceLeDiff, Nat.reduceEqDiff, Nat.reduceAdd, Nat.reduceMul, Nat.reduceSub, tn_I, I_add, I_mul, I_div, vp_I, I_eq, I_le, I_lt, I_no, no_I, negI1, true_and, and_true, false_and, and_false, if_true, if_false, ite_true, ite_false, forall_eq, true_or, or_true, kn_0, kn_1, kn_2, kn_3, kn_4, kn_15, kn_16, kn_29, kn_30, kn_37, kn_38, kn_99, kn_100, kn_111, kn_112, kn_119, kn_120, kn_281, kn_282, kn_1543, kn_1544, kn_1545, kn_1546, kn_1547, kn_1551, kn_1552, kn_1553, kn_1554, lnn_2, lnn_4, lnn_16, lnn_30, lnn_38, lnn_100, lnn_112, lnn_120, lnn_282, lnn_1544, lnn_1547, lnn_1552, lnn_1554, rn_1_1, rn_1_2, rn_1_3, rn_1_4, rn_1_5, rn_1_6, rn_1_7, rn_1_8, rn_3_0, rn_15_0, rn_29_0, rn_37_0, rn_99_0, rn_111_0, rn_119_0, rn_1543_0, rn_1543_1, rn_1545_0, rn_1545_1, rn_0_0, rn_0_1, rn_0_3, rn_0_4, rn_0_5, rn_0_6, rn_0_7, rn_1546_0, rn_1551_0, rn_1551_3, rn_1553_0, rn_281_0, rr_4, rr_16, rr_30, rr_38, rr_100, rr_112, rr_120, rr_1547, rr_1554, kr_4, kr_16, kr_30, kr_38, kr_100, kr_112, kr_120, kr_1547, kr_1554, lr_4, lr_16, lr_30, lr_38, lr_100, lr_112, lr_120, lr_1547, lr_1554, show 60 ≤ p by omega]
    exact h M hC Ot.rfl
  | succ j ih =>
    intro a M n L k p l hG hC hp hcb hn hl h
    have hV := hG.1
    have h4 := hG.1.2.1.2.2.2.2.1
    have hnil := nx_nil h4 hl
    have hlg : (lg_cmp l 0 = I 0) = (nx a c x L = none) := by rw [← I_0, lg_0, hnil]
    unfold T_X0_rehouse_8 T_X0_rehouse_64
    simp (disch := first | exact lt4 (hb _) | exact hb _ | omega) only [I_0, I_1, I_2, I_3, I_4, I_5, I_6, I_7, I_8, I_9, I_10, I_11, I_12, I_20, I_22, I_27, I_31, I_32, I_38, I_42, I_48, I_54, I_55, I_56, I_57, I_60, I_66, I_72, I_78, I_80, I_97, I_98, I_99, I_100, I_108, I_109, I_116, I_120, I_438, I_488, I_512, I_552, I_3864, oN_s, oN_n, bI_t, bI_f, Nat.add_zero, I_bt1, I_bt0, Nat.reduceLT, Nat.reduceLeDiff, Nat.reduceEqDiff, Nat.reduceAdd, Nat.reduceMul, Nat.reduceSub, tn_I, I_add, I_mul, I_div, vp_I, I_eq, I_le, I_lt, I_no, no_I, negI1, true_and, and_true, false_and, and_false, if_true, if_false, ite_true, ite_false, forall_eq, true_or, or_true, kn_0, kn_1, kn_2, kn_3, kn_4, kn_15, kn_16, kn_29, kn_30, kn_37, kn_38, kn_99, kn_100, kn_111, kn_112, kn_119, kn_120, kn_281, kn_282, kn_1543, kn_1544, kn_1545, kn_1546, kn_1547, kn_1551, kn_1552, kn_1553, kn_1554, lnn_2, lnn_4, lnn_16, lnn_30, lnn_38, lnn_100, lnn_112, lnn_120, lnn_282, lnn_1544, lnn_1547, lnn_1552, lnn_1554, rn_1_1, rn_1_2, rn_1_3, rn_1_4, rn_1_5, rn_1_6, rn_1_7, rn_1_8, rn_3_0, rn_15_0, rn_29_0, rn_37_0, rn_99_0, rn_111_0, rn_119_0, rn_1543_0, rn_1543_1, rn_1545_0, rn_1545_1, rn_0_0, rn_0_1, rn_0_3, rn_0_4, rn_0_5, rn_0_6, rn_0_7, rn_1546_0, rn_1551_0, rn_1551_3, rn_1553_0, rn_281_0, rr_4, rr_16, rr_30, rr_38, rr_100, rr_112, rr_120, rr_1547, rr_1554, kr_4, kr_16, kr_30, kr_38, kr_100, kr_112, kr_120, kr_1547, kr_1554, lr_4, lr_16, lr_30, lr_38, lr_100, lr_112, lr_120, lr_1547, lr_1554, show ¬ 60 ≤ p by omega]
    cases hz : nx a c x L with
    | none =>
      rw [rhs_n hz] at h
      rw [if_pos (by rw [hlg]; exact hz)]
      exact h M hC Ot.rfl
    | some v =>
      have hs := nx_sp hV hz
      obtain ⟨n', rfl⟩ : ∃ n', n = n' + 1 := ⟨n - 1, by omega⟩
      rw [rhs_s hz] at h
      rw [if_neg (by rw [hlg, hz]; exact fun q => by cases q)]
      refine k_earl hV hC.1 ?_
      rw [earl_nx hG hc hl, hz]
      have hv : bq l v = true := by rw [hl v (by omega), decide_eq_true hs.1, (am_s hz).2.1]; rfl
      have hdel : ∀ u, u < 64 → bq (l &&& ((1 <<< (Int32.toInt64 (I v) &&& 63)) ^^^ (-1))) u = (bq l u && !decide (u = v)) := fun u hu => bq_del (by omega) hu
      have hcd := cb_del (show v < 64 by omega) hv hdel
      have hmn := mask_next hG hc hl hz hdel
      rw [show oN (some v) = I v from rfl]
      refine k_chg hG hC hs.1 hs.2.1 (fun M2 hC2 hO2 => ?_)
      have key := ih (chg a v).1 M2 n' (mdV a v + 1) (k + (chg a v).2) (p + 1) _ (GS_chg hG hs.1) hC2 (by omega) (by omega) (by omega) hmn (fun M' z1 z2 => h M' z1 (hO2.trans z2))
      unfold T_X0_rehouse_58
      rcases chg_2 (a := a) (v := v) with e | e
      · rw [e] at key ⊢
        simp (disch := first | exact lt4 (hb _) | exact hb _ | omega) only [I_0, I_1, I_2, I_3, I_4, I_5, I_6, I_7, I_8, I_9, I_10, I_11, I_12, I_20, I_22, I_27, I_31, I_32, I_38, I_42, I_48, I_54, I_55, I_56, I_57, I_60, I_66, I_72, I_78, I_80, I_97, I_98, I_99, I_100, I_108, I_109, I_116, I_120, I_438, I_488, I_512, I_552, I_3864, oN_s, oN_n, bI_t, bI_f, Nat.add_zero, I_bt1, I_bt0, Nat.reduceLT, Nat.reduceLeDiff, Nat.reduceEqDiff, Nat.reduceAdd, Nat.reduceMul, Nat.reduceSub, tn_I, I_add, I_mul, I_div, vp_I, I_eq, I_le, I_lt, I_no, no_I, negI1, true_and, and_true, false_and, and_false, if_true, if_false, ite_true, ite_false, forall_eq, true_or, or_true, kn_0, kn_1, kn_2, kn_3, kn_4, kn_15, kn_16, kn_29, kn_30, kn_37, kn_38, kn_99, kn_100, kn_111, kn_112, kn_119, kn_120, kn_281, kn_282, kn_1543, kn_1544, kn_1545, kn_1546, kn_1547, kn_1551, kn_1552, kn_1553, kn_1554, lnn_2, lnn_4, lnn_16, lnn_30, lnn_38, lnn_100, lnn_112, lnn_120, lnn_282, lnn_1544, lnn_1547, lnn_1552, lnn_1554, rn_1_1, rn_1_2, rn_1_3, rn_1_4, rn_1_5, rn_1_6, rn_1_7, rn_1_8, rn_3_0, rn_15_0, rn_29_0, rn_37_0, rn_99_0, rn_111_0, rn_119_0, rn_1543_0, rn_1543_1, rn_1545_0, rn_1545_1, rn_0_0, rn_0_1, rn_0_3, rn_0_4, rn_0_5, rn_0_6, rn_0_7, rn_1546_0, rn_1551_0, rn_1551_3, rn_1553_0, rn_281_0, rr_4, rr_16, rr_30, rr_38, rr_100, rr_112, rr_120, rr_1547, rr_1554, kr_4, kr_16, kr_30, kr_38, kr_100, kr_112, kr_120, kr_1547, kr_1554, lr_4, lr_16, lr_30, lr_38, lr_100, lr_112, lr_120, lr_1547, lr_1554]
        exact key
      · rw [e] at key ⊢
        simp (disch := first | exact lt4 (hb _) | exact hb _ | omega) only [I_0, I_1, I_2, I_3, I_4, I_5, I_6, I_7, I_8, I_9, I_10, I_11, I_12, I_20, I_22, I_27, I_31, I_32, I_38, I_42, I_48, I_54, I_55, I_56, I_57, I_60, I_66, I_72, I_78, I_80, I_97, I_98, I_99, I_100, I_108, I_109, I_116, I_120, I_438, I_488, I_512, I_552, I_3864, oN_s, oN_n, bI_t, bI_f, Nat.add_zero, I_bt1, I_bt0, Nat.reduceLT, Nat.reduceLeDiff, Nat.reduceEqDiff, Nat.reduceAdd, Nat.reduceMul, Nat.reduceSub, tn_I, I_add, I_mul, I_div, vp_I, I_eq, I_le, I_lt, I_no, no_I, negI1, true_and, and_true, false_and, and_false, if_true, if_false, ite_true, ite_false, forall_eq, true_or, or_true, kn_0, kn_1, kn_2, kn_3, kn_4, kn_15, kn_16, kn_29, kn_30, kn_37, kn_38, kn_99, kn_100, kn_111, kn_112, kn_119, kn_120, kn_281, kn_282, kn_1543, kn_1544, kn_1545, kn_1546, kn_1547, kn_1551, kn_1552, kn_1553, kn_1554, lnn_2, lnn_4, lnn_16, lnn_30, lnn_38, lnn_100, lnn_112, lnn_120, lnn_282, lnn_1544, lnn_1547, lnn_1552, lnn_1554, rn_1_1, rn_1_2, rn_1_3, rn_1_4, rn_1_5, rn_1_6, rn_1_7, rn_1_8, rn_3_0, rn_15_0, rn_29_0, rn_37_0, rn_99_0, rn_111_0, rn_119_0, rn_1543_0, rn_1543_1, rn_1545_0, rn_1545_1, rn_0_0, rn_0_1, rn_0_3, rn_0_4, rn_0_5, rn_0_6, rn_0_7, rn_1546_0, rn_1551_0, rn_1551_3, rn_1553_0, rn_281_0, rr_4, rr_16, rr_30, rr_38, rr_100, rr_112, rr_120, rr_1547, rr_1554, kr_4, kr_16, kr_30, kr_38, kr_100, kr_112, kr_120, kr_1547, kr_1554, lr_4, lr_16, lr_30, lr_38, lr_100, lr_112, lr_120, lr_1547, lr_1554]
        exact key
end Rh6

