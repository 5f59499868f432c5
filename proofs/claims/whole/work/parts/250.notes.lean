/-! ===== NOTICES: the reference's and the class's ===== -/
/-- a change of visit v is noted -/
def nt (a : Nat → Nat) (v c k : Nat) : Nat := if a 7 = 20 then (if k = 550 then v else if k = 551 then c else if 512 ≤ k ∧ k < 550 then a (k + 2) else a k) else if k = 7 then a 7 + 1 else if k = 512 + 2 * a 7 then v else if k = 513 + 2 * a 7 then c else a k
def nsh (a : Nat → Nat) (m k : Nat) : Nat := if 512 ≤ k ∧ k < 512 + m then a (k + 2) else a k
theorem nt_lt {a : Nat → Nat} (hb : ∀ k, a k < 4096) {v c : Nat} (hv : v < 4096) (hc : c < 4096) (h7 : a 7 ≤ 20) : ∀ k, nt a v c k < 4096 := by
  intro k
  have h0 := hb k
  have h1 := hb (k + 2)
  have h2 := hb 7
  unfold nt
  split
  · split
    · exact hv
    · split
      · exact hc
      · split
        · exact h1
        · exact h0
  · split
    · omega
    · split
      · exact hv
      · split
        · exact hc
        · exact h0
theorem nt_lo {a : Nat → Nat} {v c k : Nat} (h : k < 512) (h7 : k ≠ 7) : nt a v c k = a k := by
  unfold nt
  split
  · rw [if_neg (by omega), if_neg (by omega), if_neg (by omega)]
  · rw [if_neg (by omega), if_neg (by omega)]
section Nt1
variable {M : Mem} {a : Nat → Nat} {f : Nat → Int32} {Q : Mem → Prop}
theorem m_notes_e {v c : Nat} {f : Nat → Int32} (hb : ∀ k, a k < 4096) (h7 : 1 ≤ a 7 ∧ a 7 ≤ 20) : T_X7_notes_62 Q 1582 (I v) (I c) (mm M a f) = Q (mm M (updN (updN a (510 + 2 * a 7) v) (511 + 2 * a 7) c) (updI f 12 (f 12 + 1))) := by
  have hb7 := hb 7
  have hb2 : ∀ x, updN a (510 + 2 * a 7) x 7 = a 7 := fun x => updN_n (by omega)
  unfold T_X7_notes_62
  simp (disch := first | exact lt4 (hb _) | exact hb _ | omega) only [I_0, I_1, I_2, I_3, I_4, I_5, I_6, I_7, I_8, I_9, I_10, I_11, I_12, I_20, I_22, I_27, I_31, I_32, I_38, I_42, I_48, I_54, I_55, I_56, I_57, I_60, I_66, I_72, I_78, I_80, I_97, I_98, I_99, I_100, I_108, I_109, I_116, I_120, I_438, I_488, I_512, I_552, I_3864, oN_s, oN_n, bI_t, bI_f, Nat.add_zero, I_bt1, I_bt0, Nat.reduceLT, Nat.reduceLeDiff, Nat.reduceEqDiff, Nat.reduceAdd, Nat.reduceMul, Nat.reduceSub, tn_I, I_add, I_mul, I_div, vp_I, I_eq, I_le, I_lt, I_no, no_I, negI1, kd7, rf71, kdS, lnS, mm_sa, mm_fa, mm_ms, mm_mf, true_and, and_true, false_and, and_false, if_true, if_false, ite_true, ite_false, forall_eq, true_or, or_true, I_sub, hb2, show 512 + 2 * a 7 - 2 = 510 + 2 * a 7 by omega, show 512 + 2 * a 7 - 1 = 511 + 2 * a 7 by omega, show 510 + 2 * a 7 < 552 by omega, show 511 + 2 * a 7 < 552 by omega]
theorem m_notes_l (hb : ∀ k, a k < 4096) (h7 : a 7 = 20) {v c : Nat} (h : Q (mm M (nt a v c) (updI f 12 (f 12 + 1)))) : ∀ j k, k + j = 38 → T_X7_notes_14 Q (j + 1) 1582 (I v) (I c) (I k) (mm M (nsh a k) f) := by
  intro j
  induction j with
  | zero =>
    intro k hk
    obtain rfl : k = 38 := by omega
    have e7 : nsh a 38 7 = 20 := h7
    unfold T_X7_notes_14
    simp (disch := first | exact lt4 (hb _) | exact hb _ | omega) only [I_0, I_1, I_2, I_3, I_4, I_5, I_6, I_7, I_8, I_9, I_10, I_11, I_12, I_20, I_22, I_27, I_31, I_32, I_38, I_42, I_48, I_54, I_55, I_56, I_57, I_60, I_66, I_72, I_78, I_80, I_97, I_98, I_99, I_100, I_108, I_109, I_116, I_120, I_438, I_488, I_512, I_552, I_3864, oN_s, oN_n, bI_t, bI_f, Nat.add_zero, I_bt1, I_bt0, Nat.reduceLT, Nat.reduceLeDiff, Nat.reduceEqDiff, Nat.reduceAdd, Nat.reduceMul, Nat.reduceSub, tn_I, I_add, I_mul, I_div, vp_I, I_eq, I_le, I_lt, I_no, no_I, negI1, kd7, rf71, kdS, lnS, mm_sa, mm_fa, mm_ms, mm_mf, true_and, and_true, false_and, and_false, if_true, if_false, ite_true, ite_false, forall_eq, true_or, or_true]
    rw [m_notes_e (fun k => by unfold nsh; split; exact hb _; exact hb _) (by rw [e7]; exact ⟨by decide, by decide⟩), e7]
    have : updN (updN (nsh a 38) (510 + 2 * 20) v) (511 + 2 * 20) c = nt a v c := by
      funext k
      unfold nt nsh
      rw [if_pos h7]
      by_cases q : k = 551
      · subst q; rw [updN_s, if_neg (by decide), if_pos rfl]
      · rw [updN_n q]
        by_cases q2 : k = 550
        · subst q2; rw [updN_s, if_pos rfl]
        · rw [updN_n q2, if_neg q2, if_neg q]
    rw [this]
    exact h
  | succ j ih =>
    intro k hk
    have e : updN (nsh a k) (512 + k) (nsh a k (512 + k + 2)) = nsh a (k + 1) := by
      funext i
      unfold nsh
      by_cases q : i = 512 + k
      · subst q; rw [updN_s, if_neg (by omega), if_pos (by omega)]
      · rw [updN_n q]
        by_cases q2 : 512 ≤ i ∧ i < 512 + k
        · rw [if_pos q2, if_pos (by omega)]
        · rw [if_neg q2, if_neg (by omega)]
    unfold T_X7_notes_14
    simp (disch := first | exact lt4 (hb _) | exact hb _ | omega) only [I_0, I_1, I_2, I_3, I_4, I_5, I_6, I_7, I_8, I_9, I_10, I_11, I_12, I_20, I_22, I_27, I_31, I_32, I_38, I_42, I_48, I_54, I_55, I_56, I_57, I_60, I_66, I_72, I_78, I_80, I_97, I_98, I_99, I_100, I_108, I_109, I_116, I_120, I_438, I_488, I_512, I_552, I_3864, oN_s, oN_n, bI_t, bI_f, Nat.add_zero, I_bt1, I_bt0, Nat.reduceLT, Nat.reduceLeDiff, Nat.reduceEqDiff, Nat.reduceAdd, Nat.reduceMul, Nat.reduceSub, tn_I, I_add, I_mul, I_div, vp_I, I_eq, I_le, I_lt, I_no, no_I, negI1, kd7, rf71, kdS, lnS, mm_sa, mm_fa, mm_ms, mm_mf, true_and, and_true, false_and, and_false, if_true, if_false, ite_true, ite_false, forall_eq, true_or, or_true, show ¬ 38 ≤ k by omega, show 512 + k + 2 < 552 by omega, show 512 + k < 552 by omega]
    rw [e]
    exact ih (k + 1) (by omega)
theorem m_notes (hb : ∀ k, a k < 4096) (h7 : a 7 ≤ 20) {v c : Nat} (h : Q (mm M (nt a v c) (updI f 12 (f 12 + 1)))) : T_X7_notes Q 1582 (I v) (I c) (mm M a f) := by
  unfold T_X7_notes
  by_cases c7 : a 7 = 20
  · simp (disch := first | exact lt4 (hb _) | exact hb _ | omega) only [I_0, I_1, I_2, I_3, I_4, I_5, I_6, I_7, I_8, I_9, I_10, I_11, I_12, I_20, I_22, I_27, I_31, I_32, I_38, I_42, I_48, I_54, I_55, I_56, I_57, I_60, I_66, I_72, I_78, I_80, I_97, I_98, I_99, I_100, I_108, I_109, I_116, I_120, I_438, I_488, I_512, I_552, I_3864, oN_s, oN_n, bI_t, bI_f, Nat.add_zero, I_bt1, I_bt0, Nat.reduceLT, Nat.reduceLeDiff, Nat.reduceEqDiff, Nat.reduceAdd, Nat.reduceMul, Nat.reduceSub, tn_I, I_add, I_mul, I_div, vp_I, I_eq, I_le, I_lt, I_no, no_I, negI1, kd7, rf71, kdS, lnS, mm_sa, mm_fa, mm_ms, mm_mf, true_and, and_true, false_and, and_false, if_true, if_false, ite_true, ite_false, forall_eq, true_or, or_true, c7]
    have e : nsh a 0 = a := funext fun k => if_neg (by omega)
    have := m_notes_l hb c7 h 38 0 (by omega)
    rw [e] at this
    exact ⟨39, this⟩
  · have e0 : updN a 7 (a 7 + 1) 7 = a 7 + 1 := updN_s
    simp (disch := first | exact lt4 (hb _) | exact hb _ | omega) only [I_0, I_1, I_2, I_3, I_4, I_5, I_6, I_7, I_8, I_9, I_10, I_11, I_12, I_20, I_22, I_27, I_31, I_32, I_38, I_42, I_48, I_54, I_55, I_56, I_57, I_60, I_66, I_72, I_78, I_80, I_97, I_98, I_99, I_100, I_108, I_109, I_116, I_120, I_438, I_488, I_512, I_552, I_3864, oN_s, oN_n, bI_t, bI_f, Nat.add_zero, I_bt1, I_bt0, Nat.reduceLT, Nat.reduceLeDiff, Nat.reduceEqDiff, Nat.reduceAdd, Nat.reduceMul, Nat.reduceSub, tn_I, I_add, I_mul, I_div, vp_I, I_eq, I_le, I_lt, I_no, no_I, negI1, kd7, rf71, kdS, lnS, mm_sa, mm_fa, mm_ms, mm_mf, true_and, and_true, false_and, and_false, if_true, if_false, ite_true, ite_false, forall_eq, true_or, or_true, c7]
    rw [m_notes_e (fun k => by unfold updN; split; omega; exact hb k) (by rw [e0]; omega), e0]
    have : updN (updN (updN a 7 (a 7 + 1)) (510 + 2 * (a 7 + 1)) v) (511 + 2 * (a 7 + 1)) c = nt a v c := by
      funext k
      unfold nt
      rw [if_neg c7]
      by_cases q : k = 7
      · subst q; rw [updN_n (by omega), updN_n (by omega), updN_s, if_pos rfl]
      · rw [if_neg q]
        by_cases q2 : k = 512 + 2 * a 7
        · subst q2; rw [updN_n (by omega), show 510 + 2 * (a 7 + 1) = 512 + 2 * a 7 by omega, updN_s, if_pos rfl]
        · rw [if_neg q2]
          by_cases q3 : k = 513 + 2 * a 7
          · subst q3; rw [show 511 + 2 * (a 7 + 1) = 513 + 2 * a 7 by omega, updN_s, if_pos rfl]
          · rw [if_neg q3, updN_n (by omega), updN_n (by omega), updN_n q]
    rw [this]
    exact h
end Nt1

