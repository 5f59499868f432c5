/-! ===== A WISH IS DROPPED; A GOOD STATE ===== -/
def drw (a : Nat → Nat) (k j : Nat) : Nat := if j = 6 then a 6 - 1 else if 488 + 4 * k ≤ j ∧ j + 4 < 488 + 4 * a 6 then a (j + 4) else a j
def dsh (a : Nat → Nat) (k m j : Nat) : Nat := if 488 + 4 * k ≤ j ∧ j < 488 + m then a (j + 4) else a j
/-- a state that a run can reach -/
def GS (a : Nat → Nat) : Prop := VA a ∧ DD a ∧ (∀ v, v < a 4 → a (78 + 6 * v + 5) < 3) ∧ ∀ i, a 1 ≤ i → i < 10 → a (32 + i) = 0
theorem drw_lo {a : Nat → Nat} {k j : Nat} (h : j < 488 ∨ 512 ≤ j) (h6 : j ≠ 6) (ha : a 6 ≤ 6) : drw a k j = a j := by
  unfold drw
  rw [if_neg h6, if_neg (by omega)]
section Ws1
variable {M : Mem} {a : Nat → Nat} {f : Nat → Int32}
theorem GS_lo (hG : GS a) {a' : Nat → Nat} (hb : ∀ k, a' k < 4096) (h7 : a' 7 ≤ 20) (e : ∀ k, k < 512 → k ≠ 7 → a' k = a k) : GS a' := by
  obtain ⟨hV, hD, h3, hg⟩ := hG
  have h4 := hV.2.1.2.2.2.2.1
  have h1 := hV.2.1.2.1
  refine ⟨VA_lo hV hb h7 e, DD_lo hD h4 e, fun v hv => ?_, fun i hi hi2 => ?_⟩
  · rw [e 4 (by omega) (by omega)] at hv
    rw [e _ (by omega) (by omega)]
    exact h3 v hv
  · rw [e 1 (by omega) (by omega)] at hi
    rw [e _ (by omega) (by omega)]
    exact hg i hi hi2
theorem GS_nt (hG : GS a) {v c : Nat} (hv : v < 4096) (hc : c < 4096) : GS (nt a v c) := ⟨VA_nt hG.1 hv hc, DD_nt hG.2.1 hG.1.2.1.2.2.2.2.1, fun u hu => by
    have h4 := hG.1.2.1.2.2.2.2.1
    rw [nt_lo (by omega) (by omega)] at hu
    rw [nt_lo (by omega) (by omega)]; exact hG.2.2.1 u hu, fun i hi hi2 => by
    rw [nt_lo (by omega) (by omega)] at hi
    rw [nt_lo (by omega) (by omega)]; exact hG.2.2.2 i hi hi2⟩
theorem GS_adv (hG : GS a) {i s d t r : Nat} (hi : i < a 1) (hs : 0 < s ∧ s < 2 ^ a 2) (hd : d ≤ 55) (ht : t < 4) (h : (rsn a i s d t).1 = 0) (hr : rmB a i (pc s) d t = some r) : GS (adv a i s d t r) := by
  have h4 := (rsn_0 hG.1 h).choose_spec.2.2.1
  have q := VD_adv hG.1 hG.2.1 hi hs hd ht h hr
  refine ⟨q.1, q.2, fun v hv => ?_, fun j hj hj2 => ?_⟩
  · rw [adv_4] at hv
    by_cases z : v = a 4
    · subst z; rw [adv_c.2.2.2.2.2]; decide
    · rw [adv_lo (by omega) (by omega)]; exact hG.2.2.1 v (by omega)
  · rw [adv_lo (by omega) (by omega)] at hj
    rw [adv_lo (by omega) (by omega)]; exact hG.2.2.2 j hj hj2
theorem GS_drw (hG : GS a) {k : Nat} (hk : k < a 6) : GS (drw a k) := by
  obtain ⟨hV, hD, h3, hg⟩ := hG
  have hV' := hV
  obtain ⟨hb, h0, h1, h2, h3', hv, h5, h6⟩ := hV'
  have ha := h0.2.2.2.2.2.2.1
  have h4 := h0.2.2.2.2.1
  have e : ∀ j, j < 488 → j ≠ 6 → drw a k j = a j := fun j hj hj6 => drw_lo (Or.inl hj) hj6 ha
  have e6 : drw a k 6 = a 6 - 1 := if_pos rfl
  have e7 := e 7 (by omega) (by omega)
  refine ⟨⟨fun j => ?_, ?_, ?_, ?_, ?_, ?_, ?_, ?_⟩, ?_, fun v hv => ?_, fun i hi hi2 => ?_⟩
  · have q1 := hb j
    have q2 := hb (j + 4)
    unfold drw
    repeat' split
    all_goals omega
  · rw [e 0 (by omega) (by omega), e 1 (by omega) (by omega), e 2 (by omega) (by omega), e 3 (by omega) (by omega), e 4 (by omega) (by omega), e 5 (by omega) (by omega), e6, e 7 (by omega) (by omega), e 8 (by omega) (by omega), e 9 (by omega) (by omega), e 10 (by omega) (by omega), e 11 (by omega) (by omega)]
    exact ⟨h0.1, h0.2.1, h0.2.2.1, h0.2.2.2.1, h0.2.2.2.2.1, h0.2.2.2.2.2.1, by omega, h0.2.2.2.2.2.2.2⟩
  · rw [e 1 (by omega) (by omega)]
    intro i hi
    have := h0.2.1
    rw [e _ (by omega) (by omega), e _ (by omega) (by omega), e _ (by omega) (by omega)]
    exact h1 i hi
  · rw [e 2 (by omega) (by omega)]
    intro i hi
    have := h0.2.2.1
    rw [e _ (by omega) (by omega)]
    exact h2 i hi
  · rw [e 3 (by omega) (by omega)]
    intro i hi
    have := h0.2.2.2.1
    rw [e _ (by omega) (by omega), e _ (by omega) (by omega), e _ (by omega) (by omega), e _ (by omega) (by omega)]
    exact h3' i hi
  · rw [e 4 (by omega) (by omega), e 1 (by omega) (by omega), e 2 (by omega) (by omega), e 3 (by omega) (by omega)]
    intro i hi
    rw [e (78 + 6 * i) (by omega) (by omega), e (78 + 6 * i + 1) (by omega) (by omega), e (78 + 6 * i + 2) (by omega) (by omega), e (78 + 6 * i + 3) (by omega) (by omega), e (78 + 6 * i + 4) (by omega) (by omega), e (78 + 6 * i + 5) (by omega) (by omega)]
    exact hv i hi
  · have := h0.2.2.2.2.2.1
    rw [e 5 (by omega) (by omega), e 1 (by omega) (by omega), e 2 (by omega) (by omega)]
    intro i hi
    rw [e (438 + 5 * i) (by omega) (by omega), e (438 + 5 * i + 1) (by omega) (by omega), e (438 + 5 * i + 2) (by omega) (by omega), e (438 + 5 * i + 3) (by omega) (by omega), e (438 + 5 * i + 4) (by omega) (by omega)]
    exact h5 i hi
  · rw [e6, e 1 (by omega) (by omega), e 2 (by omega) (by omega)]
    intro i hi
    have q : ∀ c, c < 4 → drw a k (488 + 4 * i + c) = if k ≤ i then a (488 + 4 * (i + 1) + c) else a (488 + 4 * i + c) := by
      intro c hc
      unfold drw
      rw [if_neg (by omega)]
      by_cases z : k ≤ i
      · rw [if_pos z, if_pos (by omega), show 488 + 4 * i + c + 4 = 488 + 4 * (i + 1) + c by omega]
      · rw [if_neg z, if_neg (by omega)]
    have q0 := q 0 (by omega)
    rw [Nat.add_zero, Nat.add_zero] at q0
    rw [q0, q 1 (by omega), q 2 (by omega), q 3 (by omega)]
    by_cases z : k ≤ i
    · rw [if_pos z, if_pos z, if_pos z, if_pos z]; exact h6 (i + 1) (by omega)
    · rw [if_neg z, if_neg z, if_neg z, if_neg z]; exact h6 i (by omega)
  · intro v w hv' hw'
    rw [e 4 (by omega) (by omega)] at hv' hw'
    rw [e (78 + 6 * v) (by omega) (by omega), e (78 + 6 * v + 2) (by omega) (by omega), e (78 + 6 * v + 3) (by omega) (by omega), e (78 + 6 * v + 4) (by omega) (by omega), e (78 + 6 * v + 5) (by omega) (by omega), e (78 + 6 * w) (by omega) (by omega), e (78 + 6 * w + 2) (by omega) (by omega), e (78 + 6 * w + 3) (by omega) (by omega), e (78 + 6 * w + 4) (by omega) (by omega), e (78 + 6 * w + 5) (by omega) (by omega)]
    exact hD v w hv' hw'
  · rw [e 4 (by omega) (by omega)] at hv
    rw [e _ (by omega) (by omega)]; exact h3 v hv
  · rw [e 1 (by omega) (by omega)] at hi
    rw [e _ (by omega) (by omega)]; exact hg i hi hi2
theorem m_drop_l {Q : Mem → Prop} (hb : ∀ k, a k < 4096) (ha : a 6 ≤ 6) {k : Nat} (hk : k < a 6) (h : Q (mm M (drw a k) f)) : ∀ j m, m + j = 4 * a 6 - 4 → 4 * k ≤ m → T_X7_dropsWish_4 Q (j + 1) 1582 (I m) (mm M (dsh a k m) f) := by
  intro j
  induction j with
  | zero =>
    intro m hm hkm
    have e6 : dsh a k m 6 = a 6 := if_neg (by omega)
    have e : updN (dsh a k m) 6 (a 6 - 1) = drw a k := by
      funext j
      unfold drw dsh
      by_cases q : j = 6
      · subst q; rw [updN_s, if_pos rfl]
      · rw [updN_n q, if_neg q]
        by_cases q2 : 488 + 4 * k ≤ j ∧ j < 488 + m
        · rw [if_pos q2, if_pos (by omega)]
        · rw [if_neg q2, if_neg (by omega)]
    unfold T_X7_dropsWish_4
    simp (disch := first | exact lt4 (hb _) | exact hb _ | omega) only [I_0, I_1, I_2, I_3, I_4, I_5, I_6, I_7, I_8, I_9, I_10, I_11, I_12, I_20, I_22, I_27, I_31, I_32, I_38, I_42, I_48, I_54, I_55, I_56, I_57, I_60, I_66, I_72, I_78, I_80, I_97, I_98, I_99, I_100, I_108, I_109, I_116, I_120, I_438, I_488, I_512, I_552, I_3864, oN_s, oN_n, bI_t, bI_f, Nat.add_zero, I_bt1, I_bt0, Nat.reduceLT, Nat.reduceLeDiff, Nat.reduceEqDiff, Nat.reduceAdd, Nat.reduceMul, Nat.reduceSub, tn_I, I_add, I_mul, I_div, vp_I, I_eq, I_le, I_lt, I_no, no_I, negI1, kd7, rf71, kdS, lnS, mm_sa, mm_fa, mm_ms, mm_mf, true_and, and_true, false_and, and_false, if_true, if_false, ite_true, ite_false, forall_eq, true_or, or_true, e6, I_sub, show 4 * a 6 - 4 ≤ m by omega]
    rw [e]
    exact h
  | succ j ih =>
    intro m hm hkm
    have e6 : dsh a k m 6 = a 6 := if_neg (by omega)
    have e : updN (dsh a k m) (488 + m) (dsh a k m (488 + m + 4)) = dsh a k (m + 1) := by
      funext i
      unfold dsh
      by_cases q : i = 488 + m
      · subst q; rw [updN_s, if_neg (by omega), if_pos (by omega)]
      · rw [updN_n q]
        by_cases q2 : 488 + 4 * k ≤ i ∧ i < 488 + m
        · rw [if_pos q2, if_pos (by omega)]
        · rw [if_neg q2, if_neg (by omega)]
    unfold T_X7_dropsWish_4
    simp (disch := first | exact lt4 (hb _) | exact hb _ | omega) only [I_0, I_1, I_2, I_3, I_4, I_5, I_6, I_7, I_8, I_9, I_10, I_11, I_12, I_20, I_22, I_27, I_31, I_32, I_38, I_42, I_48, I_54, I_55, I_56, I_57, I_60, I_66, I_72, I_78, I_80, I_97, I_98, I_99, I_100, I_108, I_109, I_116, I_120, I_438, I_488, I_512, I_552, I_3864, oN_s, oN_n, bI_t, bI_f, Nat.add_zero, I_bt1, I_bt0, Nat.reduceLT, Nat.reduceLeDiff, Nat.reduceEqDiff, Nat.reduceAdd, Nat.reduceMul, Nat.reduceSub, tn_I, I_add, I_mul, I_div, vp_I, I_eq, I_le, I_lt, I_no, no_I, negI1, kd7, rf71, kdS, lnS, mm_sa, mm_fa, mm_ms, mm_mf, true_and, and_true, false_and, and_false, if_true, if_false, ite_true, ite_false, forall_eq, true_or, or_true, e6, I_sub, show ¬ 4 * a 6 - 4 ≤ m by omega, show 488 + m + 4 < 552 by omega, show 488 + m < 552 by omega]
    rw [e]
    exact ih (m + 1) (by omega) (by omega)
theorem m_dropWish {Q : Mem → Prop} (hb : ∀ k, a k < 4096) (ha : a 6 ≤ 6) {k : Nat} (hk : k < a 6) (h : Q (mm M (drw a k) f)) : T_X7_dropsWish Q 1582 (I k) (mm M a f) := by
  have e : dsh a k (4 * k) = a := by
    funext j
    unfold dsh
    rw [if_neg (by omega)]
  have := m_drop_l hb ha hk h (4 * a 6 - 4 - 4 * k) (4 * k) (by omega) (Nat.le_refl _)
  rw [e] at this
  unfold T_X7_dropsWish
  simp (disch := first | exact lt4 (hb _) | exact hb _ | omega) only [I_0, I_1, I_2, I_3, I_4, I_5, I_6, I_7, I_8, I_9, I_10, I_11, I_12, I_20, I_22, I_27, I_31, I_32, I_38, I_42, I_48, I_54, I_55, I_56, I_57, I_60, I_66, I_72, I_78, I_80, I_97, I_98, I_99, I_100, I_108, I_109, I_116, I_120, I_438, I_488, I_512, I_552, I_3864, oN_s, oN_n, bI_t, bI_f, Nat.add_zero, I_bt1, I_bt0, Nat.reduceLT, Nat.reduceLeDiff, Nat.reduceEqDiff, Nat.reduceAdd, Nat.reduceMul, Nat.reduceSub, tn_I, I_add, I_mul, I_div, vp_I, I_eq, I_le, I_lt, I_no, no_I, negI1, kd7, rf71, kdS, lnS, mm_sa, mm_fa, mm_ms, mm_mf, true_and, and_true, false_and, and_false, if_true, if_false, ite_true, ite_false, forall_eq, true_or, or_true]
  exact ⟨_, this⟩
/-- the class drops a wish -/
theorem k_dropWish {Q : Mem → Prop} (hV : VA a) (hC : Cz a M) {k : Nat} (hk : k < a 6) (h : ∀ M', Cz (drw a k) M' → Ot M M' → Q M') : T_X4_removeRow Q 111 (I k) M := by
  have ha := hV.2.1.2.2.2.2.2.2.1
  have hT : TB 111 6 4 := SB_t7 (b := 1) (Or.inl rfl)
  obtain ⟨hS, hW⟩ := hC
  have hn : M.1 111 2 = I (a 6) := hS.2.2.2.2.2.2.2.1.1
  have hr : ∀ i, i < a 6 → ∀ c, c < 4 → M.1 (111 + 2 + i) c = I (a (488 + 4 * i + c)) := hS.2.2.2.2.2.2.2.1.2
  have hw : M.1 111 1 = I 4 := hW.2.2.2.2.2.1
  refine t_removeRow hT hw ha k hn hk (fun M1 hz h2 hA hB => h M1 ⟨?_, hW.tz (o := 110) hz (by omega)⟩ (hz.ot (by decide)))
  refine hS.up_w hV (fun i q1 q2 q3 => ?_) (fun j q1 q2 => ?_) ⟨?_, fun i hi c hc => ?_⟩
  · exact hz.2.2 i (by omega) (by omega)
  · exact drw_lo (by omega) (by omega) ha
  · rw [show drw a k 6 = a 6 - 1 from if_pos rfl]; exact h2
  · rw [show drw a k 6 = a 6 - 1 from if_pos rfl] at hi
    rw [show 1 + 112 + i = 111 + 2 + i by omega]
    unfold drw
    rw [if_neg (by omega)]
    by_cases z : k ≤ i
    · rw [if_pos (by omega), hB i c z (by omega) hc, hr (i + 1) (by omega) c hc, show 488 + 4 * (i + 1) + c = 488 + 4 * i + c + 4 by omega]
    · rw [if_neg (by omega), hA i c (by omega), hr i (by omega) c hc]
end Ws1

