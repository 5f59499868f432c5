/-! ===== LIFT, WISH ===== -/
section Ch7
variable {M M' M1 : Mem} {a a' : Nat → Nat} {f f' : Nat → Int32} {kp : Nat} {h : Nat → Nat → Nat} {o : Oth} {Q : Int32 → Mem → Prop} {X : String → Mem → Prop}
/-- a ban is lifted -/
def drb (a : Nat → Nat) (k j : Nat) : Nat := if j = 5 then a 5 - 1 else if 438 + 5 * k ≤ j ∧ j + 5 < 438 + 5 * a 5 then a (j + 5) else a j
def dshb (a : Nat → Nat) (k m j : Nat) : Nat := if 438 + 5 * k ≤ j ∧ j < 438 + m then a (j + 5) else a j
theorem drb_lo {k j : Nat} (h : j ≠ 5 ∧ ¬ (438 ≤ j ∧ j < 488)) (ha : a 5 ≤ 10) : drb a k j = a j := by
  unfold drb
  rw [if_neg h.1, if_neg (by omega)]
theorem drb_5 {k : Nat} : drb a k 5 = a 5 - 1 := if_pos rfl
theorem drb_row {k i : Nat} (ha : a 5 ≤ 10) (hi : i < a 5 - 1) : ∀ c, c < 5 → drb a k (438 + 5 * i + c) = if k ≤ i then a (438 + 5 * (i + 1) + c) else a (438 + 5 * i + c) := by
  intro c hc
  unfold drb
  rw [if_neg (by omega)]
  by_cases z : k ≤ i
  · rw [if_pos z, if_pos (by omega), show 438 + 5 * i + c + 5 = 438 + 5 * (i + 1) + c by omega]
  · rw [if_neg z, if_neg (by omega)]
theorem GS_drb (hG : GS a) {n : Nat} (hn : n < a 5) : GS (drb a n) := by
  have hGs := hG
  obtain ⟨⟨hb, h0, h1, h2, h3, h4, h5, h6⟩, hD, hst, hg⟩ := hG
  have hz := h0
  obtain ⟨z0, z1, z2, z3, z4, z5, z6, z7, z8, z9, z10, z11⟩ := hz
  have e : ∀ k, k ≠ 5 ∧ ¬ (438 ≤ k ∧ k < 488) → (drb a n) k = a k := fun j hj => drb_lo hj z5
  refine ⟨⟨fun j => by
    have q1 := hb j
    have q2 := hb (j + 5)
    unfold drb
    repeat' split
    all_goals omega, ?_, ?_, ?_, ?_, ?_, ?_, ?_⟩, ?_, ?_, ?_⟩
  · rw [e 0 (by omega), e 1 (by omega), e 2 (by omega), e 3 (by omega), e 4 (by omega), drb_5, e 6 (by omega), e 7 (by omega), e 8 (by omega), e 9 (by omega), e 10 (by omega), e 11 (by omega)]
    exact ⟨z0, z1, z2, z3, z4, by omega, z6, z7, z8, z9, z10, z11⟩
  · rw [e 1 (by omega)]
    intro j hj
    rw [e (12 + j) (by omega), e (22 + j) (by omega), e (32 + j) (by omega)]
    exact h1 j hj
  · rw [e 2 (by omega)]
    intro j hj
    rw [e _ (by omega)]
    exact h2 j hj
  · rw [e 3 (by omega)]
    intro j hj
    rw [e (54 + j) (by omega), e (60 + j) (by omega), e (66 + j) (by omega), e (72 + j) (by omega)]
    exact h3 j hj
  · rw [e 4 (by omega), e 1 (by omega), e 2 (by omega), e 3 (by omega)]
    intro j hj
    rw [e (78 + 6 * j) (by omega), e (78 + 6 * j + 1) (by omega), e (78 + 6 * j + 2) (by omega), e (78 + 6 * j + 3) (by omega), e (78 + 6 * j + 4) (by omega), e (78 + 6 * j + 5) (by omega)]
    exact h4 j hj
  · rw [drb_5, e 1 (by omega), e 2 (by omega)]
    intro j hj
    have q := drb_row (k := n) z5 hj
    have q0 := q 0 (by decide)
    rw [Nat.add_zero, Nat.add_zero] at q0
    rw [q0, q 1 (by decide), q 2 (by decide), q 3 (by decide), q 4 (by decide)]
    by_cases z : n ≤ j
    · rw [if_pos z, if_pos z, if_pos z, if_pos z, if_pos z]; exact h5 (j + 1) (by omega)
    · rw [if_neg z, if_neg z, if_neg z, if_neg z, if_neg z]; exact h5 j (by omega)
  · rw [e 6 (by omega), e 1 (by omega), e 2 (by omega)]
    intro j hj
    rw [e (488 + 4 * j) (by omega), e (488 + 4 * j + 1) (by omega), e (488 + 4 * j + 2) (by omega), e (488 + 4 * j + 3) (by omega)]
    exact h6 j hj
  · intro v w hv hw
    rw [e 4 (by omega)] at hv hw
    rw [e (78 + 6 * v) (by omega), e (78 + 6 * v + 2) (by omega), e (78 + 6 * v + 3) (by omega), e (78 + 6 * v + 4) (by omega), e (78 + 6 * v + 5) (by omega), e (78 + 6 * w) (by omega), e (78 + 6 * w + 2) (by omega), e (78 + 6 * w + 3) (by omega), e (78 + 6 * w + 4) (by omega), e (78 + 6 * w + 5) (by omega)]
    exact hD v w hv hw
  · intro v hv
    rw [e 4 (by omega)] at hv
    rw [e _ (by omega)]
    exact hst v hv
  · intro j hj hj2
    rw [e 1 (by omega)] at hj
    rw [e _ (by omega)]
    exact hg j hj hj2

theorem k_dropBan {Q : Mem → Prop} (hV : VA a) (hC : Cz a M) {k : Nat} (hk : k < a 5) (h : ∀ M', Cz (drb a k) M' → Ot M M' → Q M') : T_X4_removeRow Q 99 (I k) M := by
  have ha := hV.2.1.2.2.2.2.2.1
  have hT : TB 99 10 5 := SB_t6 (b := 1) (Or.inl rfl)
  obtain ⟨hS, hW⟩ := hC
  have hn : M.1 99 2 = I (a 5) := hS.2.2.2.2.2.2.1.1
  have hr : ∀ i, i < a 5 → ∀ c, c < 5 → M.1 (99 + 2 + i) c = I (a (438 + 5 * i + c)) := hS.2.2.2.2.2.2.1.2
  have hw : M.1 99 1 = I 5 := hW.2.2.2.2.1
  refine t_removeRow hT hw ha k hn hk (fun M1 hz h2 hA hB => h M1 ⟨?_, hW.tz (o := 98) hz (by omega)⟩ (hz.ot (by decide)))
  refine hS.up_b hV (fun i q1 q2 q3 => ?_) (fun j q1 q2 => ?_) ⟨?_, fun i hi c hc => ?_⟩
  · exact hz.2.2 i (by omega) (by omega)
  · exact drb_lo (by omega) ha
  · rw [drb_5]; exact h2
  · rw [drb_5] at hi
    rw [show 1 + 100 + i = 99 + 2 + i by omega, drb_row ha hi c hc]
    by_cases z : k ≤ i
    · rw [if_pos z, hB i c z (by omega) hc, hr (i + 1) (by omega) c hc]
    · rw [if_neg z, hA i c (by omega), hr i (by omega) c hc]
def lft2 (a : Nat → Nat) (k : Nat) : (Nat → Nat) × Nat := svs ((drb a k) 6) (drb a k) 0 0
def rc_lift (a : Nat → Nat) (p : Int32) : Nat × Int32 × (Nat → Nat) := if isN p (a 5) then (0, I (lft2 a p.toNatClampNeg).2, (lft2 a p.toNatClampNeg).1) else (1, I 0, a)
theorem R_lift (hG : GI a kp h o) (hR : RI a kp h o M) {p : Int32} (hq0 : (rc_lift a p).1 = 0 → ∀ M', RI (rc_lift a p).2.2 (pkn kp) (phh kp h a) o M' → FrR M M' → M'.1 1582 0 = I 0 → Q (rc_lift a p).2.1 M') (hq1 : (rc_lift a p).1 ≠ 0 → ∀ M', RI a kp h o M' → FrR M M' → M'.1 1582 0 = I (rc_lift a p).1 → Q (I 0) M') : T_X7_lift Q 1582 p M := by
  have hV := hG.1.1
  have hb := hV.1
  have h5 := hV.2.1.2.2.2.2.2.1
  unfold T_X7_lift
  refine R_begin hG hR (fun M1 hB hF => ?_)
  have ef : EF (updI (M.1 1582) 0 (I 0)) (M.1 1582) := EF.rfl.upd (by decide) (by decide) (by decide) (by decide)
  simp (disch := first | exact lt4 (hb _) | exact hb _ | omega) only [I_0, I_1, I_2, I_3, I_4, I_5, I_6, I_7, I_8, I_9, I_10, I_11, I_12, I_20, I_22, I_27, I_31, I_32, I_38, I_42, I_48, I_54, I_55, I_56, I_57, I_60, I_66, I_72, I_78, I_80, I_97, I_98, I_99, I_100, I_108, I_109, I_116, I_120, I_438, I_488, I_512, I_552, I_3864, oN_s, oN_n, bI_t, bI_f, Nat.add_zero, I_bt1, I_bt0, Nat.reduceLT, Nat.reduceLeDiff, Nat.reduceEqDiff, Nat.reduceAdd, Nat.reduceMul, Nat.reduceSub, tn_I, I_add, I_mul, I_div, vp_I, I_eq, I_le, I_lt, I_no, no_I, negI1, kd7, rf71, kdS, lnS, mm_sa, mm_fa, mm_ms, mm_mf, true_and, and_true, false_and, and_false, if_true, if_false, ite_true, ite_false, forall_eq, true_or, or_true, m_in, in_cnt (hb 5)]
  unfold rc_lift at hq0 hq1
  by_cases c1 : isN p (a 5)
  · rw [if_pos c1] at hq0 hq1 ⊢
    obtain ⟨k, hk, rfl⟩ := isN_el c1
    rw [tn_I (by omega)] at hq0 hq1
    simp (disch := first | exact lt4 (hb _) | exact hb _ | omega) only [I_0, I_1, I_2, I_3, I_4, I_5, I_6, I_7, I_8, I_9, I_10, I_11, I_12, I_20, I_22, I_27, I_31, I_32, I_38, I_42, I_48, I_54, I_55, I_56, I_57, I_60, I_66, I_72, I_78, I_80, I_97, I_98, I_99, I_100, I_108, I_109, I_116, I_120, I_438, I_488, I_512, I_552, I_3864, oN_s, oN_n, bI_t, bI_f, Nat.add_zero, I_bt1, I_bt0, Nat.reduceLT, Nat.reduceLeDiff, Nat.reduceEqDiff, Nat.reduceAdd, Nat.reduceMul, Nat.reduceSub, tn_I, I_add, I_mul, I_div, vp_I, I_eq, I_le, I_lt, I_no, no_I, negI1, kd7, rf71, kdS, lnS, mm_sa, mm_fa, mm_ms, mm_mf, true_and, and_true, false_and, and_false, if_true, if_false, ite_true, ite_false, forall_eq, true_or, or_true]
    have key : ∀ j m, m + j = 5 * a 5 - 5 → 5 * k ≤ m → T_X7_lift_35 Q (j + 1) 1582 (I m) (mm M1 (dshb a k m) (updI (M.1 1582) 0 (I 0))) := by
      intro j
      induction j with
      | zero =>
        intro m hm hkm
        have e5 : dshb a k m 5 = a 5 := if_neg (by omega)
        have e : updN (dshb a k m) 5 (a 5 - 1) = drb a k := by
          funext j
          unfold drb dshb
          by_cases q : j = 5
          · subst q; rw [updN_s, if_pos rfl]
          · rw [updN_n q, if_neg q]
            by_cases q2 : 438 + 5 * k ≤ j ∧ j < 438 + m
            · rw [if_pos q2, if_pos (by omega)]
            · rw [if_neg q2, if_neg (by omega)]
        unfold T_X7_lift_35
        simp (disch := first | exact lt4 (hb _) | exact hb _ | omega) only [I_0, I_1, I_2, I_3, I_4, I_5, I_6, I_7, I_8, I_9, I_10, I_11, I_12, I_20, I_22, I_27, I_31, I_32, I_38, I_42, I_48, I_54, I_55, I_56, I_57, I_60, I_66, I_72, I_78, I_80, I_97, I_98, I_99, I_100, I_108, I_109, I_116, I_120, I_438, I_488, I_512, I_552, I_3864, oN_s, oN_n, bI_t, bI_f, Nat.add_zero, I_bt1, I_bt0, Nat.reduceLT, Nat.reduceLeDiff, Nat.reduceEqDiff, Nat.reduceAdd, Nat.reduceMul, Nat.reduceSub, tn_I, I_add, I_mul, I_div, vp_I, I_eq, I_le, I_lt, I_no, no_I, negI1, kd7, rf71, kdS, lnS, mm_sa, mm_fa, mm_ms, mm_mf, true_and, and_true, false_and, and_false, if_true, if_false, ite_true, ite_false, forall_eq, true_or, or_true, e5, I_sub, show 5 * a 5 - 5 ≤ m by omega]
        rw [e]
        refine m_grants (GS_drb hG.1 hk) (fun f2 q1 q2 => ?_)
        try (simp (disch := first | exact lt4 (hb _) | exact hb _ | omega) only [I_0, I_1, I_2, I_3, I_4, I_5, I_6, I_7, I_8, I_9, I_10, I_11, I_12, I_20, I_22, I_27, I_31, I_32, I_38, I_42, I_48, I_54, I_55, I_56, I_57, I_60, I_66, I_72, I_78, I_80, I_97, I_98, I_99, I_100, I_108, I_109, I_116, I_120, I_438, I_488, I_512, I_552, I_3864, oN_s, oN_n, bI_t, bI_f, Nat.add_zero, I_bt1, I_bt0, Nat.reduceLT, Nat.reduceLeDiff, Nat.reduceEqDiff, Nat.reduceAdd, Nat.reduceMul, Nat.reduceSub, tn_I, I_add, I_mul, I_div, vp_I, I_eq, I_le, I_lt, I_no, no_I, negI1, kd7, rf71, kdS, lnS, mm_sa, mm_fa, mm_ms, mm_mf, true_and, and_true, false_and, and_false, if_true, if_false, ite_true, ite_false, forall_eq, true_or, or_true])
        exact R_keep (a' := (lft2 a k).1) hR hB hF (ef.trans (EF.of q1)) (fun M' r1 r2 r3 r4 => hq0 rfl M' r1 r2 ((r4 0 (by decide)).trans ((q1 0 (by decide) (by decide) (by decide)).trans updI_s)))
      | succ j ih =>
        intro m hm hkm
        have e5 : dshb a k m 5 = a 5 := if_neg (by omega)
        have e : updN (dshb a k m) (438 + m) (dshb a k m (438 + m + 5)) = dshb a k (m + 1) := by
          funext i
          unfold dshb
          by_cases q : i = 438 + m
          · subst q; rw [updN_s, if_neg (by omega), if_pos (by omega)]
          · rw [updN_n q]
            by_cases q2 : 438 + 5 * k ≤ i ∧ i < 438 + m
            · rw [if_pos q2, if_pos (by omega)]
            · rw [if_neg q2, if_neg (by omega)]
        unfold T_X7_lift_35
        simp (disch := first | exact lt4 (hb _) | exact hb _ | omega) only [I_0, I_1, I_2, I_3, I_4, I_5, I_6, I_7, I_8, I_9, I_10, I_11, I_12, I_20, I_22, I_27, I_31, I_32, I_38, I_42, I_48, I_54, I_55, I_56, I_57, I_60, I_66, I_72, I_78, I_80, I_97, I_98, I_99, I_100, I_108, I_109, I_116, I_120, I_438, I_488, I_512, I_552, I_3864, oN_s, oN_n, bI_t, bI_f, Nat.add_zero, I_bt1, I_bt0, Nat.reduceLT, Nat.reduceLeDiff, Nat.reduceEqDiff, Nat.reduceAdd, Nat.reduceMul, Nat.reduceSub, tn_I, I_add, I_mul, I_div, vp_I, I_eq, I_le, I_lt, I_no, no_I, negI1, kd7, rf71, kdS, lnS, mm_sa, mm_fa, mm_ms, mm_mf, true_and, and_true, false_and, and_false, if_true, if_false, ite_true, ite_false, forall_eq, true_or, or_true, e5, I_sub, show ¬ 5 * a 5 - 5 ≤ m by omega, show 438 + m + 5 < 552 by omega, show 438 + m < 552 by omega]
        rw [e]
        exact ih (m + 1) (by omega) (by omega)
    have e : dshb a k (5 * k) = a := by
      funext j
      unfold dshb
      rw [if_neg (by omega)]
    have := key (5 * a 5 - 5 - 5 * k) (5 * k) (by omega) (Nat.le_refl _)
    rw [e] at this
    exact ⟨_, this⟩
  · rw [if_neg c1] at hq0 hq1 ⊢
    simp (disch := first | exact lt4 (hb _) | exact hb _ | omega) only [I_0, I_1, I_2, I_3, I_4, I_5, I_6, I_7, I_8, I_9, I_10, I_11, I_12, I_20, I_22, I_27, I_31, I_32, I_38, I_42, I_48, I_54, I_55, I_56, I_57, I_60, I_66, I_72, I_78, I_80, I_97, I_98, I_99, I_100, I_108, I_109, I_116, I_120, I_438, I_488, I_512, I_552, I_3864, oN_s, oN_n, bI_t, bI_f, Nat.add_zero, I_bt1, I_bt0, Nat.reduceLT, Nat.reduceLeDiff, Nat.reduceEqDiff, Nat.reduceAdd, Nat.reduceMul, Nat.reduceSub, tn_I, I_add, I_mul, I_div, vp_I, I_eq, I_le, I_lt, I_no, no_I, negI1, kd7, rf71, kdS, lnS, mm_sa, mm_fa, mm_ms, mm_mf, true_and, and_true, false_and, and_false, if_true, if_false, ite_true, ite_false, forall_eq, true_or, or_true, m_fails]
    exact hq1 (show 1 ≠ 0 by decide) _ (R_fail hR hB (ef.upd (by decide) (by decide) (by decide) (by decide))) (R_fr hB) mmf0
theorem K_lift (hG : GI a kp h o) (hC : CI a kp h o M) {p : Int32} (hh : OUTC Q X EI EI EI a kp h o M (rc_lift a p)) : T_X6_lift Q X 0 p M := by
  have hV := hG.1.1
  have hb := hV.1
  have hS := hC.1.1
  have h5 := hV.2.1.2.2.2.2.2.1
  unfold T_X6_lift
  unfold rc_lift at hh
  simp (disch := first | exact lt4 (hb _) | exact hb _ | omega) only [I_0, I_1, I_2, I_3, I_4, I_5, I_6, I_7, I_8, I_9, I_10, I_11, I_12, I_20, I_22, I_27, I_31, I_32, I_38, I_42, I_48, I_54, I_55, I_56, I_57, I_60, I_66, I_72, I_78, I_80, I_97, I_98, I_99, I_100, I_108, I_109, I_116, I_120, I_438, I_488, I_512, I_552, I_3864, oN_s, oN_n, bI_t, bI_f, Nat.add_zero, I_bt1, I_bt0, Nat.reduceLT, Nat.reduceLeDiff, Nat.reduceEqDiff, Nat.reduceAdd, Nat.reduceMul, Nat.reduceSub, tn_I, I_add, I_mul, I_div, vp_I, I_eq, I_le, I_lt, I_no, no_I, negI1, true_and, and_true, false_and, and_false, if_true, if_false, ite_true, ite_false, forall_eq, true_or, or_true, kn_0, kn_1, kn_2, kn_3, kn_4, kn_15, kn_16, kn_29, kn_30, kn_37, kn_38, kn_99, kn_100, kn_111, kn_112, kn_119, kn_120, kn_281, kn_282, kn_1543, kn_1544, kn_1545, kn_1546, kn_1547, kn_1551, kn_1552, kn_1553, kn_1554, lnn_2, lnn_4, lnn_16, lnn_30, lnn_38, lnn_100, lnn_112, lnn_120, lnn_282, lnn_1544, lnn_1547, lnn_1552, lnn_1554, rn_1_1, rn_1_2, rn_1_3, rn_1_4, rn_1_5, rn_1_6, rn_1_7, rn_1_8, rn_3_0, rn_15_0, rn_29_0, rn_37_0, rn_99_0, rn_111_0, rn_119_0, rn_1543_0, rn_1543_1, rn_1545_0, rn_1545_1, rn_0_0, rn_0_1, rn_0_3, rn_0_4, rn_0_5, rn_0_6, rn_0_7, rn_1546_0, rn_1551_0, rn_1551_3, rn_1553_0, rn_281_0, rr_4, rr_16, rr_30, rr_38, rr_100, rr_112, rr_120, rr_1547, rr_1554, kr_4, kr_16, kr_30, kr_38, kr_100, kr_112, kr_120, kr_1547, kr_1554, lr_4, lr_16, lr_30, lr_38, lr_100, lr_112, lr_120, lr_1547, lr_1554, s_d hS, s_q hS, s_ni hS, s_nk hS, s_nr hS, s_nv hS, s_nb hS, s_nw hS, s_nn hS, s_i0 hS, s_i1 hS, s_i2 hS, s_k hS, s_r0 hS, s_r1 hS, s_r2 hS, s_r3 hS, s_v0 hS, s_v1 hS, s_v2 hS, s_v3 hS, s_v4 hS, s_v5 hS, s_b0 hS, s_b1 hS, s_b2 hS, s_b3 hS, s_b4 hS, s_w0 hS, s_w1 hS, s_w2 hS, s_w3 hS, s_n0 hS, s_n1 hS]
  rw [k_below (by omega)]
  by_cases c1 : isN p (a 5)
  · rw [if_pos c1] at hh ⊢
    obtain ⟨k, hk, rfl⟩ := isN_el c1
    rw [tn_I (by omega)] at hh
    simp (disch := first | exact lt4 (hb _) | exact hb _ | omega) only [I_0, I_1, I_2, I_3, I_4, I_5, I_6, I_7, I_8, I_9, I_10, I_11, I_12, I_20, I_22, I_27, I_31, I_32, I_38, I_42, I_48, I_54, I_55, I_56, I_57, I_60, I_66, I_72, I_78, I_80, I_97, I_98, I_99, I_100, I_108, I_109, I_116, I_120, I_438, I_488, I_512, I_552, I_3864, oN_s, oN_n, bI_t, bI_f, Nat.add_zero, I_bt1, I_bt0, Nat.reduceLT, Nat.reduceLeDiff, Nat.reduceEqDiff, Nat.reduceAdd, Nat.reduceMul, Nat.reduceSub, tn_I, I_add, I_mul, I_div, vp_I, I_eq, I_le, I_lt, I_no, no_I, negI1, true_and, and_true, false_and, and_false, if_true, if_false, ite_true, ite_false, forall_eq, true_or, or_true, kn_0, kn_1, kn_2, kn_3, kn_4, kn_15, kn_16, kn_29, kn_30, kn_37, kn_38, kn_99, kn_100, kn_111, kn_112, kn_119, kn_120, kn_281, kn_282, kn_1543, kn_1544, kn_1545, kn_1546, kn_1547, kn_1551, kn_1552, kn_1553, kn_1554, lnn_2, lnn_4, lnn_16, lnn_30, lnn_38, lnn_100, lnn_112, lnn_120, lnn_282, lnn_1544, lnn_1547, lnn_1552, lnn_1554, rn_1_1, rn_1_2, rn_1_3, rn_1_4, rn_1_5, rn_1_6, rn_1_7, rn_1_8, rn_3_0, rn_15_0, rn_29_0, rn_37_0, rn_99_0, rn_111_0, rn_119_0, rn_1543_0, rn_1543_1, rn_1545_0, rn_1545_1, rn_0_0, rn_0_1, rn_0_3, rn_0_4, rn_0_5, rn_0_6, rn_0_7, rn_1546_0, rn_1551_0, rn_1551_3, rn_1553_0, rn_281_0, rr_4, rr_16, rr_30, rr_38, rr_100, rr_112, rr_120, rr_1547, rr_1554, kr_4, kr_16, kr_30, kr_38, kr_100, kr_112, kr_120, kr_1547, kr_1554, lr_4, lr_16, lr_30, lr_38, lr_100, lr_112, lr_120, lr_1547, lr_1554]
    refine K_keep hG hC (fun M2 hC2 hF2 hG2 _ => ?_)
    refine k_dropBan hV hC2.1 hk (fun M3 hC3 hO3 => ?_)
    exact k_serve (GS_drb hG.1 hk) hC3 (fun M' z1 z2 => hh M' (hC2.ot hG2 z1 (hO3.trans z2)) (hF2.trans (hO3.trans z2).frc))
  · rw [if_neg c1] at hh ⊢
    simp (disch := first | exact lt4 (hb _) | exact hb _ | omega) only [I_0, I_1, I_2, I_3, I_4, I_5, I_6, I_7, I_8, I_9, I_10, I_11, I_12, I_20, I_22, I_27, I_31, I_32, I_38, I_42, I_48, I_54, I_55, I_56, I_57, I_60, I_66, I_72, I_78, I_80, I_97, I_98, I_99, I_100, I_108, I_109, I_116, I_120, I_438, I_488, I_512, I_552, I_3864, oN_s, oN_n, bI_t, bI_f, Nat.add_zero, I_bt1, I_bt0, Nat.reduceLT, Nat.reduceLeDiff, Nat.reduceEqDiff, Nat.reduceAdd, Nat.reduceMul, Nat.reduceSub, tn_I, I_add, I_mul, I_div, vp_I, I_eq, I_le, I_lt, I_no, no_I, negI1, true_and, and_true, false_and, and_false, if_true, if_false, ite_true, ite_false, forall_eq, true_or, or_true, kn_0, kn_1, kn_2, kn_3, kn_4, kn_15, kn_16, kn_29, kn_30, kn_37, kn_38, kn_99, kn_100, kn_111, kn_112, kn_119, kn_120, kn_281, kn_282, kn_1543, kn_1544, kn_1545, kn_1546, kn_1547, kn_1551, kn_1552, kn_1553, kn_1554, lnn_2, lnn_4, lnn_16, lnn_30, lnn_38, lnn_100, lnn_112, lnn_120, lnn_282, lnn_1544, lnn_1547, lnn_1552, lnn_1554, rn_1_1, rn_1_2, rn_1_3, rn_1_4, rn_1_5, rn_1_6, rn_1_7, rn_1_8, rn_3_0, rn_15_0, rn_29_0, rn_37_0, rn_99_0, rn_111_0, rn_119_0, rn_1543_0, rn_1543_1, rn_1545_0, rn_1545_1, rn_0_0, rn_0_1, rn_0_3, rn_0_4, rn_0_5, rn_0_6, rn_0_7, rn_1546_0, rn_1551_0, rn_1551_3, rn_1553_0, rn_281_0, rr_4, rr_16, rr_30, rr_38, rr_100, rr_112, rr_120, rr_1547, rr_1554, kr_4, kr_16, kr_30, kr_38, kr_100, kr_112, kr_120, kr_1547, kr_1554, lr_4, lr_16, lr_30, lr_38, lr_100, lr_112, lr_120, lr_1547, lr_1554]
    exact hh
abbrev dOK (x y : Int32) : Prop := 0 ≤ x.toInt ∧ x.toInt ≤ y.toInt ∧ y.toInt ≤ 55
theorem dOK_el {x y : Int32} (h : dOK x y) : ∃ c d, x = I c ∧ y = I d ∧ c ≤ d ∧ d ≤ 55 := by
  obtain ⟨c, hc, rfl⟩ := isN_el (p := x) (n := 56) ⟨h.1, by have := h.2; omega⟩
  obtain ⟨d, hd, rfl⟩ := isN_el (p := y) (n := 56) ⟨by have := h.1; have := h.2.1; omega, by have := h.2.2; omega⟩
  have := h.2.1
  rw [ti_I (by omega), ti_I (by omega)] at this
  exact ⟨c, d, rfl, rfl, by omega, by omega⟩
theorem dOK_I {c d : Nat} (h1 : c ≤ d) (h2 : d ≤ 55) : dOK (I c) (I d) := by
  refine ⟨?_, ?_, ?_⟩
  · rw [ti_I (by omega)]; omega
  · rw [ti_I (by omega), ti_I (by omega)]; omega
  · rw [ti_I (by omega)]; omega
theorem k_days {x y : Int32} : T_X6_areDays Q x y M = (if dOK x y then Q (I 1) M else Q (I 0) M) := by
  have e0 : (0 : Int32).toInt = 0 := by decide
  have e56 : (56 : Int32).toInt = 56 := by decide
  unfold T_X6_areDays T_X6_areDays_19 T_X6_areDays_20
  by_cases h1 : x < 0
  · rw [if_pos h1, if_neg (fun z => by rw [lt_ti] at h1; have := z.1; omega)]
    exact propext ⟨fun q => q.2, fun q => ⟨Or.inl rfl, q⟩⟩
  · rw [if_neg h1]
    by_cases h2 : y < x
    · rw [if_pos h2, if_neg (fun z => by rw [lt_ti] at h2; have := z.2.1; omega)]
      exact propext ⟨fun q => q.2, fun q => ⟨Or.inl rfl, q⟩⟩
    · rw [if_neg h2]
      by_cases h3 : 56 ≤ y
      · rw [if_pos h3, if_neg (fun z => by rw [le_ti] at h3; have := z.2.2; omega)]
        exact propext ⟨fun q => q.2, fun q => ⟨Or.inl rfl, q⟩⟩
      · rw [if_neg h3, if_pos (by rw [lt_ti] at h1 h2; rw [le_ti] at h3; exact ⟨by omega, by omega, by omega⟩)]
        exact propext ⟨fun q => q.2, fun q => ⟨Or.inr rfl, q⟩⟩
def rc_wish (a : Nat → Nat) (p s x y : Int32) : Nat × Int32 × (Nat → Nat) := if isN p (a 1) then (if isQ a s ∧ dOK x y ∧ (a 0 : Int) ≤ y.toInt then (if a 6 = 6 then (3, I 0, a) else (0, I (a 6 + 1), ad_wis a p.toNatClampNeg s.toNatClampNeg x.toNatClampNeg y.toNatClampNeg)) else (2, I 0, a)) else (1, I 0, a)
theorem R_wish (hG : GI a kp h o) (hR : RI a kp h o M) {p s x y : Int32} (hq0 : (rc_wish a p s x y).1 = 0 → ∀ M', RI (rc_wish a p s x y).2.2 (pkn kp) (phh kp h a) o M' → FrR M M' → M'.1 1582 0 = I 0 → Q (rc_wish a p s x y).2.1 M') (hq1 : (rc_wish a p s x y).1 ≠ 0 → ∀ M', RI a kp h o M' → FrR M M' → M'.1 1582 0 = I (rc_wish a p s x y).1 → Q (I 0) M') : T_X7_wish Q 1582 p s x y M := by
  have hV := hG.1.1
  have hb := hV.1
  have h1 := hV.2.1.2.1
  have h0 := hV.2.1.1
  have h6 := hV.2.1.2.2.2.2.2.2.1
  have h2p := two_le hV.2.1.2.2.1
  have hn : ∀ (x : Nat → Nat) (k v : Nat), k ≠ 6 → updN x k v 6 = x 6 := fun x k v hk => updN_n (fun q => hk q.symm)
  unfold T_X7_wish T_X7_wish_59
  refine R_begin hG hR (fun M1 hB hF => ?_)
  have ef : EF (updI (M.1 1582) 0 (I 0)) (M.1 1582) := EF.rfl.upd (by decide) (by decide) (by decide) (by decide)
  rw [m_isInmate hb]
  unfold rc_wish at hq0 hq1
  by_cases c1 : isN p (a 1)
  · rw [if_pos c1] at hq0 hq1 ⊢
    have bad : ¬ (isQ a s ∧ dOK x y ∧ (a 0 : Int) ≤ y.toInt) → T_X7_fails (fun y3 M2 => Q y3 M2) 1582 (I 2) (mm M1 a (updI (M.1 1582) 0 (I 0))) := fun c => by
      rw [if_neg c] at hq1
      rw [m_fails]
      exact hq1 (show 2 ≠ 0 by decide) _ (R_fail hR hB (ef.upd (by decide) (by decide) (by decide) (by decide))) (R_fr hB) mmf0
    simp (disch := first | exact lt4 (hb _) | exact hb _ | omega) only [I_0, I_1, I_2, I_3, I_4, I_5, I_6, I_7, I_8, I_9, I_10, I_11, I_12, I_20, I_22, I_27, I_31, I_32, I_38, I_42, I_48, I_54, I_55, I_56, I_57, I_60, I_66, I_72, I_78, I_80, I_97, I_98, I_99, I_100, I_108, I_109, I_116, I_120, I_438, I_488, I_512, I_552, I_3864, oN_s, oN_n, bI_t, bI_f, Nat.add_zero, I_bt1, I_bt0, Nat.reduceLT, Nat.reduceLeDiff, Nat.reduceEqDiff, Nat.reduceAdd, Nat.reduceMul, Nat.reduceSub, tn_I, I_add, I_mul, I_div, vp_I, I_eq, I_le, I_lt, I_no, no_I, negI1, kd7, rf71, kdS, lnS, mm_sa, mm_fa, mm_ms, mm_mf, true_and, and_true, false_and, and_false, if_true, if_false, ite_true, ite_false, forall_eq, true_or, or_true]
    refine m_avis hV (fun c2 => ?_) (fun c2 => ?_)
    · have c2' := (isP_Q hV).mp c2
      simp (disch := first | exact lt4 (hb _) | exact hb _ | omega) only [I_0, I_1, I_2, I_3, I_4, I_5, I_6, I_7, I_8, I_9, I_10, I_11, I_12, I_20, I_22, I_27, I_31, I_32, I_38, I_42, I_48, I_54, I_55, I_56, I_57, I_60, I_66, I_72, I_78, I_80, I_97, I_98, I_99, I_100, I_108, I_109, I_116, I_120, I_438, I_488, I_512, I_552, I_3864, oN_s, oN_n, bI_t, bI_f, Nat.add_zero, I_bt1, I_bt0, Nat.reduceLT, Nat.reduceLeDiff, Nat.reduceEqDiff, Nat.reduceAdd, Nat.reduceMul, Nat.reduceSub, tn_I, I_add, I_mul, I_div, vp_I, I_eq, I_le, I_lt, I_no, no_I, negI1, kd7, rf71, kdS, lnS, mm_sa, mm_fa, mm_ms, mm_mf, true_and, and_true, false_and, and_false, if_true, if_false, ite_true, ite_false, forall_eq, true_or, or_true, m_in]
      by_cases c3 : I 0 ≤ x ∧ x ≤ y
      · rw [if_pos c3]
        have c3' := c3
        rw [le_ti, le_ti, ti_I (by decide)] at c3'
        by_cases c4 : I 55 < y
        · rw [if_pos c4]
          exact bad (fun z => by rw [lt_ti, ti_I (by decide)] at c4; have := z.2.1.2.2; omega)
        · rw [if_neg c4]
          have c4' := c4
          rw [lt_ti, ti_I (by decide)] at c4'
          have hd : dOK x y := ⟨by have := c3'.1; omega, c3'.2, by omega⟩
          obtain ⟨i, hi, rfl⟩ := isN_el c1
          obtain ⟨z, rfl, hz, ez⟩ := isQ_el hV c2'
          obtain ⟨c, d, rfl, rfl, hcd, hd55⟩ := dOK_el hd
          by_cases c5 : a 0 ≤ d
          · rw [if_pos ⟨c2', hd, by rw [ti_I (by omega)]; omega⟩, tn_I (by omega), ez, tn_I (by omega), tn_I (by omega)] at hq0 hq1
            by_cases c6 : a 6 = 6
            · rw [if_pos c6] at hq0 hq1
              simp (disch := first | exact lt4 (hb _) | exact hb _ | omega) only [I_0, I_1, I_2, I_3, I_4, I_5, I_6, I_7, I_8, I_9, I_10, I_11, I_12, I_20, I_22, I_27, I_31, I_32, I_38, I_42, I_48, I_54, I_55, I_56, I_57, I_60, I_66, I_72, I_78, I_80, I_97, I_98, I_99, I_100, I_108, I_109, I_116, I_120, I_438, I_488, I_512, I_552, I_3864, oN_s, oN_n, bI_t, bI_f, Nat.add_zero, I_bt1, I_bt0, Nat.reduceLT, Nat.reduceLeDiff, Nat.reduceEqDiff, Nat.reduceAdd, Nat.reduceMul, Nat.reduceSub, tn_I, I_add, I_mul, I_div, vp_I, I_eq, I_le, I_lt, I_no, no_I, negI1, kd7, rf71, kdS, lnS, mm_sa, mm_fa, mm_ms, mm_mf, true_and, and_true, false_and, and_false, if_true, if_false, ite_true, ite_false, forall_eq, true_or, or_true, c5, c6, m_fails]
              exact hq1 (show 3 ≠ 0 by decide) _ (R_fail hR hB (ef.upd (by decide) (by decide) (by decide) (by decide))) (R_fr hB) mmf0
            · rw [if_neg c6] at hq0 hq1
              simp (disch := first | exact lt4 (hb _) | exact hb _ | omega) only [I_0, I_1, I_2, I_3, I_4, I_5, I_6, I_7, I_8, I_9, I_10, I_11, I_12, I_20, I_22, I_27, I_31, I_32, I_38, I_42, I_48, I_54, I_55, I_56, I_57, I_60, I_66, I_72, I_78, I_80, I_97, I_98, I_99, I_100, I_108, I_109, I_116, I_120, I_438, I_488, I_512, I_552, I_3864, oN_s, oN_n, bI_t, bI_f, Nat.add_zero, I_bt1, I_bt0, Nat.reduceLT, Nat.reduceLeDiff, Nat.reduceEqDiff, Nat.reduceAdd, Nat.reduceMul, Nat.reduceSub, tn_I, I_add, I_mul, I_div, vp_I, I_eq, I_le, I_lt, I_no, no_I, negI1, kd7, rf71, kdS, lnS, mm_sa, mm_fa, mm_ms, mm_mf, true_and, and_true, false_and, and_false, if_true, if_false, ite_true, ite_false, forall_eq, true_or, or_true, c5, c6, hn, show 488 + 4 * a 6 < 552 by omega, show 488 + 4 * a 6 + 1 < 552 by omega, show 488 + 4 * a 6 + 2 < 552 by omega, show 488 + 4 * a 6 + 3 < 552 by omega]
              refine R_keep (a' := ad_wis a i z c d) hR hB hF ef (fun M' r1 r2 r3 r4 => ?_)
              rw [r3]
              show Q (I (ad_wis a i z c d 6)) M'
              rw [ad_wis_c]
              exact hq0 rfl M' r1 r2 ((r4 0 (by decide)).trans updI_s)
          · simp (disch := first | exact lt4 (hb _) | exact hb _ | omega) only [I_0, I_1, I_2, I_3, I_4, I_5, I_6, I_7, I_8, I_9, I_10, I_11, I_12, I_20, I_22, I_27, I_31, I_32, I_38, I_42, I_48, I_54, I_55, I_56, I_57, I_60, I_66, I_72, I_78, I_80, I_97, I_98, I_99, I_100, I_108, I_109, I_116, I_120, I_438, I_488, I_512, I_552, I_3864, oN_s, oN_n, bI_t, bI_f, Nat.add_zero, I_bt1, I_bt0, Nat.reduceLT, Nat.reduceLeDiff, Nat.reduceEqDiff, Nat.reduceAdd, Nat.reduceMul, Nat.reduceSub, tn_I, I_add, I_mul, I_div, vp_I, I_eq, I_le, I_lt, I_no, no_I, negI1, kd7, rf71, kdS, lnS, mm_sa, mm_fa, mm_ms, mm_mf, true_and, and_true, false_and, and_false, if_true, if_false, ite_true, ite_false, forall_eq, true_or, or_true, c5]
            exact bad (fun w => by have := w.2.2; rw [ti_I (by omega)] at this; omega)
      · rw [if_neg c3]
        exact bad (fun z => c3 (by rw [le_ti, le_ti, ti_I (by decide)]; exact ⟨z.2.1.1, z.2.1.2.1⟩))
    · simp (disch := first | exact lt4 (hb _) | exact hb _ | omega) only [I_0, I_1, I_2, I_3, I_4, I_5, I_6, I_7, I_8, I_9, I_10, I_11, I_12, I_20, I_22, I_27, I_31, I_32, I_38, I_42, I_48, I_54, I_55, I_56, I_57, I_60, I_66, I_72, I_78, I_80, I_97, I_98, I_99, I_100, I_108, I_109, I_116, I_120, I_438, I_488, I_512, I_552, I_3864, oN_s, oN_n, bI_t, bI_f, Nat.add_zero, I_bt1, I_bt0, Nat.reduceLT, Nat.reduceLeDiff, Nat.reduceEqDiff, Nat.reduceAdd, Nat.reduceMul, Nat.reduceSub, tn_I, I_add, I_mul, I_div, vp_I, I_eq, I_le, I_lt, I_no, no_I, negI1, kd7, rf71, kdS, lnS, mm_sa, mm_fa, mm_ms, mm_mf, true_and, and_true, false_and, and_false, if_true, if_false, ite_true, ite_false, forall_eq, true_or, or_true]
      exact bad (fun z => c2 ((isP_Q hV).mpr z.1))
  · rw [if_neg c1] at hq0 hq1 ⊢
    simp (disch := first | exact lt4 (hb _) | exact hb _ | omega) only [I_0, I_1, I_2, I_3, I_4, I_5, I_6, I_7, I_8, I_9, I_10, I_11, I_12, I_20, I_22, I_27, I_31, I_32, I_38, I_42, I_48, I_54, I_55, I_56, I_57, I_60, I_66, I_72, I_78, I_80, I_97, I_98, I_99, I_100, I_108, I_109, I_116, I_120, I_438, I_488, I_512, I_552, I_3864, oN_s, oN_n, bI_t, bI_f, Nat.add_zero, I_bt1, I_bt0, Nat.reduceLT, Nat.reduceLeDiff, Nat.reduceEqDiff, Nat.reduceAdd, Nat.reduceMul, Nat.reduceSub, tn_I, I_add, I_mul, I_div, vp_I, I_eq, I_le, I_lt, I_no, no_I, negI1, kd7, rf71, kdS, lnS, mm_sa, mm_fa, mm_ms, mm_mf, true_and, and_true, false_and, and_false, if_true, if_false, ite_true, ite_false, forall_eq, true_or, or_true, m_fails]
    exact hq1 (show 1 ≠ 0 by decide) _ (R_fail hR hB (ef.upd (by decide) (by decide) (by decide) (by decide))) (R_fr hB) mmf0
theorem K_wish (hG : GI a kp h o) (hC : CI a kp h o M) {p s x y : Int32} (hh : OUTC Q X EI EA ES a kp h o M (rc_wish a p s x y)) : T_X6_wish Q X 0 p s x y M := by
  have hV := hG.1.1
  have hb := hV.1
  have hS := hC.1.1
  have h1 := hV.2.1.2.1
  have h0 := hV.2.1.1
  have h6 := hV.2.1.2.2.2.2.2.2.1
  have h2p := two_le hV.2.1.2.2.1
  have hT : TB 111 6 4 := SB_t7 (b := 1) (Or.inl rfl)
  unfold T_X6_wish T_X6_wish_59
  unfold rc_wish at hh
  simp (disch := first | exact lt4 (hb _) | exact hb _ | omega) only [I_0, I_1, I_2, I_3, I_4, I_5, I_6, I_7, I_8, I_9, I_10, I_11, I_12, I_20, I_22, I_27, I_31, I_32, I_38, I_42, I_48, I_54, I_55, I_56, I_57, I_60, I_66, I_72, I_78, I_80, I_97, I_98, I_99, I_100, I_108, I_109, I_116, I_120, I_438, I_488, I_512, I_552, I_3864, oN_s, oN_n, bI_t, bI_f, Nat.add_zero, I_bt1, I_bt0, Nat.reduceLT, Nat.reduceLeDiff, Nat.reduceEqDiff, Nat.reduceAdd, Nat.reduceMul, Nat.reduceSub, tn_I, I_add, I_mul, I_div, vp_I, I_eq, I_le, I_lt, I_no, no_I, negI1, true_and, and_true, false_and, and_false, if_true, if_false, ite_true, ite_false, forall_eq, true_or, or_true, kn_0, kn_1, kn_2, kn_3, kn_4, kn_15, kn_16, kn_29, kn_30, kn_37, kn_38, kn_99, kn_100, kn_111, kn_112, kn_119, kn_120, kn_281, kn_282, kn_1543, kn_1544, kn_1545, kn_1546, kn_1547, kn_1551, kn_1552, kn_1553, kn_1554, lnn_2, lnn_4, lnn_16, lnn_30, lnn_38, lnn_100, lnn_112, lnn_120, lnn_282, lnn_1544, lnn_1547, lnn_1552, lnn_1554, rn_1_1, rn_1_2, rn_1_3, rn_1_4, rn_1_5, rn_1_6, rn_1_7, rn_1_8, rn_3_0, rn_15_0, rn_29_0, rn_37_0, rn_99_0, rn_111_0, rn_119_0, rn_1543_0, rn_1543_1, rn_1545_0, rn_1545_1, rn_0_0, rn_0_1, rn_0_3, rn_0_4, rn_0_5, rn_0_6, rn_0_7, rn_1546_0, rn_1551_0, rn_1551_3, rn_1553_0, rn_281_0, rr_4, rr_16, rr_30, rr_38, rr_100, rr_112, rr_120, rr_1547, rr_1554, kr_4, kr_16, kr_30, kr_38, kr_100, kr_112, kr_120, kr_1547, kr_1554, lr_4, lr_16, lr_30, lr_38, lr_100, lr_112, lr_120, lr_1547, lr_1554, s_d hS, s_q hS, s_ni hS, s_nk hS, s_nr hS, s_nv hS, s_nb hS, s_nw hS, s_nn hS, s_i0 hS, s_i1 hS, s_i2 hS, s_k hS, s_r0 hS, s_r1 hS, s_r2 hS, s_r3 hS, s_v0 hS, s_v1 hS, s_v2 hS, s_v3 hS, s_v4 hS, s_v5 hS, s_b0 hS, s_b1 hS, s_b2 hS, s_b3 hS, s_b4 hS, s_w0 hS, s_w1 hS, s_w2 hS, s_w3 hS, s_n0 hS, s_n1 hS]
  rw [k_below (by omega)]
  by_cases c1 : isN p (a 1)
  · rw [if_pos c1] at hh ⊢
    simp (disch := first | exact lt4 (hb _) | exact hb _ | omega) only [I_0, I_1, I_2, I_3, I_4, I_5, I_6, I_7, I_8, I_9, I_10, I_11, I_12, I_20, I_22, I_27, I_31, I_32, I_38, I_42, I_48, I_54, I_55, I_56, I_57, I_60, I_66, I_72, I_78, I_80, I_97, I_98, I_99, I_100, I_108, I_109, I_116, I_120, I_438, I_488, I_512, I_552, I_3864, oN_s, oN_n, bI_t, bI_f, Nat.add_zero, I_bt1, I_bt0, Nat.reduceLT, Nat.reduceLeDiff, Nat.reduceEqDiff, Nat.reduceAdd, Nat.reduceMul, Nat.reduceSub, tn_I, I_add, I_mul, I_div, vp_I, I_eq, I_le, I_lt, I_no, no_I, negI1, true_and, and_true, false_and, and_false, if_true, if_false, ite_true, ite_false, forall_eq, true_or, or_true, kn_0, kn_1, kn_2, kn_3, kn_4, kn_15, kn_16, kn_29, kn_30, kn_37, kn_38, kn_99, kn_100, kn_111, kn_112, kn_119, kn_120, kn_281, kn_282, kn_1543, kn_1544, kn_1545, kn_1546, kn_1547, kn_1551, kn_1552, kn_1553, kn_1554, lnn_2, lnn_4, lnn_16, lnn_30, lnn_38, lnn_100, lnn_112, lnn_120, lnn_282, lnn_1544, lnn_1547, lnn_1552, lnn_1554, rn_1_1, rn_1_2, rn_1_3, rn_1_4, rn_1_5, rn_1_6, rn_1_7, rn_1_8, rn_3_0, rn_15_0, rn_29_0, rn_37_0, rn_99_0, rn_111_0, rn_119_0, rn_1543_0, rn_1543_1, rn_1545_0, rn_1545_1, rn_0_0, rn_0_1, rn_0_3, rn_0_4, rn_0_5, rn_0_6, rn_0_7, rn_1546_0, rn_1551_0, rn_1551_3, rn_1553_0, rn_281_0, rr_4, rr_16, rr_30, rr_38, rr_100, rr_112, rr_120, rr_1547, rr_1554, kr_4, kr_16, kr_30, kr_38, kr_100, kr_112, kr_120, kr_1547, kr_1554, lr_4, lr_16, lr_30, lr_38, lr_100, lr_112, lr_120, lr_1547, lr_1554]
    refine k_party hV hS (fun c2 => ?_) (fun c2 => ?_)
    · have c2' := (isP_Q hV).mp c2
      simp (disch := first | exact lt4 (hb _) | exact hb _ | omega) only [I_0, I_1, I_2, I_3, I_4, I_5, I_6, I_7, I_8, I_9, I_10, I_11, I_12, I_20, I_22, I_27, I_31, I_32, I_38, I_42, I_48, I_54, I_55, I_56, I_57, I_60, I_66, I_72, I_78, I_80, I_97, I_98, I_99, I_100, I_108, I_109, I_116, I_120, I_438, I_488, I_512, I_552, I_3864, oN_s, oN_n, bI_t, bI_f, Nat.add_zero, I_bt1, I_bt0, Nat.reduceLT, Nat.reduceLeDiff, Nat.reduceEqDiff, Nat.reduceAdd, Nat.reduceMul, Nat.reduceSub, tn_I, I_add, I_mul, I_div, vp_I, I_eq, I_le, I_lt, I_no, no_I, negI1, true_and, and_true, false_and, and_false, if_true, if_false, ite_true, ite_false, forall_eq, true_or, or_true, kn_0, kn_1, kn_2, kn_3, kn_4, kn_15, kn_16, kn_29, kn_30, kn_37, kn_38, kn_99, kn_100, kn_111, kn_112, kn_119, kn_120, kn_281, kn_282, kn_1543, kn_1544, kn_1545, kn_1546, kn_1547, kn_1551, kn_1552, kn_1553, kn_1554, lnn_2, lnn_4, lnn_16, lnn_30, lnn_38, lnn_100, lnn_112, lnn_120, lnn_282, lnn_1544, lnn_1547, lnn_1552, lnn_1554, rn_1_1, rn_1_2, rn_1_3, rn_1_4, rn_1_5, rn_1_6, rn_1_7, rn_1_8, rn_3_0, rn_15_0, rn_29_0, rn_37_0, rn_99_0, rn_111_0, rn_119_0, rn_1543_0, rn_1543_1, rn_1545_0, rn_1545_1, rn_0_0, rn_0_1, rn_0_3, rn_0_4, rn_0_5, rn_0_6, rn_0_7, rn_1546_0, rn_1551_0, rn_1551_3, rn_1553_0, rn_281_0, rr_4, rr_16, rr_30, rr_38, rr_100, rr_112, rr_120, rr_1547, rr_1554, kr_4, kr_16, kr_30, kr_38, kr_100, kr_112, kr_120, kr_1547, kr_1554, lr_4, lr_16, lr_30, lr_38, lr_100, lr_112, lr_120, lr_1547, lr_1554]
      rw [k_days]
      by_cases hd : dOK x y
      · rw [if_pos hd]
        obtain ⟨i, hi, rfl⟩ := isN_el c1
        obtain ⟨z, rfl, hz, ez⟩ := isQ_el hV c2'
        obtain ⟨c, d, rfl, rfl, hcd, hd55⟩ := dOK_el hd
        by_cases c5 : a 0 ≤ d
        · rw [if_pos ⟨c2', hd, by rw [ti_I (by omega)]; omega⟩, tn_I (by omega), ez, tn_I (by omega), tn_I (by omega)] at hh
          simp (disch := first | exact lt4 (hb _) | exact hb _ | omega) only [I_0, I_1, I_2, I_3, I_4, I_5, I_6, I_7, I_8, I_9, I_10, I_11, I_12, I_20, I_22, I_27, I_31, I_32, I_38, I_42, I_48, I_54, I_55, I_56, I_57, I_60, I_66, I_72, I_78, I_80, I_97, I_98, I_99, I_100, I_108, I_109, I_116, I_120, I_438, I_488, I_512, I_552, I_3864, oN_s, oN_n, bI_t, bI_f, Nat.add_zero, I_bt1, I_bt0, Nat.reduceLT, Nat.reduceLeDiff, Nat.reduceEqDiff, Nat.reduceAdd, Nat.reduceMul, Nat.reduceSub, tn_I, I_add, I_mul, I_div, vp_I, I_eq, I_le, I_lt, I_no, no_I, negI1, true_and, and_true, false_and, and_false, if_true, if_false, ite_true, ite_false, forall_eq, true_or, or_true, kn_0, kn_1, kn_2, kn_3, kn_4, kn_15, kn_16, kn_29, kn_30, kn_37, kn_38, kn_99, kn_100, kn_111, kn_112, kn_119, kn_120, kn_281, kn_282, kn_1543, kn_1544, kn_1545, kn_1546, kn_1547, kn_1551, kn_1552, kn_1553, kn_1554, lnn_2, lnn_4, lnn_16, lnn_30, lnn_38, lnn_100, lnn_112, lnn_120, lnn_282, lnn_1544, lnn_1547, lnn_1552, lnn_1554, rn_1_1, rn_1_2, rn_1_3, rn_1_4, rn_1_5, rn_1_6, rn_1_7, rn_1_8, rn_3_0, rn_15_0, rn_29_0, rn_37_0, rn_99_0, rn_111_0, rn_119_0, rn_1543_0, rn_1543_1, rn_1545_0, rn_1545_1, rn_0_0, rn_0_1, rn_0_3, rn_0_4, rn_0_5, rn_0_6, rn_0_7, rn_1546_0, rn_1551_0, rn_1551_3, rn_1553_0, rn_281_0, rr_4, rr_16, rr_30, rr_38, rr_100, rr_112, rr_120, rr_1547, rr_1554, kr_4, kr_16, kr_30, kr_38, kr_100, kr_112, kr_120, kr_1547, kr_1554, lr_4, lr_16, lr_30, lr_38, lr_100, lr_112, lr_120, lr_1547, lr_1554, s_d hS, s_q hS, s_ni hS, s_nk hS, s_nr hS, s_nv hS, s_nb hS, s_nw hS, s_nn hS, s_i0 hS, s_i1 hS, s_i2 hS, s_k hS, s_r0 hS, s_r1 hS, s_r2 hS, s_r3 hS, s_v0 hS, s_v1 hS, s_v2 hS, s_v3 hS, s_v4 hS, s_v5 hS, s_b0 hS, s_b1 hS, s_b2 hS, s_b3 hS, s_b4 hS, s_w0 hS, s_w1 hS, s_w2 hS, s_w3 hS, s_n0 hS, s_n1 hS, c5]
          refine t_isFull hT (s_nw hS) (by omega) ?_
          by_cases c6 : a 6 = 6
          · rw [if_pos c6] at hh
            rw [if_neg (show ¬ a 6 < 6 by omega)]
            simp (disch := first | exact lt4 (hb _) | exact hb _ | omega) only [I_0, I_1, I_2, I_3, I_4, I_5, I_6, I_7, I_8, I_9, I_10, I_11, I_12, I_20, I_22, I_27, I_31, I_32, I_38, I_42, I_48, I_54, I_55, I_56, I_57, I_60, I_66, I_72, I_78, I_80, I_97, I_98, I_99, I_100, I_108, I_109, I_116, I_120, I_438, I_488, I_512, I_552, I_3864, oN_s, oN_n, bI_t, bI_f, Nat.add_zero, I_bt1, I_bt0, Nat.reduceLT, Nat.reduceLeDiff, Nat.reduceEqDiff, Nat.reduceAdd, Nat.reduceMul, Nat.reduceSub, tn_I, I_add, I_mul, I_div, vp_I, I_eq, I_le, I_lt, I_no, no_I, negI1, true_and, and_true, false_and, and_false, if_true, if_false, ite_true, ite_false, forall_eq, true_or, or_true, kn_0, kn_1, kn_2, kn_3, kn_4, kn_15, kn_16, kn_29, kn_30, kn_37, kn_38, kn_99, kn_100, kn_111, kn_112, kn_119, kn_120, kn_281, kn_282, kn_1543, kn_1544, kn_1545, kn_1546, kn_1547, kn_1551, kn_1552, kn_1553, kn_1554, lnn_2, lnn_4, lnn_16, lnn_30, lnn_38, lnn_100, lnn_112, lnn_120, lnn_282, lnn_1544, lnn_1547, lnn_1552, lnn_1554, rn_1_1, rn_1_2, rn_1_3, rn_1_4, rn_1_5, rn_1_6, rn_1_7, rn_1_8, rn_3_0, rn_15_0, rn_29_0, rn_37_0, rn_99_0, rn_111_0, rn_119_0, rn_1543_0, rn_1543_1, rn_1545_0, rn_1545_1, rn_0_0, rn_0_1, rn_0_3, rn_0_4, rn_0_5, rn_0_6, rn_0_7, rn_1546_0, rn_1551_0, rn_1551_3, rn_1553_0, rn_281_0, rr_4, rr_16, rr_30, rr_38, rr_100, rr_112, rr_120, rr_1547, rr_1554, kr_4, kr_16, kr_30, kr_38, kr_100, kr_112, kr_120, kr_1547, kr_1554, lr_4, lr_16, lr_30, lr_38, lr_100, lr_112, lr_120, lr_1547, lr_1554]
            exact hh
          · rw [if_neg c6] at hh
            rw [if_pos (show a 6 < 6 by omega)]
            simp (disch := first | exact lt4 (hb _) | exact hb _ | omega) only [I_0, I_1, I_2, I_3, I_4, I_5, I_6, I_7, I_8, I_9, I_10, I_11, I_12, I_20, I_22, I_27, I_31, I_32, I_38, I_42, I_48, I_54, I_55, I_56, I_57, I_60, I_66, I_72, I_78, I_80, I_97, I_98, I_99, I_100, I_108, I_109, I_116, I_120, I_438, I_488, I_512, I_552, I_3864, oN_s, oN_n, bI_t, bI_f, Nat.add_zero, I_bt1, I_bt0, Nat.reduceLT, Nat.reduceLeDiff, Nat.reduceEqDiff, Nat.reduceAdd, Nat.reduceMul, Nat.reduceSub, tn_I, I_add, I_mul, I_div, vp_I, I_eq, I_le, I_lt, I_no, no_I, negI1, true_and, and_true, false_and, and_false, if_true, if_false, ite_true, ite_false, forall_eq, true_or, or_true, kn_0, kn_1, kn_2, kn_3, kn_4, kn_15, kn_16, kn_29, kn_30, kn_37, kn_38, kn_99, kn_100, kn_111, kn_112, kn_119, kn_120, kn_281, kn_282, kn_1543, kn_1544, kn_1545, kn_1546, kn_1547, kn_1551, kn_1552, kn_1553, kn_1554, lnn_2, lnn_4, lnn_16, lnn_30, lnn_38, lnn_100, lnn_112, lnn_120, lnn_282, lnn_1544, lnn_1547, lnn_1552, lnn_1554, rn_1_1, rn_1_2, rn_1_3, rn_1_4, rn_1_5, rn_1_6, rn_1_7, rn_1_8, rn_3_0, rn_15_0, rn_29_0, rn_37_0, rn_99_0, rn_111_0, rn_119_0, rn_1543_0, rn_1543_1, rn_1545_0, rn_1545_1, rn_0_0, rn_0_1, rn_0_3, rn_0_4, rn_0_5, rn_0_6, rn_0_7, rn_1546_0, rn_1551_0, rn_1551_3, rn_1553_0, rn_281_0, rr_4, rr_16, rr_30, rr_38, rr_100, rr_112, rr_120, rr_1547, rr_1554, kr_4, kr_16, kr_30, kr_38, kr_100, kr_112, kr_120, kr_1547, kr_1554, lr_4, lr_16, lr_30, lr_38, lr_100, lr_112, lr_120, lr_1547, lr_1554]
            refine K_keep hG hC (fun M2 hC2 hF2 hG2 _ => ?_)
            refine t_addRow hT (s_nw hC2.1.1) (by omega) ?_
            have t7 := hT.2.2.2.2.2.2 (a 6) (by omega)
            have kk := kad_wis hV hC2.1 (by omega) (x0 := i) (x1 := z) (x2 := c) (x3 := d)
            rw [t7.2.1, t7.2.2]
            refine ⟨rfl, by decide, by decide, by decide, by decide, ?_⟩
            rw [s_nw kk.1.1, ad_wis_c]
            exact hh _ (hC2.ot hG2 kk.1 kk.2) (hF2.trans kk.2.frc)
        · rw [if_neg (fun w => by have := w.2.2; rw [ti_I (by omega)] at this; omega)] at hh
          simp (disch := first | exact lt4 (hb _) | exact hb _ | omega) only [I_0, I_1, I_2, I_3, I_4, I_5, I_6, I_7, I_8, I_9, I_10, I_11, I_12, I_20, I_22, I_27, I_31, I_32, I_38, I_42, I_48, I_54, I_55, I_56, I_57, I_60, I_66, I_72, I_78, I_80, I_97, I_98, I_99, I_100, I_108, I_109, I_116, I_120, I_438, I_488, I_512, I_552, I_3864, oN_s, oN_n, bI_t, bI_f, Nat.add_zero, I_bt1, I_bt0, Nat.reduceLT, Nat.reduceLeDiff, Nat.reduceEqDiff, Nat.reduceAdd, Nat.reduceMul, Nat.reduceSub, tn_I, I_add, I_mul, I_div, vp_I, I_eq, I_le, I_lt, I_no, no_I, negI1, true_and, and_true, false_and, and_false, if_true, if_false, ite_true, ite_false, forall_eq, true_or, or_true, kn_0, kn_1, kn_2, kn_3, kn_4, kn_15, kn_16, kn_29, kn_30, kn_37, kn_38, kn_99, kn_100, kn_111, kn_112, kn_119, kn_120, kn_281, kn_282, kn_1543, kn_1544, kn_1545, kn_1546, kn_1547, kn_1551, kn_1552, kn_1553, kn_1554, lnn_2, lnn_4, lnn_16, lnn_30, lnn_38, lnn_100, lnn_112, lnn_120, lnn_282, lnn_1544, lnn_1547, lnn_1552, lnn_1554, rn_1_1, rn_1_2, rn_1_3, rn_1_4, rn_1_5, rn_1_6, rn_1_7, rn_1_8, rn_3_0, rn_15_0, rn_29_0, rn_37_0, rn_99_0, rn_111_0, rn_119_0, rn_1543_0, rn_1543_1, rn_1545_0, rn_1545_1, rn_0_0, rn_0_1, rn_0_3, rn_0_4, rn_0_5, rn_0_6, rn_0_7, rn_1546_0, rn_1551_0, rn_1551_3, rn_1553_0, rn_281_0, rr_4, rr_16, rr_30, rr_38, rr_100, rr_112, rr_120, rr_1547, rr_1554, kr_4, kr_16, kr_30, kr_38, kr_100, kr_112, kr_120, kr_1547, kr_1554, lr_4, lr_16, lr_30, lr_38, lr_100, lr_112, lr_120, lr_1547, lr_1554, s_d hS, s_q hS, s_ni hS, s_nk hS, s_nr hS, s_nv hS, s_nb hS, s_nw hS, s_nn hS, s_i0 hS, s_i1 hS, s_i2 hS, s_k hS, s_r0 hS, s_r1 hS, s_r2 hS, s_r3 hS, s_v0 hS, s_v1 hS, s_v2 hS, s_v3 hS, s_v4 hS, s_v5 hS, s_b0 hS, s_b1 hS, s_b2 hS, s_b3 hS, s_b4 hS, s_w0 hS, s_w1 hS, s_w2 hS, s_w3 hS, s_n0 hS, s_n1 hS, c5]
          exact hh
      · rw [if_neg hd]
        rw [if_neg (fun z => hd z.2.1)] at hh
        simp (disch := first | exact lt4 (hb _) | exact hb _ | omega) only [I_0, I_1, I_2, I_3, I_4, I_5, I_6, I_7, I_8, I_9, I_10, I_11, I_12, I_20, I_22, I_27, I_31, I_32, I_38, I_42, I_48, I_54, I_55, I_56, I_57, I_60, I_66, I_72, I_78, I_80, I_97, I_98, I_99, I_100, I_108, I_109, I_116, I_120, I_438, I_488, I_512, I_552, I_3864, oN_s, oN_n, bI_t, bI_f, Nat.add_zero, I_bt1, I_bt0, Nat.reduceLT, Nat.reduceLeDiff, Nat.reduceEqDiff, Nat.reduceAdd, Nat.reduceMul, Nat.reduceSub, tn_I, I_add, I_mul, I_div, vp_I, I_eq, I_le, I_lt, I_no, no_I, negI1, true_and, and_true, false_and, and_false, if_true, if_false, ite_true, ite_false, forall_eq, true_or, or_true, kn_0, kn_1, kn_2, kn_3, kn_4, kn_15, kn_16, kn_29, kn_30, kn_37, kn_38, kn_99, kn_100, kn_111, kn_112, kn_119, kn_120, kn_281, kn_282, kn_1543, kn_1544, kn_1545, kn_1546, kn_1547, kn_1551, kn_1552, kn_1553, kn_1554, lnn_2, lnn_4, lnn_16, lnn_30, lnn_38, lnn_100, lnn_112, lnn_120, lnn_282, lnn_1544, lnn_1547, lnn_1552, lnn_1554, rn_1_1, rn_1_2, rn_1_3, rn_1_4, rn_1_5, rn_1_6, rn_1_7, rn_1_8, rn_3_0, rn_15_0, rn_29_0, rn_37_0, rn_99_0, rn_111_0, rn_119_0, rn_1543_0, rn_1543_1, rn_1545_0, rn_1545_1, rn_0_0, rn_0_1, rn_0_3, rn_0_4, rn_0_5, rn_0_6, rn_0_7, rn_1546_0, rn_1551_0, rn_1551_3, rn_1553_0, rn_281_0, rr_4, rr_16, rr_30, rr_38, rr_100, rr_112, rr_120, rr_1547, rr_1554, kr_4, kr_16, kr_30, kr_38, kr_100, kr_112, kr_120, kr_1547, kr_1554, lr_4, lr_16, lr_30, lr_38, lr_100, lr_112, lr_120, lr_1547, lr_1554]
        exact hh
    · rw [if_neg (fun z => c2 ((isP_Q hV).mpr z.1))] at hh
      simp (disch := first | exact lt4 (hb _) | exact hb _ | omega) only [I_0, I_1, I_2, I_3, I_4, I_5, I_6, I_7, I_8, I_9, I_10, I_11, I_12, I_20, I_22, I_27, I_31, I_32, I_38, I_42, I_48, I_54, I_55, I_56, I_57, I_60, I_66, I_72, I_78, I_80, I_97, I_98, I_99, I_100, I_108, I_109, I_116, I_120, I_438, I_488, I_512, I_552, I_3864, oN_s, oN_n, bI_t, bI_f, Nat.add_zero, I_bt1, I_bt0, Nat.reduceLT, Nat.reduceLeDiff, Nat.reduceEqDiff, Nat.reduceAdd, Nat.reduceMul, Nat.reduceSub, tn_I, I_add, I_mul, I_div, vp_I, I_eq, I_le, I_lt, I_no, no_I, negI1, true_and, and_true, false_and, and_false, if_true, if_false, ite_true, ite_false, forall_eq, true_or, or_true, kn_0, kn_1, kn_2, kn_3, kn_4, kn_15, kn_16, kn_29, kn_30, kn_37, kn_38, kn_99, kn_100, kn_111, kn_112, kn_119, kn_120, kn_281, kn_282, kn_1543, kn_1544, kn_1545, kn_1546, kn_1547, kn_1551, kn_1552, kn_1553, kn_1554, lnn_2, lnn_4, lnn_16, lnn_30, lnn_38, lnn_100, lnn_112, lnn_120, lnn_282, lnn_1544, lnn_1547, lnn_1552, lnn_1554, rn_1_1, rn_1_2, rn_1_3, rn_1_4, rn_1_5, rn_1_6, rn_1_7, rn_1_8, rn_3_0, rn_15_0, rn_29_0, rn_37_0, rn_99_0, rn_111_0, rn_119_0, rn_1543_0, rn_1543_1, rn_1545_0, rn_1545_1, rn_0_0, rn_0_1, rn_0_3, rn_0_4, rn_0_5, rn_0_6, rn_0_7, rn_1546_0, rn_1551_0, rn_1551_3, rn_1553_0, rn_281_0, rr_4, rr_16, rr_30, rr_38, rr_100, rr_112, rr_120, rr_1547, rr_1554, kr_4, kr_16, kr_30, kr_38, kr_100, kr_112, kr_120, kr_1547, kr_1554, lr_4, lr_16, lr_30, lr_38, lr_100, lr_112, lr_120, lr_1547, lr_1554]
      exact hh
  · rw [if_neg c1] at hh ⊢
    simp (disch := first | exact lt4 (hb _) | exact hb _ | omega) only [I_0, I_1, I_2, I_3, I_4, I_5, I_6, I_7, I_8, I_9, I_10, I_11, I_12, I_20, I_22, I_27, I_31, I_32, I_38, I_42, I_48, I_54, I_55, I_56, I_57, I_60, I_66, I_72, I_78, I_80, I_97, I_98, I_99, I_100, I_108, I_109, I_116, I_120, I_438, I_488, I_512, I_552, I_3864, oN_s, oN_n, bI_t, bI_f, Nat.add_zero, I_bt1, I_bt0, Nat.reduceLT, Nat.reduceLeDiff, Nat.reduceEqDiff, Nat.reduceAdd, Nat.reduceMul, Nat.reduceSub, tn_I, I_add, I_mul, I_div, vp_I, I_eq, I_le, I_lt, I_no, no_I, negI1, true_and, and_true, false_and, and_false, if_true, if_false, ite_true, ite_false, forall_eq, true_or, or_true, kn_0, kn_1, kn_2, kn_3, kn_4, kn_15, kn_16, kn_29, kn_30, kn_37, kn_38, kn_99, kn_100, kn_111, kn_112, kn_119, kn_120, kn_281, kn_282, kn_1543, kn_1544, kn_1545, kn_1546, kn_1547, kn_1551, kn_1552, kn_1553, kn_1554, lnn_2, lnn_4, lnn_16, lnn_30, lnn_38, lnn_100, lnn_112, lnn_120, lnn_282, lnn_1544, lnn_1547, lnn_1552, lnn_1554, rn_1_1, rn_1_2, rn_1_3, rn_1_4, rn_1_5, rn_1_6, rn_1_7, rn_1_8, rn_3_0, rn_15_0, rn_29_0, rn_37_0, rn_99_0, rn_111_0, rn_119_0, rn_1543_0, rn_1543_1, rn_1545_0, rn_1545_1, rn_0_0, rn_0_1, rn_0_3, rn_0_4, rn_0_5, rn_0_6, rn_0_7, rn_1546_0, rn_1551_0, rn_1551_3, rn_1553_0, rn_281_0, rr_4, rr_16, rr_30, rr_38, rr_100, rr_112, rr_120, rr_1547, rr_1554, kr_4, kr_16, kr_30, kr_38, kr_100, kr_112, kr_120, kr_1547, kr_1554, lr_4, lr_16, lr_30, lr_38, lr_100, lr_112, lr_120, lr_1547, lr_1554]
    exact hh
end Ch7

