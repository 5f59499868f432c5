/-! ===== REPORT, MEANS, SHARES over what holds between calls ===== -/
section Rs1
variable {M M' : Mem} {a a' : Nat → Nat} {f : Nat → Int32} {kp : Nat} {h : Nat → Nat → Nat} {o : Oth} {Q : Int32 → Mem → Prop} {X : String → Mem → Prop}
def rs_report (o : Oth) (p : Int32) (b : Nat) : Nat × Int32 := if isN p o.2.2.1 then (0, if b = 0 then o.2.2.2.1 p.toNatClampNeg else o.2.2.2.2 p.toNatClampNeg) else (1, I 0)
theorem rs_report_lt {p : Int32} {b : Nat} : (rs_report o p b).1 < 2 := by
  unfold rs_report
  repeat' split
  all_goals first | decide | omega
theorem k_report (hX : CX o M) (hl : o.2.2.1 ≤ 3) {p : Int32} {b : Nat} (hb2 : b < 2) (h : OUT Q X EN EN EN (rs_report o p b) M) : T_X6_report Q X 0 p (I b) M := by
  have x3 := hX.2.2
  have e2 := x3.1
  have hl2 : o.2.2.1 < 2147483648 := by omega
  unfold T_X6_report T_X6_report_43
  simp (disch := first | exact lt4 (hb _) | exact hb _ | omega) only [I_0, I_1, I_2, I_3, I_4, I_5, I_6, I_7, I_8, I_9, I_10, I_11, I_12, I_20, I_22, I_27, I_31, I_32, I_38, I_42, I_48, I_54, I_55, I_56, I_57, I_60, I_66, I_72, I_78, I_80, I_97, I_98, I_99, I_100, I_108, I_109, I_116, I_120, I_438, I_488, I_512, I_552, I_3864, oN_s, oN_n, bI_t, bI_f, Nat.add_zero, I_bt1, I_bt0, Nat.reduceLT, Nat.reduceLeDiff, Nat.reduceEqDiff, Nat.reduceAdd, Nat.reduceMul, Nat.reduceSub, tn_I, I_add, I_mul, I_div, vp_I, I_eq, I_le, I_lt, I_no, no_I, negI1, true_and, and_true, false_and, and_false, if_true, if_false, ite_true, ite_false, forall_eq, true_or, or_true, kn_0, kn_1, kn_2, kn_3, kn_4, kn_15, kn_16, kn_29, kn_30, kn_37, kn_38, kn_99, kn_100, kn_111, kn_112, kn_119, kn_120, kn_281, kn_282, kn_1543, kn_1544, kn_1545, kn_1546, kn_1547, kn_1551, kn_1552, kn_1553, kn_1554, lnn_2, lnn_4, lnn_16, lnn_30, lnn_38, lnn_100, lnn_112, lnn_120, lnn_282, lnn_1544, lnn_1547, lnn_1552, lnn_1554, rn_1_1, rn_1_2, rn_1_3, rn_1_4, rn_1_5, rn_1_6, rn_1_7, rn_1_8, rn_3_0, rn_15_0, rn_29_0, rn_37_0, rn_99_0, rn_111_0, rn_119_0, rn_1543_0, rn_1543_1, rn_1545_0, rn_1545_1, rn_0_0, rn_0_1, rn_0_3, rn_0_4, rn_0_5, rn_0_6, rn_0_7, rn_1546_0, rn_1551_0, rn_1551_3, rn_1553_0, rn_281_0, rr_4, rr_16, rr_30, rr_38, rr_100, rr_112, rr_120, rr_1547, rr_1554, kr_4, kr_16, kr_30, kr_38, kr_100, kr_112, kr_120, kr_1547, kr_1554, lr_4, lr_16, lr_30, lr_38, lr_100, lr_112, lr_120, lr_1547, lr_1554, e2]
  rw [k_below hl2]
  unfold rs_report at h
  by_cases c1 : isN p o.2.2.1
  · rw [if_pos c1] at h ⊢
    obtain ⟨k, hk, rfl⟩ := isN_el c1
    have hk3 : k < 3 := by omega
    rw [tn_I (by omega)] at h
    have r1 := (x3.2 k hk).1
    have r2 := (x3.2 k hk).2
    have hb3 : b = 0 ∨ b = 1 := by omega
    rcases hb3 with rfl | rfl
    · simp (disch := first | exact lt4 (hb _) | exact hb _ | omega) only [I_0, I_1, I_2, I_3, I_4, I_5, I_6, I_7, I_8, I_9, I_10, I_11, I_12, I_20, I_22, I_27, I_31, I_32, I_38, I_42, I_48, I_54, I_55, I_56, I_57, I_60, I_66, I_72, I_78, I_80, I_97, I_98, I_99, I_100, I_108, I_109, I_116, I_120, I_438, I_488, I_512, I_552, I_3864, oN_s, oN_n, bI_t, bI_f, Nat.add_zero, I_bt1, I_bt0, Nat.reduceLT, Nat.reduceLeDiff, Nat.reduceEqDiff, Nat.reduceAdd, Nat.reduceMul, Nat.reduceSub, tn_I, I_add, I_mul, I_div, vp_I, I_eq, I_le, I_lt, I_no, no_I, negI1, true_and, and_true, false_and, and_false, if_true, if_false, ite_true, ite_false, forall_eq, true_or, or_true, kn_0, kn_1, kn_2, kn_3, kn_4, kn_15, kn_16, kn_29, kn_30, kn_37, kn_38, kn_99, kn_100, kn_111, kn_112, kn_119, kn_120, kn_281, kn_282, kn_1543, kn_1544, kn_1545, kn_1546, kn_1547, kn_1551, kn_1552, kn_1553, kn_1554, lnn_2, lnn_4, lnn_16, lnn_30, lnn_38, lnn_100, lnn_112, lnn_120, lnn_282, lnn_1544, lnn_1547, lnn_1552, lnn_1554, rn_1_1, rn_1_2, rn_1_3, rn_1_4, rn_1_5, rn_1_6, rn_1_7, rn_1_8, rn_3_0, rn_15_0, rn_29_0, rn_37_0, rn_99_0, rn_111_0, rn_119_0, rn_1543_0, rn_1543_1, rn_1545_0, rn_1545_1, rn_0_0, rn_0_1, rn_0_3, rn_0_4, rn_0_5, rn_0_6, rn_0_7, rn_1546_0, rn_1551_0, rn_1551_3, rn_1553_0, rn_281_0, rr_4, rr_16, rr_30, rr_38, rr_100, rr_112, rr_120, rr_1547, rr_1554, kr_4, kr_16, kr_30, kr_38, kr_100, kr_112, kr_120, kr_1547, kr_1554, lr_4, lr_16, lr_30, lr_38, lr_100, lr_112, lr_120, lr_1547, lr_1554, hk3, r1]
      exact h
    · simp (disch := first | exact lt4 (hb _) | exact hb _ | omega) only [I_0, I_1, I_2, I_3, I_4, I_5, I_6, I_7, I_8, I_9, I_10, I_11, I_12, I_20, I_22, I_27, I_31, I_32, I_38, I_42, I_48, I_54, I_55, I_56, I_57, I_60, I_66, I_72, I_78, I_80, I_97, I_98, I_99, I_100, I_108, I_109, I_116, I_120, I_438, I_488, I_512, I_552, I_3864, oN_s, oN_n, bI_t, bI_f, Nat.add_zero, I_bt1, I_bt0, Nat.reduceLT, Nat.reduceLeDiff, Nat.reduceEqDiff, Nat.reduceAdd, Nat.reduceMul, Nat.reduceSub, tn_I, I_add, I_mul, I_div, vp_I, I_eq, I_le, I_lt, I_no, no_I, negI1, true_and, and_true, false_and, and_false, if_true, if_false, ite_true, ite_false, forall_eq, true_or, or_true, kn_0, kn_1, kn_2, kn_3, kn_4, kn_15, kn_16, kn_29, kn_30, kn_37, kn_38, kn_99, kn_100, kn_111, kn_112, kn_119, kn_120, kn_281, kn_282, kn_1543, kn_1544, kn_1545, kn_1546, kn_1547, kn_1551, kn_1552, kn_1553, kn_1554, lnn_2, lnn_4, lnn_16, lnn_30, lnn_38, lnn_100, lnn_112, lnn_120, lnn_282, lnn_1544, lnn_1547, lnn_1552, lnn_1554, rn_1_1, rn_1_2, rn_1_3, rn_1_4, rn_1_5, rn_1_6, rn_1_7, rn_1_8, rn_3_0, rn_15_0, rn_29_0, rn_37_0, rn_99_0, rn_111_0, rn_119_0, rn_1543_0, rn_1543_1, rn_1545_0, rn_1545_1, rn_0_0, rn_0_1, rn_0_3, rn_0_4, rn_0_5, rn_0_6, rn_0_7, rn_1546_0, rn_1551_0, rn_1551_3, rn_1553_0, rn_281_0, rr_4, rr_16, rr_30, rr_38, rr_100, rr_112, rr_120, rr_1547, rr_1554, kr_4, kr_16, kr_30, kr_38, kr_100, kr_112, kr_120, kr_1547, kr_1554, lr_4, lr_16, lr_30, lr_38, lr_100, lr_112, lr_120, lr_1547, lr_1554, hk3, r2]
      exact h
  · rw [if_neg c1] at h ⊢
    simp (disch := first | exact lt4 (hb _) | exact hb _ | omega) only [I_0, I_1, I_2, I_3, I_4, I_5, I_6, I_7, I_8, I_9, I_10, I_11, I_12, I_20, I_22, I_27, I_31, I_32, I_38, I_42, I_48, I_54, I_55, I_56, I_57, I_60, I_66, I_72, I_78, I_80, I_97, I_98, I_99, I_100, I_108, I_109, I_116, I_120, I_438, I_488, I_512, I_552, I_3864, oN_s, oN_n, bI_t, bI_f, Nat.add_zero, I_bt1, I_bt0, Nat.reduceLT, Nat.reduceLeDiff, Nat.reduceEqDiff, Nat.reduceAdd, Nat.reduceMul, Nat.reduceSub, tn_I, I_add, I_mul, I_div, vp_I, I_eq, I_le, I_lt, I_no, no_I, negI1, true_and, and_true, false_and, and_false, if_true, if_false, ite_true, ite_false, forall_eq, true_or, or_true, kn_0, kn_1, kn_2, kn_3, kn_4, kn_15, kn_16, kn_29, kn_30, kn_37, kn_38, kn_99, kn_100, kn_111, kn_112, kn_119, kn_120, kn_281, kn_282, kn_1543, kn_1544, kn_1545, kn_1546, kn_1547, kn_1551, kn_1552, kn_1553, kn_1554, lnn_2, lnn_4, lnn_16, lnn_30, lnn_38, lnn_100, lnn_112, lnn_120, lnn_282, lnn_1544, lnn_1547, lnn_1552, lnn_1554, rn_1_1, rn_1_2, rn_1_3, rn_1_4, rn_1_5, rn_1_6, rn_1_7, rn_1_8, rn_3_0, rn_15_0, rn_29_0, rn_37_0, rn_99_0, rn_111_0, rn_119_0, rn_1543_0, rn_1543_1, rn_1545_0, rn_1545_1, rn_0_0, rn_0_1, rn_0_3, rn_0_4, rn_0_5, rn_0_6, rn_0_7, rn_1546_0, rn_1551_0, rn_1551_3, rn_1553_0, rn_281_0, rr_4, rr_16, rr_30, rr_38, rr_100, rr_112, rr_120, rr_1547, rr_1554, kr_4, kr_16, kr_30, kr_38, kr_100, kr_112, kr_120, kr_1547, kr_1554, lr_4, lr_16, lr_30, lr_38, lr_100, lr_112, lr_120, lr_1547, lr_1554]
    exact h
theorem m_report {p : Int32} {b : Nat} (hX : RX o M f) (hl : o.2.2.1 ≤ 3) (hb2 : b < 2) (h : ∀ f' : Nat → Int32, f' 0 = I (rs_report o p b).1 → (∀ j, j ≠ 0 → f' j = f j) → Q (rs_report o p b).2 (mm M a f')) : T_X7_report Q 1582 p (I b) (mm M a f) := by
  have x3 := hX.2.2
  have e2 := x3.1
  have hl2 : o.2.2.1 < 4096 := by omega
  unfold T_X7_report T_X7_report_44
  simp only [kd7, true_and, I_0, I_1, mm_mf, forall_eq, mm_fa, updI_n (show (11 : Nat) ≠ 0 by decide), e2, m_in, in_cnt hl2, rf79, rf7a, kd79, kd7a, ln79, ln7a]
  unfold rs_report at h
  by_cases c1 : isN p o.2.2.1
  · rw [if_pos c1] at h ⊢
    obtain ⟨k, hk, rfl⟩ := isN_el c1
    have hk3 : k < 3 := by omega
    rw [tn_I (by omega)] at h
    have r1 := (x3.2 k hk).1
    have r2 := (x3.2 k hk).2
    have g := h _ updI_s (fun j hj => updI_n hj)
    have hb3 : b = 0 ∨ b = 1 := by omega
    rcases hb3 with rfl | rfl
    · simp (disch := omega) only [I_eq, Nat.reduceEqDiff, if_true, if_false, vp_I, hk3, true_and, tn_I, o_1588, r1]
      exact g
    · simp (disch := omega) only [I_eq, Nat.reduceEqDiff, if_true, if_false, vp_I, hk3, true_and, tn_I, o_1589, r2]
      exact g
  · rw [if_neg c1] at h ⊢
    simp (disch := omega) only [I_eq, Nat.reduceEqDiff, if_true, if_false, m_fails]
    exact h _ updI_s (fun j hj => by rw [updI_n hj, updI_n hj])
theorem L_report (hG : GI a kp h o) (hC : CI a kp h o M) {p : Int32} {b : Nat} (hb2 : b < 2) (hq : ∀ M', CI a kp h o M' → FrC M M' → ((rs_report o p b).1 = 0 → M'.2.1 0 = Int32.toInt64 (rs_report o p b).2) → Q (I (rs_report o p b).1) M') : T_L_report Q 0 p (I b) 1592 M := by
  have hlt := rs_report_lt (o := o) (p := p) (b := b)
  unfold T_L_report
  refine ⟨kn_0, k_report hC.2.2 hG.2.2.2.2 hb2 ?_⟩
  exact out_ok (by omega) (fun _ M9 q => by first | exact ⟨rfl, q⟩ | exact Or.inl ⟨rfl, q⟩ | exact Or.inr ⟨rfl, q⟩ | exact Or.inr (Or.inl ⟨rfl, q⟩) | exact Or.inr (Or.inr ⟨rfl, q⟩)) (fun e => by have := hlt; omega) (fun e => by have := hlt; omega) hq hC (fun _ _ => rfl)
theorem R_report (hG : GI a kp h o) (hR : RI a kp h o M) {p : Int32} {b : Nat} (hb2 : b < 2) (hq : ∀ M', RI a kp h o M' → FrR M M' → M'.1 1582 0 = I (rs_report o p b).1 → Q (rs_report o p b).2 M') : T_X7_report Q 1582 p (I b) M := by
  rw [RI_mm hR]
  exact m_report hR.2.2 hG.2.2.2.2 hb2 (fun f' e0 ej => hq _ (hR.fld (fun j j0 _ _ _ _ _ => ej j j0)) FrR_mm e0)
theorem mmf0 {v : Int32} : (mm M a (updI f 0 v)).1 1582 0 = v := (mm_fa 0).trans updI_s
/-- the law's row of doubles -/
def OD (M : Mem) (v : UInt64) : Mem := (M.1, M.2.1, vf_upd M.2.2 (Int32.toNatClampNeg 0) v)
theorem OD_v {v : UInt64} : (OD M v).2.2 0 = v := by
  show vf_upd M.2.2 (Int32.toNatClampNeg 0) v 0 = _
  unfold vf_upd
  rw [show Int32.toNatClampNeg 0 = 0 from rfl, if_pos rfl]
def fmean (a : Nat → Nat) : UInt64 := FP.ddiv (FP.i2d (I (tgD a))) (FP.i2d (I (inS a 0)))
def fuse (a : Nat → Nat) (p : Int32) : UInt32 := FP.fdiv (FP.i2f (I (csm a p.toNatClampNeg))) (FP.i2f (I (qsm a)))
theorem L_mean (hG : GI a kp h o) (hC : CI a kp h o M) (h1 : inS a 0 = 0 → ∀ M', CI a kp h o M' → FrC M M' → Q (I 1) M') (h0 : inS a 0 ≠ 0 → ∀ M', CI a kp h o M' → FrC M M' → M'.2.2 0 = fmean a → Q (I 0) M') : T_L_meanDistance Q 0 1593 M := by
  unfold T_L_meanDistance
  refine ⟨kn_0, k_mean hG.1.1 hC.1 (fun e => ⟨rfl, h1 e M hC (fun _ _ => rfl)⟩) (fun e => ⟨by decide, vp_1593, ?_⟩)⟩
  rintro M6 rfl
  exact h0 e (OD M _) hC (fun _ _ => rfl) OD_v
theorem R_mean {Q : UInt64 → Mem → Prop} (hG : GI a kp h o) (hR : RI a kp h o M) (h1 : inS a 0 = 0 → ∀ M', RI a kp h o M' → FrR M M' → M'.1 1582 0 = I 1 → Q FP.dconst0 M') (h0 : inS a 0 ≠ 0 → ∀ M', RI a kp h o M' → FrR M M' → M'.1 1582 0 = I 0 → Q (fmean a) M') : T_X7_meanDistance Q 1582 M := by
  rw [RI_mm hR]
  exact m_mean hG.1.1 (fun e => h1 e _ (hR.fld (fun j j0 _ _ _ _ _ => updI_n j0)) FrR_mm mmf0) (fun e => h0 e _ (hR.fld (fun j j0 _ _ _ _ _ => updI_n j0)) FrR_mm mmf0)
theorem L_use (hG : GI a kp h o) (hC : CI a kp h o M) {p : Int32} (h1 : ¬ isN p 8 → ∀ M', CI a kp h o M' → FrC M M' → Q (I 1) M') (h2 : isN p 8 → qsm a = 0 → ∀ M', CI a kp h o M' → FrC M M' → Q (I 2) M') (h0 : isN p 8 → qsm a ≠ 0 → ∀ M', CI a kp h o M' → FrC M M' → M'.2.2 0 = FP.f2d (fuse a p) → Q (I 0) M') : T_L_use Q 0 p 1593 M := by
  have hq := qsm_b hG.1.1 (n := a 1) hG.1.1.2.1.2.1
  unfold T_L_use
  refine ⟨kn_0, k_use hG.1 hC.1 (fun e => Or.inr ⟨rfl, h1 e M hC (fun _ _ => rfl)⟩) (fun e e2 => Or.inl ⟨rfl, h2 e e2 M hC (fun _ _ => rfl)⟩) (fun e e2 => ⟨nn64 (fl_w (fl_f (I_nz (show qsm a < 2147483648 by unfold qsm; omega) e2))), by decide, vp_1593, ?_⟩)⟩
  rintro M6 rfl
  exact h0 e e2 (OD M _) hC (fun _ _ => rfl) OD_v
theorem R_use {Q : UInt32 → Mem → Prop} (hG : GI a kp h o) (hR : RI a kp h o M) {p : Int32} (h1 : ¬ isN p 8 → ∀ M', RI a kp h o M' → FrR M M' → M'.1 1582 0 = I 1 → Q FP.fconst0 M') (h2 : isN p 8 → qsm a = 0 → ∀ M', RI a kp h o M' → FrR M M' → M'.1 1582 0 = I 2 → Q FP.fconst0 M') (h0 : isN p 8 → qsm a ≠ 0 → ∀ M', RI a kp h o M' → FrR M M' → M'.1 1582 0 = I 0 → Q (fuse a p) M') : T_X7_use Q 1582 p M := by
  rw [RI_mm hR]
  exact m_use hG.1.1 (fun e => h1 e _ (hR.fld (fun j j0 _ _ _ _ _ => updI_n j0)) FrR_mm mmf0) (fun e e2 => h2 e e2 _ (hR.fld (fun j j0 _ _ _ _ _ => updI_n j0)) FrR_mm mmf0) (fun e e2 => h0 e e2 _ (hR.fld (fun j j0 _ _ _ _ _ => updI_n j0)) FrR_mm mmf0)
end Rs1

