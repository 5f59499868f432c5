/-! ===== BOOK: the reference ===== -/
section Bo1
variable {M M' M1 : Mem} {a a' : Nat → Nat} {f f' : Nat → Int32} {kp : Nat} {h : Nat → Nat → Nat} {o : Oth} {Q : Int32 → Mem → Prop} {X : String → Mem → Prop}
/-- a report: of a call, or of a command -/
def rpt (oc : Option Nat) (i m : Nat) (n d : Int32) : Nat × (Nat → Int32) × (Nat → Int32) := match oc with
  | none => (2, fun k => if k = 0 then I i else n, fun k => if k = 0 then I m else d)
  | some c => (3, fun k => if k = 0 then I 99 else if k = 1 then I i else n, fun k => if k = 0 then I c else if k = 1 then I m else d)
theorem rpt_le {oc : Option Nat} {i m : Nat} {n d : Int32} : (rpt oc i m n d).1 ≤ 3 := by
  cases oc with
  | none => show 2 ≤ 3; decide
  | some c => show 3 ≤ 3; decide
theorem m_rep {QP : Mem → Prop} {oc : Option Nat} {i x y : Nat} {n : Int32} (hoc : ∀ c, oc = some c → c < 1000)
    (hq : ∀ M' f', M'.2 = M.2 → (∀ j, j ≠ 1588 → j ≠ 1589 → M'.1 j = M.1 j) → (∀ j, j ≠ 11 → f' j = f j) → f' 11 = I (rpt oc i (4 * x + y) n (f 13)).1 → (∀ k, k < (rpt oc i (4 * x + y) n (f 13)).1 → M'.1 1588 k = (rpt oc i (4 * x + y) n (f 13)).2.1 k ∧ M'.1 1589 k = (rpt oc i (4 * x + y) n (f 13)).2.2 k) → QP (mm M' a f')) :
    T_X7_reports QP 1582 (I i) (I x) (I y) n (oN oc) (mm M a f) := by
  have n13 : ∀ v, updI f 11 v 13 = f 13 := fun v => updI_n (by decide)
  cases oc with
  | none =>
    unfold T_X7_reports T_X7_reports_12
    simp (disch := omega) only [oN_n, negI1, show (-1 : Int32) = NO from rfl, if_true, kd7, rf79, rf7a, kd79, kd7a, ln79, ln7a, mm_mf, mm_fa, updI_s, n13, ms_1588, ms_1589, forall_eq, true_and, I_0, I_1, I_2, I_4, I_99, vp_I, tn_I, I_sub, I_mul, I_add, Nat.reduceSub, Nat.reduceLT]
    refine hq _ _ ?_ (fun j j1 j2 => ?_) (fun j hj => updI_n hj) updI_s (fun k hk => ?_)
    · rfl
    · rw [mset_ne j2, mset_ne j1, mset_ne j2, mset_ne j1, mset_ne j2, mset_ne j1]
    · have hk2 : k < 2 := hk
      have : k = 0 ∨ k = 1 := by omega
      rcases this with rfl | rfl
      · refine ⟨?_, ?_⟩
        · rw [mset_ne (by decide), mset_v, if_neg (by decide), mset_ne (by decide), mset_v, if_pos rfl]; rfl
        · rw [mset_v, if_neg (by decide), mset_ne (by decide), mset_v, if_pos rfl]; rfl
      · refine ⟨?_, ?_⟩
        · rw [mset_ne (by decide), mset_v, if_pos rfl]; rfl
        · rw [mset_v, if_pos rfl]; rfl
  | some c =>
    have hc := hoc c rfl
    unfold T_X7_reports T_X7_reports_12
    simp (disch := omega) only [oN_s, negI1, show (-1 : Int32) = NO from rfl, I_no, if_false, kd7, rf79, rf7a, kd79, kd7a, ln79, ln7a, mm_mf, mm_fa, updI_s, n13, ms_1588, ms_1589, forall_eq, true_and, I_0, I_1, I_2, I_3, I_4, I_99, vp_I, tn_I, I_sub, I_mul, I_add, Nat.reduceSub, Nat.reduceLT]
    refine hq _ _ ?_ (fun j j1 j2 => ?_) (fun j hj => updI_n hj) updI_s (fun k hk => ?_)
    · rfl
    · rw [mset_ne j2, mset_ne j1, mset_ne j2, mset_ne j1, mset_ne j2, mset_ne j1]
    · have hk2 : k < 3 := hk
      have : k = 0 ∨ k = 1 ∨ k = 2 := by omega
      rcases this with rfl | rfl | rfl
      · refine ⟨?_, ?_⟩
        · rw [mset_ne (by decide), mset_v, if_neg (by decide), mset_ne (by decide), mset_v, if_neg (by decide), mset_ne (by decide), mset_v, if_pos rfl]; rfl
        · rw [mset_v, if_neg (by decide), mset_ne (by decide), mset_v, if_neg (by decide), mset_ne (by decide), mset_v, if_pos rfl]; rfl
      · refine ⟨?_, ?_⟩
        · rw [mset_ne (by decide), mset_v, if_neg (by decide), mset_ne (by decide), mset_v, if_pos rfl]; rfl
        · rw [mset_v, if_neg (by decide), mset_ne (by decide), mset_v, if_pos rfl]; rfl
      · refine ⟨?_, ?_⟩
        · rw [mset_ne (by decide), mset_v, if_pos rfl]; rfl
        · rw [mset_v, if_pos rfl]; rfl
def brm (a : Nat → Nat) (i z x y : Nat) : Nat := (rmB a i (pc z) x y).getD 0
theorem m_booking (hG : GS a) {p s d t : Int32} (oc : Option Nat) (hoc : ∀ c, oc = some c → c < 1000) (h1 : fob a p s d t ≠ 0 → Q (I (fob a p s d t)) (mm M a f))
    (h3 : ∀ i z x y, p = I i → s = I z → d = I x → t = I y → i < a 1 → (0 < z ∧ z < 2 ^ a 2) → x < 56 → y < 4 → fob a p s d t = 0 → (rsn a i z x y).1 ≠ 0 → ∀ M' f', M'.2 = M.2 → (∀ j, j ≠ 1588 → j ≠ 1589 → M'.1 j = M.1 j) → (∀ j, j ≠ 11 → j ≠ 13 → j ≠ 14 → f' j = f j) → f' 11 = I (rpt oc i (4 * x + y) (I (rsn a i z x y).1) (rsn a i z x y).2).1 →
      (∀ k, k < (rpt oc i (4 * x + y) (I (rsn a i z x y).1) (rsn a i z x y).2).1 → M'.1 1588 k = (rpt oc i (4 * x + y) (I (rsn a i z x y).1) (rsn a i z x y).2).2.1 k ∧ M'.1 1589 k = (rpt oc i (4 * x + y) (I (rsn a i z x y).1) (rsn a i z x y).2).2.2 k) → Q (I 3) (mm M' a f'))
    (h0 : ∀ i z x y, p = I i → s = I z → d = I x → t = I y → i < a 1 → (0 < z ∧ z < 2 ^ a 2) → x < 56 → y < 4 → fob a p s d t = 0 → (rsn a i z x y).1 = 0 → ∀ f', (∀ j, j ≠ 13 → j ≠ 14 → j ≠ 15 → f' j = f j) → f' 15 = I (a 4) → Q (I 0) (mm M (adv a i z x y (brm a i z x y)) f')) : T_X7_booking Q 1582 p s d t (oN oc) (mm M a f) := by
  have hV := hG.1
  have hb := hV.1
  have ha1 := hV.2.1.2.1
  have h2p := two_le hV.2.1.2.2.1
  unfold T_X7_booking T_X7_booking_38
  refine ⟨by decide, ?_⟩
  rw [m_isInmate hb]
  have bad : fob a p s d t = 2 → Q (I 2) (mm M a f) := fun c => by have := h1 (by omega); rw [c] at this; exact this
  by_cases c1 : isN p (a 1)
  · rw [if_pos c1]
    simp (disch := first | exact lt4 (hb _) | exact hb _ | omega) only [I_0, I_1, I_2, I_3, I_4, I_5, I_6, I_7, I_8, I_9, I_10, I_11, I_12, I_20, I_22, I_27, I_31, I_32, I_38, I_42, I_48, I_54, I_55, I_56, I_57, I_60, I_66, I_72, I_78, I_80, I_97, I_98, I_99, I_100, I_108, I_109, I_116, I_120, I_438, I_488, I_512, I_552, I_3864, oN_s, oN_n, bI_t, bI_f, Nat.add_zero, I_bt1, I_bt0, Nat.reduceLT, Nat.reduceLeDiff, Nat.reduceEqDiff, Nat.reduceAdd, Nat.reduceMul, Nat.reduceSub, tn_I, I_add, I_mul, I_div, vp_I, I_eq, I_le, I_lt, I_no, no_I, negI1, kd7, rf71, kdS, lnS, mm_sa, mm_fa, mm_ms, mm_mf, true_and, and_true, false_and, and_false, if_true, if_false, ite_true, ite_false, forall_eq, true_or, or_true]
    refine m_avis hV (fun c2 => ?_) (fun c2 => ?_)
    · have c2' := (isP_Q hV).mp c2
      simp (disch := first | exact lt4 (hb _) | exact hb _ | omega) only [I_0, I_1, I_2, I_3, I_4, I_5, I_6, I_7, I_8, I_9, I_10, I_11, I_12, I_20, I_22, I_27, I_31, I_32, I_38, I_42, I_48, I_54, I_55, I_56, I_57, I_60, I_66, I_72, I_78, I_80, I_97, I_98, I_99, I_100, I_108, I_109, I_116, I_120, I_438, I_488, I_512, I_552, I_3864, oN_s, oN_n, bI_t, bI_f, Nat.add_zero, I_bt1, I_bt0, Nat.reduceLT, Nat.reduceLeDiff, Nat.reduceEqDiff, Nat.reduceAdd, Nat.reduceMul, Nat.reduceSub, tn_I, I_add, I_mul, I_div, vp_I, I_eq, I_le, I_lt, I_no, no_I, negI1, kd7, rf71, kdS, lnS, mm_sa, mm_fa, mm_ms, mm_mf, true_and, and_true, false_and, and_false, if_true, if_false, ite_true, ite_false, forall_eq, true_or, or_true, m_in, in_I]
      by_cases c3 : isN d 56
      · rw [if_pos c3]
        by_cases c4 : isN t 4
        · rw [if_pos c4]
          have hf : fob a p s d t = 0 := by unfold fob; rw [if_pos c1, if_pos ⟨c2', c3, c4⟩]
          obtain ⟨i, z, x, y, rfl, rfl, rfl, rfl, hi, hz, hx, hy⟩ := fob_0 hV hf
          refine m_rsn hV hi (by omega) (by omega) (by omega) (fun f2 q1 q14 q13 => ?_)
          have hlt : (rsn a i z x y).1 < 4096 := rsn_l _ _ _ _ _
          by_cases c : (rsn a i z x y).1 = 0
          · obtain ⟨r, e1, e2, e3, -, -⟩ := rsn_0 hV c
            have er : brm a i z x y = r := by unfold brm; rw [e2]; rfl
            have e14 : f2 14 = I (brm a i z x y) := by rw [q14 c, e1, er]
            simp (disch := first | exact lt4 (hb _) | exact hb _ | omega) only [I_0, I_1, I_2, I_3, I_4, I_5, I_6, I_7, I_8, I_9, I_10, I_11, I_12, I_20, I_22, I_27, I_31, I_32, I_38, I_42, I_48, I_54, I_55, I_56, I_57, I_60, I_66, I_72, I_78, I_80, I_97, I_98, I_99, I_100, I_108, I_109, I_116, I_120, I_438, I_488, I_512, I_552, I_3864, oN_s, oN_n, bI_t, bI_f, Nat.add_zero, I_bt1, I_bt0, Nat.reduceLT, Nat.reduceLeDiff, Nat.reduceEqDiff, Nat.reduceAdd, Nat.reduceMul, Nat.reduceSub, tn_I, I_add, I_mul, I_div, vp_I, I_eq, I_le, I_lt, I_no, no_I, negI1, kd7, rf71, kdS, lnS, mm_sa, mm_fa, mm_ms, mm_mf, true_and, and_true, false_and, and_false, if_true, if_false, ite_true, ite_false, forall_eq, true_or, or_true, c, e14, Nat.le_refl]
            refine m_adds hb e3 ?_
            simp (disch := first | exact lt4 (hb _) | exact hb _ | omega) only [I_0, I_1, I_2, I_3, I_4, I_5, I_6, I_7, I_8, I_9, I_10, I_11, I_12, I_20, I_22, I_27, I_31, I_32, I_38, I_42, I_48, I_54, I_55, I_56, I_57, I_60, I_66, I_72, I_78, I_80, I_97, I_98, I_99, I_100, I_108, I_109, I_116, I_120, I_438, I_488, I_512, I_552, I_3864, oN_s, oN_n, bI_t, bI_f, Nat.add_zero, I_bt1, I_bt0, Nat.reduceLT, Nat.reduceLeDiff, Nat.reduceEqDiff, Nat.reduceAdd, Nat.reduceMul, Nat.reduceSub, tn_I, I_add, I_mul, I_div, vp_I, I_eq, I_le, I_lt, I_no, no_I, negI1, kd7, rf71, kdS, lnS, mm_sa, mm_fa, mm_ms, mm_mf, true_and, and_true, false_and, and_false, if_true, if_false, ite_true, ite_false, forall_eq, true_or, or_true]
            exact h0 i z x y rfl rfl rfl rfl hi hz hx hy hf c _ (fun j j13 j14 j15 => by rw [updI_n j15, q1 j j13 j14]) updI_s
          · simp (disch := first | exact lt4 (hb _) | exact hb _ | omega) only [I_0, I_1, I_2, I_3, I_4, I_5, I_6, I_7, I_8, I_9, I_10, I_11, I_12, I_20, I_22, I_27, I_31, I_32, I_38, I_42, I_48, I_54, I_55, I_56, I_57, I_60, I_66, I_72, I_78, I_80, I_97, I_98, I_99, I_100, I_108, I_109, I_116, I_120, I_438, I_488, I_512, I_552, I_3864, oN_s, oN_n, bI_t, bI_f, Nat.add_zero, I_bt1, I_bt0, Nat.reduceLT, Nat.reduceLeDiff, Nat.reduceEqDiff, Nat.reduceAdd, Nat.reduceMul, Nat.reduceSub, tn_I, I_add, I_mul, I_div, vp_I, I_eq, I_le, I_lt, I_no, no_I, negI1, kd7, rf71, kdS, lnS, mm_sa, mm_fa, mm_ms, mm_mf, true_and, and_true, false_and, and_false, if_true, if_false, ite_true, ite_false, forall_eq, true_or, or_true, show ¬ (rsn a i z x y).1 ≤ 0 by omega]
            refine m_rep hoc (fun M' f' g1 g2 g3 g4 g5 => ?_)
            rw [q13 c] at g4 g5
            exact h3 i z x y rfl rfl rfl rfl hi hz hx hy hf c M' f' g1 g2 (fun j j11 j13 j14 => by rw [g3 j j11, q1 j j13 j14]) g4 g5
        · rw [if_neg c4]
          exact bad (by unfold fob; rw [if_pos c1, if_neg (fun z => c4 z.2.2)])
      · rw [if_neg c3]
        exact bad (by unfold fob; rw [if_pos c1, if_neg (fun z => c3 z.2.1)])
    · simp (disch := first | exact lt4 (hb _) | exact hb _ | omega) only [I_0, I_1, I_2, I_3, I_4, I_5, I_6, I_7, I_8, I_9, I_10, I_11, I_12, I_20, I_22, I_27, I_31, I_32, I_38, I_42, I_48, I_54, I_55, I_56, I_57, I_60, I_66, I_72, I_78, I_80, I_97, I_98, I_99, I_100, I_108, I_109, I_116, I_120, I_438, I_488, I_512, I_552, I_3864, oN_s, oN_n, bI_t, bI_f, Nat.add_zero, I_bt1, I_bt0, Nat.reduceLT, Nat.reduceLeDiff, Nat.reduceEqDiff, Nat.reduceAdd, Nat.reduceMul, Nat.reduceSub, tn_I, I_add, I_mul, I_div, vp_I, I_eq, I_le, I_lt, I_no, no_I, negI1, kd7, rf71, kdS, lnS, mm_sa, mm_fa, mm_ms, mm_mf, true_and, and_true, false_and, and_false, if_true, if_false, ite_true, ite_false, forall_eq, true_or, or_true]
      exact bad (by unfold fob; rw [if_pos c1, if_neg (fun z => c2 ((isP_Q hV).mpr z.1))])
  · rw [if_neg c1]
    have e : fob a p s d t = 1 := by unfold fob; rw [if_neg c1]
    rw [e] at h1
    simp (disch := first | exact lt4 (hb _) | exact hb _ | omega) only [I_0, I_1, I_2, I_3, I_4, I_5, I_6, I_7, I_8, I_9, I_10, I_11, I_12, I_20, I_22, I_27, I_31, I_32, I_38, I_42, I_48, I_54, I_55, I_56, I_57, I_60, I_66, I_72, I_78, I_80, I_97, I_98, I_99, I_100, I_108, I_109, I_116, I_120, I_438, I_488, I_512, I_552, I_3864, oN_s, oN_n, bI_t, bI_f, Nat.add_zero, I_bt1, I_bt0, Nat.reduceLT, Nat.reduceLeDiff, Nat.reduceEqDiff, Nat.reduceAdd, Nat.reduceMul, Nat.reduceSub, tn_I, I_add, I_mul, I_div, vp_I, I_eq, I_le, I_lt, I_no, no_I, negI1, kd7, rf71, kdS, lnS, mm_sa, mm_fa, mm_ms, mm_mf, true_and, and_true, false_and, and_false, if_true, if_false, ite_true, ite_false, forall_eq, true_or, or_true]
    exact h1 (by decide)
/-- the reference's other parts with a new report -/
theorem RX.rep {r : Nat × (Nat → Int32) × (Nat → Int32)} (hX : RX o M f) (e4 : M'.1 1584 = M.1 1584) (e7 : M'.1 1587 = M.1 1587) (e6 : f' 6 = f 6) (e8 : f' 8 = f 8) (e11 : f' 11 = I r.1) (er : ∀ k, k < r.1 → M'.1 1588 k = r.2.1 k ∧ M'.1 1589 k = r.2.2 k) : RX (o.1, o.2.1, r) M' f' := by
  obtain ⟨x1, x2, x3⟩ := hX
  refine ⟨?_, ⟨e8.trans x2.1, fun k hk => by rw [e7]; exact x2.2 k hk⟩, ⟨e11, er⟩⟩
  show match o.1 with | none => f' 6 = I 0 | some s => f' 6 = I 1 ∧ ∀ k, k < 552 → M'.1 1584 k = I (s k)
  cases hs : o.1 with
  | none => rw [hs] at x1; exact e6.trans x1
  | some s => rw [hs] at x1; exact ⟨e6.trans x1.1, fun k hk => by rw [e4]; exact x1.2 k hk⟩
end Bo1

