/-! ===== THE REFERENCE's next visit ===== -/
section Nx1
variable {M : Mem} {a : Nat → Nat} {f : Nat → Int32}
/-- the last moment before l -/
def bL : Nat → Int32
  | 0 => NO
  | n + 1 => I n
theorem bL_le {x l : Nat} (hx : x < 100000) (hl : l < 100000) : (I x ≤ bL l) = (x < l) := by
  cases l with
  | zero =>
    apply propext
    constructor
    · intro h
      rw [le_ti, ti_I (by omega)] at h
      have : (bL 0).toInt = -1 := ti_NO
      rw [this] at h
      omega
    · intro h; omega
  | succ n =>
    show (I x ≤ I n) = _
    rw [I_le (by omega) (by omega)]
    apply propext
    constructor <;> intro h <;> omega
def mdV (a : Nat → Nat) (v : Nat) : Nat := 4 * a (78 + 6 * v + 2) + a (78 + 6 * v + 3)
def nxp (a : Nat → Nat) (c x l v : Nat) : Bool := decide (a (78 + 6 * v + 5) = 0) && (decide (l ≤ mdV a v) && decide (a (78 + 6 * v + c) = x))
def nx (a : Nat → Nat) (c x l : Nat) : Option Nat := am (mdV a) (nxp a c x l) (a 4)
theorem m_next_l {Q : Int32 → Mem → Prop} (hV : VA a) {c x l : Nat} {v1 v2 : Int32} (hcr : (v1 = NO ∧ v2 = I x ∧ c = 4) ∨ (v1 = I x ∧ c = 0)) (hx : x < 4096) (hl : l < 100000) (h : Q (oN (nx a c x l)) (mm M a f)) :
    ∀ m k, k + m = a 4 → T_X7_nextOf_6 Q (m + 1) 1582 v1 v2 (bL l) (oN (am (mdV a) (nxp a c x l) k)) (I k) (mm M a f) := by
  have hb := hV.1
  have h4 := hV.2.1.2.2.2.2.1
  intro m
  induction m with
  | zero =>
    intro k hk
    obtain rfl : k = a 4 := by omega
    unfold T_X7_nextOf_6
    simp (disch := first | exact lt4 (hb _) | exact hb _ | omega) only [I_0, I_1, I_2, I_3, I_4, I_5, I_6, I_7, I_8, I_9, I_10, I_11, I_12, I_20, I_22, I_27, I_31, I_32, I_38, I_42, I_48, I_54, I_55, I_56, I_57, I_60, I_66, I_72, I_78, I_80, I_97, I_98, I_99, I_100, I_108, I_109, I_116, I_120, I_438, I_488, I_512, I_552, I_3864, oN_s, oN_n, bI_t, bI_f, Nat.add_zero, I_bt1, I_bt0, Nat.reduceLT, Nat.reduceLeDiff, Nat.reduceEqDiff, Nat.reduceAdd, Nat.reduceMul, Nat.reduceSub, tn_I, I_add, I_mul, I_div, vp_I, I_eq, I_le, I_lt, I_no, no_I, negI1, kd7, rf71, kdS, lnS, mm_sa, mm_fa, mm_ms, mm_mf, true_and, and_true, false_and, and_false, if_true, if_false, ite_true, ite_false, forall_eq, true_or, or_true, show a 4 ≤ a 4 from Nat.le_refl _]
    exact h
  | succ m ih =>
    intro k hk
    have hk4 : k < a 4 := by omega
    have e := ih (k + 1) (by omega)
    have hmd : ∀ v, mdV a v < 100000 := fun v => by
      unfold mdV
      have q2 := hb (78 + 6 * v + 2)
      have q3 := hb (78 + 6 * v + 3)
      omega
    have hs : am (mdV a) (nxp a c x l) (k + 1) = (match am (mdV a) (nxp a c x l) k with | none => if nxp a c x l k = true then some k else none | some b => if nxp a c x l k = true ∧ mdV a k < mdV a b then some k else some b) := rfl
    have hmk : 4 * a (78 + 6 * k + 2) + a (78 + 6 * k + 3) = mdV a k := rfl
    rw [hs] at e
    have no : nxp a c x l k = false → T_X7_nextOf_85 (T_X7_nextOf_6 Q (m + 1)) Q 1582 v1 v2 (bL l) (oN (am (mdV a) (nxp a c x l) k)) (I k) (I (mdV a k)) (mm M a f) := by
      intro hq
      unfold T_X7_nextOf_85 T_X7_nextOf_86 T_X7_nextOf_125
      simp (disch := first | exact lt4 (hb _) | exact hb _ | omega) only [I_0, I_1, I_2, I_3, I_4, I_5, I_6, I_7, I_8, I_9, I_10, I_11, I_12, I_20, I_22, I_27, I_31, I_32, I_38, I_42, I_48, I_54, I_55, I_56, I_57, I_60, I_66, I_72, I_78, I_80, I_97, I_98, I_99, I_100, I_108, I_109, I_116, I_120, I_438, I_488, I_512, I_552, I_3864, oN_s, oN_n, bI_t, bI_f, Nat.add_zero, I_bt1, I_bt0, Nat.reduceLT, Nat.reduceLeDiff, Nat.reduceEqDiff, Nat.reduceAdd, Nat.reduceMul, Nat.reduceSub, tn_I, I_add, I_mul, I_div, vp_I, I_eq, I_le, I_lt, I_no, no_I, negI1, kd7, rf71, kdS, lnS, mm_sa, mm_fa, mm_ms, mm_mf, true_and, and_true, false_and, and_false, if_true, if_false, ite_true, ite_false, forall_eq, true_or, or_true]
      cases he : am (mdV a) (nxp a c x l) k with
      | none => rw [he] at e; simp only [hq, Bool.false_eq_true, if_false] at e; exact e
      | some b => rw [he] at e; simp only [hq, Bool.false_eq_true, false_and, if_false] at e; exact e
    have yes : nxp a c x l k = true → T_X7_nextOf_81 (T_X7_nextOf_6 Q (m + 1)) Q 1582 v1 v2 (bL l) (oN (am (mdV a) (nxp a c x l) k)) (I k) (I (mdV a k)) (mm M a f) := by
      intro hq
      unfold T_X7_nextOf_81 T_X7_nextOf_86 T_X7_nextOf_125 T_X7_nextOf_121 T_X7_nextOf_125
      cases he : am (mdV a) (nxp a c x l) k with
      | none =>
        rw [he] at e
        simp only [hq, if_true] at e
        simp (disch := first | exact lt4 (hb _) | exact hb _ | omega) only [I_0, I_1, I_2, I_3, I_4, I_5, I_6, I_7, I_8, I_9, I_10, I_11, I_12, I_20, I_22, I_27, I_31, I_32, I_38, I_42, I_48, I_54, I_55, I_56, I_57, I_60, I_66, I_72, I_78, I_80, I_97, I_98, I_99, I_100, I_108, I_109, I_116, I_120, I_438, I_488, I_512, I_552, I_3864, oN_s, oN_n, bI_t, bI_f, Nat.add_zero, I_bt1, I_bt0, Nat.reduceLT, Nat.reduceLeDiff, Nat.reduceEqDiff, Nat.reduceAdd, Nat.reduceMul, Nat.reduceSub, tn_I, I_add, I_mul, I_div, vp_I, I_eq, I_le, I_lt, I_no, no_I, negI1, kd7, rf71, kdS, lnS, mm_sa, mm_fa, mm_ms, mm_mf, true_and, and_true, false_and, and_false, if_true, if_false, ite_true, ite_false, forall_eq, true_or, or_true]
        exact e
      | some b =>
        rw [he] at e
        have hbk : b < k := (am_s he).1
        have hmb : 4 * a (78 + 6 * b + 2) + a (78 + 6 * b + 3) = mdV a b := rfl
        simp only [hq, true_and] at e
        have h1 := hmd k
        have h2 := hmd b
        by_cases z : mdV a k < mdV a b
        · rw [if_pos z] at e
          simp (disch := first | exact lt4 (hb _) | exact hb _ | omega) only [I_0, I_1, I_2, I_3, I_4, I_5, I_6, I_7, I_8, I_9, I_10, I_11, I_12, I_20, I_22, I_27, I_31, I_32, I_38, I_42, I_48, I_54, I_55, I_56, I_57, I_60, I_66, I_72, I_78, I_80, I_97, I_98, I_99, I_100, I_108, I_109, I_116, I_120, I_438, I_488, I_512, I_552, I_3864, oN_s, oN_n, bI_t, bI_f, Nat.add_zero, I_bt1, I_bt0, Nat.reduceLT, Nat.reduceLeDiff, Nat.reduceEqDiff, Nat.reduceAdd, Nat.reduceMul, Nat.reduceSub, tn_I, I_add, I_mul, I_div, vp_I, I_eq, I_le, I_lt, I_no, no_I, negI1, kd7, rf71, kdS, lnS, mm_sa, mm_fa, mm_ms, mm_mf, true_and, and_true, false_and, and_false, if_true, if_false, ite_true, ite_false, forall_eq, true_or, or_true, m_of hb (show b < 60 by omega), hmb, show ¬ mdV a b ≤ mdV a k by omega]
          exact e
        · rw [if_neg z] at e
          simp (disch := first | exact lt4 (hb _) | exact hb _ | omega) only [I_0, I_1, I_2, I_3, I_4, I_5, I_6, I_7, I_8, I_9, I_10, I_11, I_12, I_20, I_22, I_27, I_31, I_32, I_38, I_42, I_48, I_54, I_55, I_56, I_57, I_60, I_66, I_72, I_78, I_80, I_97, I_98, I_99, I_100, I_108, I_109, I_116, I_120, I_438, I_488, I_512, I_552, I_3864, oN_s, oN_n, bI_t, bI_f, Nat.add_zero, I_bt1, I_bt0, Nat.reduceLT, Nat.reduceLeDiff, Nat.reduceEqDiff, Nat.reduceAdd, Nat.reduceMul, Nat.reduceSub, tn_I, I_add, I_mul, I_div, vp_I, I_eq, I_le, I_lt, I_no, no_I, negI1, kd7, rf71, kdS, lnS, mm_sa, mm_fa, mm_ms, mm_mf, true_and, and_true, false_and, and_false, if_true, if_false, ite_true, ite_false, forall_eq, true_or, or_true, m_of hb (show b < 60 by omega), hmb, show mdV a b ≤ mdV a k by omega]
          exact e
    have hbl := bL_le (x := mdV a k) (l := l) (hmd k) hl
    unfold T_X7_nextOf_6
    simp (disch := first | exact lt4 (hb _) | exact hb _ | omega) only [I_0, I_1, I_2, I_3, I_4, I_5, I_6, I_7, I_8, I_9, I_10, I_11, I_12, I_20, I_22, I_27, I_31, I_32, I_38, I_42, I_48, I_54, I_55, I_56, I_57, I_60, I_66, I_72, I_78, I_80, I_97, I_98, I_99, I_100, I_108, I_109, I_116, I_120, I_438, I_488, I_512, I_552, I_3864, oN_s, oN_n, bI_t, bI_f, Nat.add_zero, I_bt1, I_bt0, Nat.reduceLT, Nat.reduceLeDiff, Nat.reduceEqDiff, Nat.reduceAdd, Nat.reduceMul, Nat.reduceSub, tn_I, I_add, I_mul, I_div, vp_I, I_eq, I_le, I_lt, I_no, no_I, negI1, kd7, rf71, kdS, lnS, mm_sa, mm_fa, mm_ms, mm_mf, true_and, and_true, false_and, and_false, if_true, if_false, ite_true, ite_false, forall_eq, true_or, or_true, show ¬ a 4 ≤ k by omega, m_of hb (show k < 60 by omega), hmk, m_isBooked hb (show k < 60 by omega), hbl]
    by_cases c5 : a (78 + 6 * k + 5) = 0
    · rw [if_pos c5]
      by_cases cl : mdV a k < l
      · rw [if_pos cl]
        exact no (by unfold nxp; rw [decide_eq_false (show ¬ l ≤ mdV a k by omega), Bool.false_and, Bool.and_false])
      · rw [if_neg cl]
        rcases hcr with ⟨rfl, rfl, rfl⟩ | ⟨rfl, rfl⟩
        · by_cases cx : a (78 + 6 * k + 4) = x
          · simp (disch := first | exact lt4 (hb _) | exact hb _ | omega) only [I_0, I_1, I_2, I_3, I_4, I_5, I_6, I_7, I_8, I_9, I_10, I_11, I_12, I_20, I_22, I_27, I_31, I_32, I_38, I_42, I_48, I_54, I_55, I_56, I_57, I_60, I_66, I_72, I_78, I_80, I_97, I_98, I_99, I_100, I_108, I_109, I_116, I_120, I_438, I_488, I_512, I_552, I_3864, oN_s, oN_n, bI_t, bI_f, Nat.add_zero, I_bt1, I_bt0, Nat.reduceLT, Nat.reduceLeDiff, Nat.reduceEqDiff, Nat.reduceAdd, Nat.reduceMul, Nat.reduceSub, tn_I, I_add, I_mul, I_div, vp_I, I_eq, I_le, I_lt, I_no, no_I, negI1, kd7, rf71, kdS, lnS, mm_sa, mm_fa, mm_ms, mm_mf, true_and, and_true, false_and, and_false, if_true, if_false, ite_true, ite_false, forall_eq, true_or, or_true, cx]
            exact yes (by unfold nxp; rw [decide_eq_true c5, decide_eq_true (show l ≤ mdV a k by omega), decide_eq_true cx]; rfl)
          · simp (disch := first | exact lt4 (hb _) | exact hb _ | omega) only [I_0, I_1, I_2, I_3, I_4, I_5, I_6, I_7, I_8, I_9, I_10, I_11, I_12, I_20, I_22, I_27, I_31, I_32, I_38, I_42, I_48, I_54, I_55, I_56, I_57, I_60, I_66, I_72, I_78, I_80, I_97, I_98, I_99, I_100, I_108, I_109, I_116, I_120, I_438, I_488, I_512, I_552, I_3864, oN_s, oN_n, bI_t, bI_f, Nat.add_zero, I_bt1, I_bt0, Nat.reduceLT, Nat.reduceLeDiff, Nat.reduceEqDiff, Nat.reduceAdd, Nat.reduceMul, Nat.reduceSub, tn_I, I_add, I_mul, I_div, vp_I, I_eq, I_le, I_lt, I_no, no_I, negI1, kd7, rf71, kdS, lnS, mm_sa, mm_fa, mm_ms, mm_mf, true_and, and_true, false_and, and_false, if_true, if_false, ite_true, ite_false, forall_eq, true_or, or_true, cx]
            exact no (by unfold nxp; rw [decide_eq_false cx, Bool.and_false, Bool.and_false])
        · by_cases cx : a (78 + 6 * k + 0) = x
          · simp (disch := first | exact lt4 (hb _) | exact hb _ | omega) only [I_0, I_1, I_2, I_3, I_4, I_5, I_6, I_7, I_8, I_9, I_10, I_11, I_12, I_20, I_22, I_27, I_31, I_32, I_38, I_42, I_48, I_54, I_55, I_56, I_57, I_60, I_66, I_72, I_78, I_80, I_97, I_98, I_99, I_100, I_108, I_109, I_116, I_120, I_438, I_488, I_512, I_552, I_3864, oN_s, oN_n, bI_t, bI_f, Nat.add_zero, I_bt1, I_bt0, Nat.reduceLT, Nat.reduceLeDiff, Nat.reduceEqDiff, Nat.reduceAdd, Nat.reduceMul, Nat.reduceSub, tn_I, I_add, I_mul, I_div, vp_I, I_eq, I_le, I_lt, I_no, no_I, negI1, kd7, rf71, kdS, lnS, mm_sa, mm_fa, mm_ms, mm_mf, true_and, and_true, false_and, and_false, if_true, if_false, ite_true, ite_false, forall_eq, true_or, or_true, show a (78 + 6 * k) = x from cx]
            exact yes (by unfold nxp; rw [decide_eq_true c5, decide_eq_true (show l ≤ mdV a k by omega), decide_eq_true cx]; rfl)
          · simp (disch := first | exact lt4 (hb _) | exact hb _ | omega) only [I_0, I_1, I_2, I_3, I_4, I_5, I_6, I_7, I_8, I_9, I_10, I_11, I_12, I_20, I_22, I_27, I_31, I_32, I_38, I_42, I_48, I_54, I_55, I_56, I_57, I_60, I_66, I_72, I_78, I_80, I_97, I_98, I_99, I_100, I_108, I_109, I_116, I_120, I_438, I_488, I_512, I_552, I_3864, oN_s, oN_n, bI_t, bI_f, Nat.add_zero, I_bt1, I_bt0, Nat.reduceLT, Nat.reduceLeDiff, Nat.reduceEqDiff, Nat.reduceAdd, Nat.reduceMul, Nat.reduceSub, tn_I, I_add, I_mul, I_div, vp_I, I_eq, I_le, I_lt, I_no, no_I, negI1, kd7, rf71, kdS, lnS, mm_sa, mm_fa, mm_ms, mm_mf, true_and, and_true, false_and, and_false, if_true, if_false, ite_true, ite_false, forall_eq, true_or, or_true, show ¬ a (78 + 6 * k) = x from cx]
            exact no (by unfold nxp; rw [decide_eq_false cx, Bool.and_false, Bool.and_false])
    · rw [if_neg c5]
      exact no (by unfold nxp; rw [decide_eq_false c5, Bool.false_and])
theorem m_next {Q : Int32 → Mem → Prop} (hV : VA a) {c x l : Nat} {v1 v2 : Int32} (hcr : (v1 = NO ∧ v2 = I x ∧ c = 4) ∨ (v1 = I x ∧ c = 0)) (hx : x < 4096) (hl : l < 100000) (h : Q (oN (nx a c x l)) (mm M a f)) : T_X7_nextOf Q 1582 v1 v2 (bL l) (mm M a f) := by
  unfold T_X7_nextOf
  rw [I_0, I_1]
  exact ⟨_, m_next_l hV hcr hx hl h (a 4) 0 (by omega)⟩
end Nx1

