/-! ===== THE BOOKED VISITS IN THEIR ORDER ===== -/
section Ne1
variable {M : Mem} {a : Nat → Nat} {f : Nat → Int32} {Q : Int32 → Mem → Prop} {X : String → Mem → Prop}
def bk (a : Nat → Nat) (v : Nat) : Bool := decide (a (78 + 6 * v + 5) = 0)
def rkb (a : Nat → Nat) (v : Nat) : Nat := rk (kyP (keyV a) (bk a)) (a 4) v
def nxF (a : Nat → Nat) (p : Int32) : Option Nat := fnd (fun v => bk a v && decide (I (rkb a v) = p)) (a 4) 0
theorem keyV_lt (hV : VA a) (v : Nat) : keyV a v < 1000000 := by
  unfold keyV
  have q2 := hV.1 (78 + 6 * v + 2)
  have q3 := hV.1 (78 + 6 * v + 3)
  have q4 := hV.1 (78 + 6 * v + 4)
  omega
theorem keyV_inj (hG : GS a) : ∀ x y, x < a 4 → y < a 4 → bk a x = true → bk a y = true → keyV a x = keyV a y → x = y := by
  intro x y hx hy h1 h2 h
  have hV := hG.1
  have h3 := hV.2.1.2.2.2.1
  have b1 := hV.2.2.2.2.2.1 x hx
  have b2 := hV.2.2.2.2.2.1 y hy
  unfold bk at h1 h2
  unfold keyV at h
  by_cases c : x = y
  · exact c
  · exfalso
    exact (hG.2.1 x y hx hy c (of_decide_eq_true h1) (of_decide_eq_true h2) (by omega) (by omega)).2 (by omega)
theorem rkb_bd (hV : VA a) {v : Nat} (hv : v < a 4) : rkb a v < 60 := by
  have := rk_bd (key := kyP (keyV a) (bk a)) hv
  have := hV.2.1.2.2.2.2.1
  unfold rkb
  omega
theorem nxF_s (hG : GS a) {p : Int32} {v : Nat} (hv : v < a 4) (hb : bk a v = true) (hp : I (rkb a v) = p) : nxF a p = some v := by
  refine fnd_s (Nat.zero_le _) (by omega) (by rw [hb, decide_eq_true hp]; rfl) (fun q z1 z2 => ?_)
  by_cases c : bk a q = true
  · by_cases c2 : I (rkb a q) = p
    · exfalso
      have r1 := rkb_bd hG.1 hv
      have r2 := rkb_bd hG.1 (v := q) (by omega)
      rw [← hp, I_eq (by omega) (by omega)] at c2
      have := rk_inj (kyP_inj (keyV_inj hG) (keyV_lt hG.1)) (show q < a 4 by omega) hv c2
      omega
    · rw [decide_eq_false c2, Bool.and_false]
  · rw [Bool.eq_false_iff.mpr c, Bool.false_and]
theorem nxF_n {p : Int32} (h : ∀ v, v < a 4 → bk a v = true → I (rkb a v) ≠ p) : nxF a p = none := by
  refine fnd_n (fun q z1 z2 => ?_)
  by_cases c : bk a q = true
  · rw [decide_eq_false (h q (by omega) c), Bool.and_false]
  · rw [Bool.eq_false_iff.mpr c, Bool.false_and]
/-- what next answers -/
def rs_next (a : Nat → Nat) (p : Int32) : Nat × Int32 := match nxF a p with
  | some v => (0, I v)
  | none => (1, I 0)
theorem m_time (hb : ∀ k, a k < 4096) {v : Nat} (hv : v < 60) : T_X7_timeOf Q 1582 (I v) (mm M a f) = Q (I (keyV a v)) (mm M a f) := by
  unfold T_X7_timeOf
  simp (disch := first | exact lt4 (hb _) | exact hb _ | omega) only [I_0, I_1, I_2, I_3, I_4, I_5, I_6, I_7, I_8, I_9, I_10, I_11, I_12, I_20, I_22, I_27, I_31, I_32, I_38, I_42, I_48, I_54, I_55, I_56, I_57, I_60, I_66, I_72, I_78, I_80, I_97, I_98, I_99, I_100, I_108, I_109, I_116, I_120, I_438, I_488, I_512, I_552, I_3864, oN_s, oN_n, bI_t, bI_f, Nat.add_zero, I_bt1, I_bt0, Nat.reduceLT, Nat.reduceLeDiff, Nat.reduceEqDiff, Nat.reduceAdd, Nat.reduceMul, Nat.reduceSub, tn_I, I_add, I_mul, I_div, vp_I, I_eq, I_le, I_lt, I_no, no_I, negI1, kd7, rf71, kdS, lnS, mm_sa, mm_fa, mm_ms, mm_mf, true_and, and_true, false_and, and_false, if_true, if_false, ite_true, ite_false, forall_eq, true_or, or_true, m_of hb hv]
  rw [show 6 * (4 * a (78 + 6 * v + 2) + a (78 + 6 * v + 3)) + a (78 + 6 * v + 4) = keyV a v by unfold keyV; omega]
theorem m_nx_i (hG : GS a) {κ : Nat → Int32 → Int32 → Mem → Prop} {p : Int32} {v : Nat} (hv : v < a 4) (h1 : bk a v = true → I (rkb a v) = p → Q (I v) (mm M a f)) (h2 : (bk a v = true → I (rkb a v) ≠ p) → κ 1582 p (I (v + 1)) (mm M a f)) :
    ∀ m k, k + m = a 4 → T_X7_next_22 κ Q (m + 1) 1582 p (I v) (I (sm (fun w => if bk a w = true ∧ keyV a w < keyV a v then 1 else 0) k)) (I k) (mm M a f) := by
  have hV := hG.1
  have hb := hV.1
  have h4 := hV.2.1.2.2.2.2.1
  have hv60 : v < 60 := by omega
  intro m
  induction m with
  | zero =>
    intro k hk
    obtain rfl : k = a 4 := by omega
    unfold T_X7_next_22 T_X7_next_85
    by_cases c5 : a (78 + 6 * v + 5) = 0
    · have cb : bk a v = true := decide_eq_true c5
      have e : sm (fun w => if bk a w = true ∧ keyV a w < keyV a v then 1 else 0) (a 4) = rkb a v := by
        refine sm_cg (fun w hw => ?_)
        try dsimp only
        have := keyV_lt hV v
        rw [kyP_t cb]
        by_cases c : bk a w = true
        · rw [kyP_t c]
          by_cases c2 : keyV a w < keyV a v
          · rw [if_pos ⟨c, c2⟩, if_pos c2]
          · rw [if_neg (fun z => c2 z.2), if_neg c2]
        · rw [kyP_f c, if_neg (fun z => c z.1), if_neg (by omega)]
      have hr := rkb_bd hV hv
      by_cases cp : I (rkb a v) = p
      · simp (disch := first | exact lt4 (hb _) | exact hb _ | omega) only [I_0, I_1, I_2, I_3, I_4, I_5, I_6, I_7, I_8, I_9, I_10, I_11, I_12, I_20, I_22, I_27, I_31, I_32, I_38, I_42, I_48, I_54, I_55, I_56, I_57, I_60, I_66, I_72, I_78, I_80, I_97, I_98, I_99, I_100, I_108, I_109, I_116, I_120, I_438, I_488, I_512, I_552, I_3864, oN_s, oN_n, bI_t, bI_f, Nat.add_zero, I_bt1, I_bt0, Nat.reduceLT, Nat.reduceLeDiff, Nat.reduceEqDiff, Nat.reduceAdd, Nat.reduceMul, Nat.reduceSub, tn_I, I_add, I_mul, I_div, vp_I, I_eq, I_le, I_lt, I_no, no_I, negI1, kd7, rf71, kdS, lnS, mm_sa, mm_fa, mm_ms, mm_mf, true_and, and_true, false_and, and_false, if_true, if_false, ite_true, ite_false, forall_eq, true_or, or_true, show a 4 ≤ a 4 from Nat.le_refl _, m_isBooked hb hv60, c5, e, cp]
        exact h1 cb cp
      · simp (disch := first | exact lt4 (hb _) | exact hb _ | omega) only [I_0, I_1, I_2, I_3, I_4, I_5, I_6, I_7, I_8, I_9, I_10, I_11, I_12, I_20, I_22, I_27, I_31, I_32, I_38, I_42, I_48, I_54, I_55, I_56, I_57, I_60, I_66, I_72, I_78, I_80, I_97, I_98, I_99, I_100, I_108, I_109, I_116, I_120, I_438, I_488, I_512, I_552, I_3864, oN_s, oN_n, bI_t, bI_f, Nat.add_zero, I_bt1, I_bt0, Nat.reduceLT, Nat.reduceLeDiff, Nat.reduceEqDiff, Nat.reduceAdd, Nat.reduceMul, Nat.reduceSub, tn_I, I_add, I_mul, I_div, vp_I, I_eq, I_le, I_lt, I_no, no_I, negI1, kd7, rf71, kdS, lnS, mm_sa, mm_fa, mm_ms, mm_mf, true_and, and_true, false_and, and_false, if_true, if_false, ite_true, ite_false, forall_eq, true_or, or_true, show a 4 ≤ a 4 from Nat.le_refl _, m_isBooked hb hv60, c5, e, cp]
        exact h2 (fun _ => cp)
    · simp (disch := first | exact lt4 (hb _) | exact hb _ | omega) only [I_0, I_1, I_2, I_3, I_4, I_5, I_6, I_7, I_8, I_9, I_10, I_11, I_12, I_20, I_22, I_27, I_31, I_32, I_38, I_42, I_48, I_54, I_55, I_56, I_57, I_60, I_66, I_72, I_78, I_80, I_97, I_98, I_99, I_100, I_108, I_109, I_116, I_120, I_438, I_488, I_512, I_552, I_3864, oN_s, oN_n, bI_t, bI_f, Nat.add_zero, I_bt1, I_bt0, Nat.reduceLT, Nat.reduceLeDiff, Nat.reduceEqDiff, Nat.reduceAdd, Nat.reduceMul, Nat.reduceSub, tn_I, I_add, I_mul, I_div, vp_I, I_eq, I_le, I_lt, I_no, no_I, negI1, kd7, rf71, kdS, lnS, mm_sa, mm_fa, mm_ms, mm_mf, true_and, and_true, false_and, and_false, if_true, if_false, ite_true, ite_false, forall_eq, true_or, or_true, show a 4 ≤ a 4 from Nat.le_refl _, m_isBooked hb hv60, c5]
      exact h2 (fun z => absurd (of_decide_eq_true z) c5)
  | succ m ih =>
    intro k hk
    have hk60 : k < 60 := by omega
    have e := ih (k + 1) (by omega)
    rw [sm_s] at e
    have l1 := keyV_lt hV v
    have l2 := keyV_lt hV k
    unfold T_X7_next_22 T_X7_next_61 T_X7_next_62
    by_cases c5 : a (78 + 6 * k + 5) = 0
    · have cb : bk a k = true := decide_eq_true c5
      by_cases c2 : keyV a k < keyV a v
      · rw [if_pos ⟨cb, c2⟩] at e
        simp (disch := first | exact lt4 (hb _) | exact hb _ | omega) only [I_0, I_1, I_2, I_3, I_4, I_5, I_6, I_7, I_8, I_9, I_10, I_11, I_12, I_20, I_22, I_27, I_31, I_32, I_38, I_42, I_48, I_54, I_55, I_56, I_57, I_60, I_66, I_72, I_78, I_80, I_97, I_98, I_99, I_100, I_108, I_109, I_116, I_120, I_438, I_488, I_512, I_552, I_3864, oN_s, oN_n, bI_t, bI_f, Nat.add_zero, I_bt1, I_bt0, Nat.reduceLT, Nat.reduceLeDiff, Nat.reduceEqDiff, Nat.reduceAdd, Nat.reduceMul, Nat.reduceSub, tn_I, I_add, I_mul, I_div, vp_I, I_eq, I_le, I_lt, I_no, no_I, negI1, kd7, rf71, kdS, lnS, mm_sa, mm_fa, mm_ms, mm_mf, true_and, and_true, false_and, and_false, if_true, if_false, ite_true, ite_false, forall_eq, true_or, or_true, show ¬ a 4 ≤ k by omega, m_isBooked hb hk60, c5, m_time hb hk60, m_time hb hv60, show ¬ keyV a v ≤ keyV a k by omega, show keyV a v < 2147483648 by omega, show keyV a k < 2147483648 by omega]
        exact e
      · rw [if_neg (fun z => c2 z.2), Nat.add_zero] at e
        simp (disch := first | exact lt4 (hb _) | exact hb _ | omega) only [I_0, I_1, I_2, I_3, I_4, I_5, I_6, I_7, I_8, I_9, I_10, I_11, I_12, I_20, I_22, I_27, I_31, I_32, I_38, I_42, I_48, I_54, I_55, I_56, I_57, I_60, I_66, I_72, I_78, I_80, I_97, I_98, I_99, I_100, I_108, I_109, I_116, I_120, I_438, I_488, I_512, I_552, I_3864, oN_s, oN_n, bI_t, bI_f, Nat.add_zero, I_bt1, I_bt0, Nat.reduceLT, Nat.reduceLeDiff, Nat.reduceEqDiff, Nat.reduceAdd, Nat.reduceMul, Nat.reduceSub, tn_I, I_add, I_mul, I_div, vp_I, I_eq, I_le, I_lt, I_no, no_I, negI1, kd7, rf71, kdS, lnS, mm_sa, mm_fa, mm_ms, mm_mf, true_and, and_true, false_and, and_false, if_true, if_false, ite_true, ite_false, forall_eq, true_or, or_true, show ¬ a 4 ≤ k by omega, m_isBooked hb hk60, c5, m_time hb hk60, m_time hb hv60, show keyV a v ≤ keyV a k by omega, show keyV a v < 2147483648 by omega, show keyV a k < 2147483648 by omega]
        exact e
    · rw [if_neg (fun z => absurd (of_decide_eq_true z.1) c5), Nat.add_zero] at e
      simp (disch := first | exact lt4 (hb _) | exact hb _ | omega) only [I_0, I_1, I_2, I_3, I_4, I_5, I_6, I_7, I_8, I_9, I_10, I_11, I_12, I_20, I_22, I_27, I_31, I_32, I_38, I_42, I_48, I_54, I_55, I_56, I_57, I_60, I_66, I_72, I_78, I_80, I_97, I_98, I_99, I_100, I_108, I_109, I_116, I_120, I_438, I_488, I_512, I_552, I_3864, oN_s, oN_n, bI_t, bI_f, Nat.add_zero, I_bt1, I_bt0, Nat.reduceLT, Nat.reduceLeDiff, Nat.reduceEqDiff, Nat.reduceAdd, Nat.reduceMul, Nat.reduceSub, tn_I, I_add, I_mul, I_div, vp_I, I_eq, I_le, I_lt, I_no, no_I, negI1, kd7, rf71, kdS, lnS, mm_sa, mm_fa, mm_ms, mm_mf, true_and, and_true, false_and, and_false, if_true, if_false, ite_true, ite_false, forall_eq, true_or, or_true, show ¬ a 4 ≤ k by omega, m_isBooked hb hk60, c5]
      exact e
theorem m_nx_o (hG : GS a) {p : Int32} (h1 : ∀ v, v < a 4 → bk a v = true → I (rkb a v) = p → Q (I v) (mm M a f)) (h2 : (∀ v, v < a 4 → bk a v = true → I (rkb a v) ≠ p) → Q (I 0) (mm M a (updI f 0 (I 1)))) :
    ∀ m v, v + m = a 4 → (∀ w, w < v → bk a w = true → I (rkb a w) ≠ p) → T_X7_next_7 Q (m + 1) 1582 p (I v) (mm M a f) := by
  have hV := hG.1
  have hb := hV.1
  have h4 := hV.2.1.2.2.2.2.1
  intro m
  induction m with
  | zero =>
    intro v hv hw
    obtain rfl : v = a 4 := by omega
    unfold T_X7_next_7
    simp (disch := first | exact lt4 (hb _) | exact hb _ | omega) only [I_0, I_1, I_2, I_3, I_4, I_5, I_6, I_7, I_8, I_9, I_10, I_11, I_12, I_20, I_22, I_27, I_31, I_32, I_38, I_42, I_48, I_54, I_55, I_56, I_57, I_60, I_66, I_72, I_78, I_80, I_97, I_98, I_99, I_100, I_108, I_109, I_116, I_120, I_438, I_488, I_512, I_552, I_3864, oN_s, oN_n, bI_t, bI_f, Nat.add_zero, I_bt1, I_bt0, Nat.reduceLT, Nat.reduceLeDiff, Nat.reduceEqDiff, Nat.reduceAdd, Nat.reduceMul, Nat.reduceSub, tn_I, I_add, I_mul, I_div, vp_I, I_eq, I_le, I_lt, I_no, no_I, negI1, kd7, rf71, kdS, lnS, mm_sa, mm_fa, mm_ms, mm_mf, true_and, and_true, false_and, and_false, if_true, if_false, ite_true, ite_false, forall_eq, true_or, or_true, show a 4 ≤ a 4 from Nat.le_refl _, m_fails]
    exact h2 hw
  | succ m ih =>
    intro v hv hw
    unfold T_X7_next_7
    simp (disch := first | exact lt4 (hb _) | exact hb _ | omega) only [I_0, I_1, I_2, I_3, I_4, I_5, I_6, I_7, I_8, I_9, I_10, I_11, I_12, I_20, I_22, I_27, I_31, I_32, I_38, I_42, I_48, I_54, I_55, I_56, I_57, I_60, I_66, I_72, I_78, I_80, I_97, I_98, I_99, I_100, I_108, I_109, I_116, I_120, I_438, I_488, I_512, I_552, I_3864, oN_s, oN_n, bI_t, bI_f, Nat.add_zero, I_bt1, I_bt0, Nat.reduceLT, Nat.reduceLeDiff, Nat.reduceEqDiff, Nat.reduceAdd, Nat.reduceMul, Nat.reduceSub, tn_I, I_add, I_mul, I_div, vp_I, I_eq, I_le, I_lt, I_no, no_I, negI1, kd7, rf71, kdS, lnS, mm_sa, mm_fa, mm_ms, mm_mf, true_and, and_true, false_and, and_false, if_true, if_false, ite_true, ite_false, forall_eq, true_or, or_true, show ¬ a 4 ≤ v by omega]
    exact ⟨_, m_nx_i hG (by omega) (h1 v (by omega)) (fun z => ih (v + 1) (by omega) (fun w g1 g2 => by
      by_cases q : w = v
      · subst q; exact z g2
      · exact hw w (by omega) g2)) (a 4) 0 (by omega)⟩
theorem m_nextc (hG : GS a) {p : Int32} (h : ∀ f' : Nat → Int32, f' 0 = I (rs_next a p).1 → (∀ j, j ≠ 0 → f' j = f j) → Q (rs_next a p).2 (mm M a f')) : T_X7_next Q 1582 p (mm M a f) := by
  have hV := hG.1
  have hb := hV.1
  unfold T_X7_next
  simp (disch := first | exact lt4 (hb _) | exact hb _ | omega) only [I_0, I_1, I_2, I_3, I_4, I_5, I_6, I_7, I_8, I_9, I_10, I_11, I_12, I_20, I_22, I_27, I_31, I_32, I_38, I_42, I_48, I_54, I_55, I_56, I_57, I_60, I_66, I_72, I_78, I_80, I_97, I_98, I_99, I_100, I_108, I_109, I_116, I_120, I_438, I_488, I_512, I_552, I_3864, oN_s, oN_n, bI_t, bI_f, Nat.add_zero, I_bt1, I_bt0, Nat.reduceLT, Nat.reduceLeDiff, Nat.reduceEqDiff, Nat.reduceAdd, Nat.reduceMul, Nat.reduceSub, tn_I, I_add, I_mul, I_div, vp_I, I_eq, I_le, I_lt, I_no, no_I, negI1, kd7, rf71, kdS, lnS, mm_sa, mm_fa, mm_ms, mm_mf, true_and, and_true, false_and, and_false, if_true, if_false, ite_true, ite_false, forall_eq, true_or, or_true]
  refine ⟨_, m_nx_o hG (fun v hv h1 h2 => ?_) (fun h1 => ?_) (a 4) 0 (by omega) (fun w hw => by omega)⟩
  · have e := nxF_s hG hv h1 h2
    unfold rs_next at h
    rw [e] at h
    exact h _ updI_s (fun j hj => updI_n hj)
  · have e := nxF_n h1
    unfold rs_next at h
    rw [e] at h
    exact h _ updI_s (fun j hj => by rw [updI_n hj, updI_n hj])
end Ne1

