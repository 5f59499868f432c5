/-! ===== A PAIR IS PARTED: the reference ===== -/
section Pt1
variable {M : Mem} {a : Nat → Nat} {f : Nat → Int32}
/-- the visit that is cancelled at a moment for a ban of a pair -/
def pcl (a : Nat → Nat) (x y t : Nat) : Option Nat := match visO a x (t / 4) (t % 4) with
  | none => none
  | some v => match visO a y (t / 4) (t % 4) with
    | none => none
    | some w => if ad (a (54 + a (78 + 6 * v + 4))) (a (54 + a (78 + 6 * w + 4))) < 2 then some (if v ≤ w then w else v) else none
def pts (x y : Nat) : Nat → (Nat → Nat) → Nat → Nat → (Nat → Nat) × Nat
  | 0, a, _, c => (a, c)
  | m + 1, a, t, c => match pcl a x y t with
    | none => pts x y m a (t + 1) c
    | some u => pts x y m (cnl a u 1) (t + 1) (c + 1)
theorem pts_n {x y m t c : Nat} (h : pcl a x y t = none) : pts x y (m + 1) a t c = pts x y m a (t + 1) c := by
  rw [show pts x y (m + 1) a t c = (match pcl a x y t with | none => pts x y m a (t + 1) c | some u => pts x y m (cnl a u 1) (t + 1) (c + 1)) from rfl, h]
theorem pts_s {x y m t c u : Nat} (h : pcl a x y t = some u) : pts x y (m + 1) a t c = pts x y m (cnl a u 1) (t + 1) (c + 1) := by
  rw [show pts x y (m + 1) a t c = (match pcl a x y t with | none => pts x y m a (t + 1) c | some u => pts x y m (cnl a u 1) (t + 1) (c + 1)) from rfl, h]
theorem visO_sp {i d t v : Nat} (h : visO a i d t = some v) : v < a 4 ∧ isI3 a v d t ∧ a (78 + 6 * v) = i := by
  have q := fnd_sp h
  have q2 := q.2.2.1
  simp only [Bool.and_eq_true, decide_eq_true_eq] at q2
  exact ⟨by omega, q2.1, q2.2⟩
theorem pcl_sp {x y t u : Nat} (h : pcl a x y t = some u) : u < a 4 ∧ isI3 a u (t / 4) (t % 4) := by
  unfold pcl at h
  cases hv : visO a x (t / 4) (t % 4) with
  | none => rw [hv] at h; cases h
  | some v =>
    rw [hv] at h
    simp only [] at h
    cases hw : visO a y (t / 4) (t % 4) with
    | none => rw [hw] at h; cases h
    | some w =>
      rw [hw] at h
      simp only [] at h
      have h1 := visO_sp hv
      have h2 := visO_sp hw
      by_cases c : ad (a (54 + a (78 + 6 * v + 4))) (a (54 + a (78 + 6 * w + 4))) < 2
      · rw [if_pos c] at h
        cases h
        by_cases c2 : v ≤ w
        · rw [if_pos c2]; exact ⟨h2.1, h2.2.1⟩
        · rw [if_neg c2]; exact ⟨h1.1, h1.2.1⟩
      · rw [if_neg c] at h; cases h
theorem pts_GS {x y : Nat} : ∀ (m : Nat) (a : Nat → Nat) (t c : Nat), GS a → GS (pts x y m a t c).1
  | 0, _, _, _, h => h
  | m + 1, a, t, c, h => by
    cases hq : pcl a x y t with
    | none => rw [pts_n hq]; exact pts_GS m _ _ _ h
    | some u => rw [pts_s hq]; exact pts_GS m _ _ _ (GS_cnl h (by have := (pcl_sp hq).1; have := h.1.2.1.2.2.2.2.1; omega) (by decide))
theorem m_parts_l {Q : Int32 → Mem → Prop} {x y l : Nat} (hx : x < 4096) (hy : y < 4096) (hl : l < 1000) : ∀ (m : Nat) (a : Nat → Nat) (t c : Nat) (f : Nat → Int32), GS a → t + m = 4 * l + 4 →
    (∀ f' : Nat → Int32, (∀ j, j ≠ 12 → f' j = f j) → Q (I (pts x y m a t c).2) (mm M (pts x y m a t c).1 f')) → T_X7_parts_8 Q (m + 1) 1582 (I x) (I y) (I l) (I c) (I t) (mm M a f) := by
  intro m
  induction m with
  | zero =>
    intro a t c f hG ht h
    unfold T_X7_parts_8
    simp (disch := first | exact lt4 (hb _) | exact hb _ | omega) only [I_0, I_1, I_2, I_3, I_4, I_5, I_6, I_7, I_8, I_9, I_10, I_11, I_12, I_20, I_22, I_27, I_31, I_32, I_38, I_42, I_48, I_54, I_55, I_56, I_57, I_60, I_66, I_72, I_78, I_80, I_97, I_98, I_99, I_100, I_108, I_109, I_116, I_120, I_438, I_488, I_512, I_552, I_3864, oN_s, oN_n, bI_t, bI_f, Nat.add_zero, I_bt1, I_bt0, Nat.reduceLT, Nat.reduceLeDiff, Nat.reduceEqDiff, Nat.reduceAdd, Nat.reduceMul, Nat.reduceSub, tn_I, I_add, I_mul, I_div, vp_I, I_eq, I_le, I_lt, I_no, no_I, negI1, kd7, rf71, kdS, lnS, mm_sa, mm_fa, mm_ms, mm_mf, true_and, and_true, false_and, and_false, if_true, if_false, ite_true, ite_false, forall_eq, true_or, or_true, show 4 * l + 4 ≤ t by omega]
    exact h f (fun _ _ => rfl)
  | succ m ih =>
    intro a t c f hG ht h
    have hV := hG.1
    have hb := hG.1.1
    have h4 := hG.1.2.1.2.2.2.2.1
    have h3 := hG.1.2.1.2.2.2.1
    have hq : I t - I (t / 4 * 4) = I (t % 4) := by rw [I_sub (by omega), show t - t / 4 * 4 = t % 4 by omega]
    unfold T_X7_parts_8 T_X7_parts_121
    simp (disch := first | exact lt4 (hb _) | exact hb _ | omega) only [I_0, I_1, I_2, I_3, I_4, I_5, I_6, I_7, I_8, I_9, I_10, I_11, I_12, I_20, I_22, I_27, I_31, I_32, I_38, I_42, I_48, I_54, I_55, I_56, I_57, I_60, I_66, I_72, I_78, I_80, I_97, I_98, I_99, I_100, I_108, I_109, I_116, I_120, I_438, I_488, I_512, I_552, I_3864, oN_s, oN_n, bI_t, bI_f, Nat.add_zero, I_bt1, I_bt0, Nat.reduceLT, Nat.reduceLeDiff, Nat.reduceEqDiff, Nat.reduceAdd, Nat.reduceMul, Nat.reduceSub, tn_I, I_add, I_mul, I_div, vp_I, I_eq, I_le, I_lt, I_no, no_I, negI1, kd7, rf71, kdS, lnS, mm_sa, mm_fa, mm_ms, mm_mf, true_and, and_true, false_and, and_false, if_true, if_false, ite_true, ite_false, forall_eq, true_or, or_true, show ¬ 4 * l + 4 ≤ t by omega, hq]
    refine m_visO hV hx (by omega) (by omega) ?_
    refine m_visO hV hy (by omega) (by omega) ?_
    cases hv : visO a x (t / 4) (t % 4) with
    | none =>
      have hp : pcl a x y t = none := by unfold pcl; rw [hv]
      rw [pts_n hp] at h
      simp (disch := first | exact lt4 (hb _) | exact hb _ | omega) only [I_0, I_1, I_2, I_3, I_4, I_5, I_6, I_7, I_8, I_9, I_10, I_11, I_12, I_20, I_22, I_27, I_31, I_32, I_38, I_42, I_48, I_54, I_55, I_56, I_57, I_60, I_66, I_72, I_78, I_80, I_97, I_98, I_99, I_100, I_108, I_109, I_116, I_120, I_438, I_488, I_512, I_552, I_3864, oN_s, oN_n, bI_t, bI_f, Nat.add_zero, I_bt1, I_bt0, Nat.reduceLT, Nat.reduceLeDiff, Nat.reduceEqDiff, Nat.reduceAdd, Nat.reduceMul, Nat.reduceSub, tn_I, I_add, I_mul, I_div, vp_I, I_eq, I_le, I_lt, I_no, no_I, negI1, kd7, rf71, kdS, lnS, mm_sa, mm_fa, mm_ms, mm_mf, true_and, and_true, false_and, and_false, if_true, if_false, ite_true, ite_false, forall_eq, true_or, or_true]
      exact ih a (t + 1) c f hG (by omega) h
    | some v =>
      have h1 := visO_sp hv
      have hv60 : v < 60 := by omega
      cases hw : visO a y (t / 4) (t % 4) with
      | none =>
        have hp : pcl a x y t = none := by unfold pcl; rw [hv, hw]
        rw [pts_n hp] at h
        simp (disch := first | exact lt4 (hb _) | exact hb _ | omega) only [I_0, I_1, I_2, I_3, I_4, I_5, I_6, I_7, I_8, I_9, I_10, I_11, I_12, I_20, I_22, I_27, I_31, I_32, I_38, I_42, I_48, I_54, I_55, I_56, I_57, I_60, I_66, I_72, I_78, I_80, I_97, I_98, I_99, I_100, I_108, I_109, I_116, I_120, I_438, I_488, I_512, I_552, I_3864, oN_s, oN_n, bI_t, bI_f, Nat.add_zero, I_bt1, I_bt0, Nat.reduceLT, Nat.reduceLeDiff, Nat.reduceEqDiff, Nat.reduceAdd, Nat.reduceMul, Nat.reduceSub, tn_I, I_add, I_mul, I_div, vp_I, I_eq, I_le, I_lt, I_no, no_I, negI1, kd7, rf71, kdS, lnS, mm_sa, mm_fa, mm_ms, mm_mf, true_and, and_true, false_and, and_false, if_true, if_false, ite_true, ite_false, forall_eq, true_or, or_true]
        exact ih a (t + 1) c f hG (by omega) h
      | some w =>
        have h2 := visO_sp hw
        have hw60 : w < 60 := by omega
        have r1 := (hV.2.2.2.2.2.1 v h1.1).2.2.2.2.1
        have r2 := (hV.2.2.2.2.2.1 w h2.1).2.2.2.2.1
        have hpe : pcl a x y t = if ad (a (54 + a (78 + 6 * v + 4))) (a (54 + a (78 + 6 * w + 4))) < 2 then some (if v ≤ w then w else v) else none := by unfold pcl; rw [hv, hw]
        simp (disch := first | exact lt4 (hb _) | exact hb _ | omega) only [I_0, I_1, I_2, I_3, I_4, I_5, I_6, I_7, I_8, I_9, I_10, I_11, I_12, I_20, I_22, I_27, I_31, I_32, I_38, I_42, I_48, I_54, I_55, I_56, I_57, I_60, I_66, I_72, I_78, I_80, I_97, I_98, I_99, I_100, I_108, I_109, I_116, I_120, I_438, I_488, I_512, I_552, I_3864, oN_s, oN_n, bI_t, bI_f, Nat.add_zero, I_bt1, I_bt0, Nat.reduceLT, Nat.reduceLeDiff, Nat.reduceEqDiff, Nat.reduceAdd, Nat.reduceMul, Nat.reduceSub, tn_I, I_add, I_mul, I_div, vp_I, I_eq, I_le, I_lt, I_no, no_I, negI1, kd7, rf71, kdS, lnS, mm_sa, mm_fa, mm_ms, mm_mf, true_and, and_true, false_and, and_false, if_true, if_false, ite_true, ite_false, forall_eq, true_or, or_true, m_of hb hv60, m_of hb hw60, show 54 + a (78 + 6 * v + 4) < 552 by omega, show 54 + a (78 + 6 * w + 4) < 552 by omega, m_size]
        have had : ad (a (54 + a (78 + 6 * v + 4))) (a (54 + a (78 + 6 * w + 4))) < 100000 := by
          have e1 := hb (54 + a (78 + 6 * v + 4))
          have e2 := hb (54 + a (78 + 6 * w + 4))
          unfold ad
          omega
        by_cases c1 : ad (a (54 + a (78 + 6 * v + 4))) (a (54 + a (78 + 6 * w + 4))) < 2
        · rw [if_pos c1] at hpe
          rw [pts_s hpe] at h
          rw [if_neg (by rw [I_le (by decide) (by omega)]; omega)]
          unfold T_X7_parts_114 T_X7_parts_121
          have fin : ∀ u : Nat, u < 60 → (∀ f' : Nat → Int32, (∀ j, j ≠ 12 → f' j = f j) → Q (I (pts x y m (cnl a u 1) (t + 1) (c + 1)).2) (mm M (pts x y m (cnl a u 1) (t + 1) (c + 1)).1 f')) → T_X7_cancels (fun M2 => T_X7_parts_8 Q (m + 1) 1582 (I x) (I y) (I l) (I (c + 1)) (I (t + 1)) M2) 1582 (I u) (I 1) (mm M a f) := by
            intro u hu hh
            refine m_cancels hb hV.2.1.2.2.2.2.2.2.2.1 hu ?_
            exact ih (cnl a u 1) (t + 1) (c + 1) _ (GS_cnl hG hu (by decide)) (by omega) (fun f' q => hh f' (fun j hj => by rw [q j hj, updI_n hj]))
          by_cases c2 : v ≤ w
          · rw [if_pos c2] at h
            simp (disch := first | exact lt4 (hb _) | exact hb _ | omega) only [I_0, I_1, I_2, I_3, I_4, I_5, I_6, I_7, I_8, I_9, I_10, I_11, I_12, I_20, I_22, I_27, I_31, I_32, I_38, I_42, I_48, I_54, I_55, I_56, I_57, I_60, I_66, I_72, I_78, I_80, I_97, I_98, I_99, I_100, I_108, I_109, I_116, I_120, I_438, I_488, I_512, I_552, I_3864, oN_s, oN_n, bI_t, bI_f, Nat.add_zero, I_bt1, I_bt0, Nat.reduceLT, Nat.reduceLeDiff, Nat.reduceEqDiff, Nat.reduceAdd, Nat.reduceMul, Nat.reduceSub, tn_I, I_add, I_mul, I_div, vp_I, I_eq, I_le, I_lt, I_no, no_I, negI1, kd7, rf71, kdS, lnS, mm_sa, mm_fa, mm_ms, mm_mf, true_and, and_true, false_and, and_false, if_true, if_false, ite_true, ite_false, forall_eq, true_or, or_true, c2]
            exact fin w hw60 h
          · rw [if_neg c2] at h
            simp (disch := first | exact lt4 (hb _) | exact hb _ | omega) only [I_0, I_1, I_2, I_3, I_4, I_5, I_6, I_7, I_8, I_9, I_10, I_11, I_12, I_20, I_22, I_27, I_31, I_32, I_38, I_42, I_48, I_54, I_55, I_56, I_57, I_60, I_66, I_72, I_78, I_80, I_97, I_98, I_99, I_100, I_108, I_109, I_116, I_120, I_438, I_488, I_512, I_552, I_3864, oN_s, oN_n, bI_t, bI_f, Nat.add_zero, I_bt1, I_bt0, Nat.reduceLT, Nat.reduceLeDiff, Nat.reduceEqDiff, Nat.reduceAdd, Nat.reduceMul, Nat.reduceSub, tn_I, I_add, I_mul, I_div, vp_I, I_eq, I_le, I_lt, I_no, no_I, negI1, kd7, rf71, kdS, lnS, mm_sa, mm_fa, mm_ms, mm_mf, true_and, and_true, false_and, and_false, if_true, if_false, ite_true, ite_false, forall_eq, true_or, or_true, c2]
            exact fin v hv60 h
        · rw [if_neg c1] at hpe
          rw [pts_n hpe] at h
          rw [if_pos (by rw [I_le (by decide) (by omega)]; omega)]
          exact ih a (t + 1) c f hG (by omega) h
theorem m_parts {Q : Int32 → Mem → Prop} {x y k l : Nat} (hG : GS a) (hx : x < 4096) (hy : y < 4096) (hkl : k ≤ l) (hl : l < 1000)
    (h : ∀ f' : Nat → Int32, (∀ j, j ≠ 12 → f' j = f j) → Q (I (pts x y (4 * l + 4 - 4 * k) a (4 * k) 0).2) (mm M (pts x y (4 * l + 4 - 4 * k) a (4 * k) 0).1 f')) : T_X7_parts Q 1582 (I x) (I y) (I k) (I l) (mm M a f) := by
  unfold T_X7_parts
  simp (disch := first | exact lt4 (hb _) | exact hb _ | omega) only [I_0, I_1, I_2, I_3, I_4, I_5, I_6, I_7, I_8, I_9, I_10, I_11, I_12, I_20, I_22, I_27, I_31, I_32, I_38, I_42, I_48, I_54, I_55, I_56, I_57, I_60, I_66, I_72, I_78, I_80, I_97, I_98, I_99, I_100, I_108, I_109, I_116, I_120, I_438, I_488, I_512, I_552, I_3864, oN_s, oN_n, bI_t, bI_f, Nat.add_zero, I_bt1, I_bt0, Nat.reduceLT, Nat.reduceLeDiff, Nat.reduceEqDiff, Nat.reduceAdd, Nat.reduceMul, Nat.reduceSub, tn_I, I_add, I_mul, I_div, vp_I, I_eq, I_le, I_lt, I_no, no_I, negI1, kd7, rf71, kdS, lnS, mm_sa, mm_fa, mm_ms, mm_mf, true_and, and_true, false_and, and_false, if_true, if_false, ite_true, ite_false, forall_eq, true_or, or_true]
  exact ⟨_, m_parts_l hx hy hl (4 * l + 4 - 4 * k) a (4 * k) 0 f hG (by omega) h⟩
end Pt1

