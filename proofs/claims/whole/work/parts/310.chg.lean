/-! ===== BAN ===== -/
section Ch8
variable {M M' M1 : Mem} {a a' : Nat → Nat} {f f' : Nat → Int32} {kp : Nat} {h : Nat → Nat → Nat} {o : Oth} {Q : Int32 → Mem → Prop} {X : String → Mem → Prop}
def nOth (a : Nat → Nat) (k : Nat) : Nat := if k = 0 then a 2 else if k = 1 then 3 else a 1
abbrev sPr (k i t : Int32) : Prop := k = I 2 ∧ i = t
/-- what is wrong with a ban: 1 no such number, 2 out of range, 3 not in this state, 0 nothing -/
def fbn (a : Nat → Nat) (k i t x y : Int32) : Nat := if isN i (a 1) then (if isN k 3 then (if isN t (nOth a k.toNatClampNeg) then (if sPr k i t then 2 else if dOK x y then (if a 5 = 10 then 3 else 0) else 2) else 1) else 2) else 1
theorem fbn_c {k i t x y : Int32} : fbn a k i t x y < 4 := by
  unfold fbn
  repeat' split
  all_goals decide
theorem nOth_lt (hV : VA a) {k : Nat} : nOth a k < 4096 := by
  have := hV.1 2
  have := hV.1 1
  unfold nOth
  repeat' split
  all_goals omega
theorem fbn_0 (hV : VA a) {k i t x y : Int32} (h : fbn a k i t x y = 0) : ∃ kn ib tn c d, k = I kn ∧ i = I ib ∧ t = I tn ∧ x = I c ∧ y = I d ∧ a 5 < 10 ∧ tn < 4096 ∧ (kn < 3 ∧ ib < a 1 ∧ (kn = 0 → tn < a 2) ∧ (kn = 1 → tn < 3) ∧ (kn = 2 → tn < a 1 ∧ tn ≠ ib) ∧ c ≤ d ∧ d ≤ 55) := by
  have h5 := hV.2.1.2.2.2.2.2.1
  have h1 := hV.2.1.2.1
  unfold fbn at h
  by_cases c1 : isN i (a 1)
  · rw [if_pos c1] at h
    by_cases c2 : isN k 3
    · rw [if_pos c2] at h
      by_cases c3 : isN t (nOth a k.toNatClampNeg)
      · rw [if_pos c3] at h
        by_cases c4 : sPr k i t
        · rw [if_pos c4] at h; cases h
        · rw [if_neg c4] at h
          by_cases c5 : dOK x y
          · rw [if_pos c5] at h
            by_cases c6 : a 5 = 10
            · rw [if_pos c6] at h; cases h
            · obtain ⟨ib, hi, rfl⟩ := isN_el c1
              obtain ⟨kn, hk, rfl⟩ := isN_el c2
              obtain ⟨tn, ht, rfl⟩ := isN_el c3
              obtain ⟨c, d, rfl, rfl, hcd, hd⟩ := dOK_el c5
              rw [tn_I (by omega)] at ht
              have hn := nOth_lt hV (k := kn)
              refine ⟨kn, ib, tn, c, d, rfl, rfl, rfl, rfl, rfl, by omega, by omega, hk, hi, fun e => ?_, fun e => ?_, fun e => ?_, hcd, hd⟩
              · unfold nOth at ht; rw [if_pos e] at ht; exact ht
              · unfold nOth at ht; rw [if_neg (by omega), if_pos e] at ht; exact ht
              · unfold nOth at ht; rw [if_neg (by omega), if_neg (by omega)] at ht
                exact ⟨ht, fun z => c4 ⟨by rw [e], by rw [z]⟩⟩
          · rw [if_neg c5] at h; cases h
      · rw [if_neg c3] at h; cases h
    · rw [if_neg c2] at h; cases h
  · rw [if_neg c1] at h; cases h
/-- a ban is added -/
def bnn (a : Nat → Nat) (k i t x y : Nat) : (Nat → Nat) × Nat := if k = 2 then pts i t (4 * y + 4 - 4 * x) (ad_ban a k i t x y) (4 * x) 0 else dbn (a 5) (a 4) (ad_ban a k i t x y) 0 0
def rc_ban (a : Nat → Nat) (k i t x y : Int32) : Nat × Int32 × (Nat → Nat) := if fbn a k i t x y = 0 then (0, I (bnn a k.toNatClampNeg i.toNatClampNeg t.toNatClampNeg x.toNatClampNeg y.toNatClampNeg).2, (bnn a k.toNatClampNeg i.toNatClampNeg t.toNatClampNeg x.toNatClampNeg y.toNatClampNeg).1) else (fbn a k i t x y, I 0, a)
theorem R_ban (hG : GI a kp h o) (hR : RI a kp h o M) {k i t x y : Int32} (hq0 : (rc_ban a k i t x y).1 = 0 → ∀ M', RI (rc_ban a k i t x y).2.2 (pkn kp) (phh kp h a) o M' → FrR M M' → M'.1 1582 0 = I 0 → Q (rc_ban a k i t x y).2.1 M') (hq1 : (rc_ban a k i t x y).1 ≠ 0 → ∀ M', RI a kp h o M' → FrR M M' → M'.1 1582 0 = I (rc_ban a k i t x y).1 → Q (I 0) M') : T_X7_ban Q 1582 k i t x y M := by
  have hV := hG.1.1
  have hb := hV.1
  have h1 := hV.2.1.2.1
  have h2 := hV.2.1.2.2.1
  have h5 := hV.2.1.2.2.2.2.2.1
  have h4 := hV.2.1.2.2.2.2.1
  have hn : ∀ (x : Nat → Nat) (k v : Nat), k ≠ 5 → updN x k v 5 = x 5 := fun x k v hk => updN_n (fun q => hk q.symm)
  unfold T_X7_ban T_X7_ban_26
  refine R_begin hG hR (fun M1 hB hF => ?_)
  have ef : EF (updI (M.1 1582) 0 (I 0)) (M.1 1582) := EF.rfl.upd (by decide) (by decide) (by decide) (by decide)
  rw [m_isInmate hb]
  unfold rc_ban at hq0 hq1
  have bad : ∀ n : Nat, n ≠ 0 → fbn a k i t x y = n → T_X7_fails (fun y3 M2 => Q y3 M2) 1582 (I n) (mm M1 a (updI (M.1 1582) 0 (I 0))) := fun n hn0 e => by
    rw [if_neg (by omega), e] at hq1
    rw [m_fails]
    exact hq1 (show n ≠ 0 from hn0) _ (R_fail hR hB (ef.upd (by decide) (by decide) (by decide) (by decide))) (R_fr hB) mmf0
  by_cases c1 : isN i (a 1)
  · rw [if_pos c1]
    have big : ∀ (hk : isN k 3) (ht : isN t (nOth a k.toNatClampNeg)), ¬ sPr k i t → T_X7_ban_51 Q 1582 k i t x y (mm M1 a (updI (M.1 1582) 0 (I 0))) := by
      intro c2 c3 c4
      unfold T_X7_ban_51 T_X7_ban_69
      simp (disch := first | exact lt4 (hb _) | exact hb _ | omega) only [I_0, I_1, I_2, I_3, I_4, I_5, I_6, I_7, I_8, I_9, I_10, I_11, I_12, I_20, I_22, I_27, I_31, I_32, I_38, I_42, I_48, I_54, I_55, I_56, I_57, I_60, I_66, I_72, I_78, I_80, I_97, I_98, I_99, I_100, I_108, I_109, I_116, I_120, I_438, I_488, I_512, I_552, I_3864, oN_s, oN_n, bI_t, bI_f, Nat.add_zero, I_bt1, I_bt0, Nat.reduceLT, Nat.reduceLeDiff, Nat.reduceEqDiff, Nat.reduceAdd, Nat.reduceMul, Nat.reduceSub, tn_I, I_add, I_mul, I_div, vp_I, I_eq, I_le, I_lt, I_no, no_I, negI1, kd7, rf71, kdS, lnS, mm_sa, mm_fa, mm_ms, mm_mf, true_and, and_true, false_and, and_false, if_true, if_false, ite_true, ite_false, forall_eq, true_or, or_true, m_in]
      by_cases c5 : I 0 ≤ x ∧ x ≤ y
      · rw [if_pos c5]
        have c5' := c5
        rw [le_ti, le_ti, ti_I (by decide)] at c5'
        by_cases c6 : y ≤ I 55
        · rw [if_pos c6]
          have c6' := c6
          rw [le_ti, ti_I (by decide)] at c6'
          have hd : dOK x y := ⟨by have := c5'.1; omega, c5'.2, by omega⟩
          by_cases c7 : a 5 = 10
          · have e : fbn a k i t x y = 3 := by unfold fbn; rw [if_pos c1, if_pos c2, if_pos c3, if_neg c4, if_pos hd, if_pos c7]
            simp (disch := first | exact lt4 (hb _) | exact hb _ | omega) only [I_0, I_1, I_2, I_3, I_4, I_5, I_6, I_7, I_8, I_9, I_10, I_11, I_12, I_20, I_22, I_27, I_31, I_32, I_38, I_42, I_48, I_54, I_55, I_56, I_57, I_60, I_66, I_72, I_78, I_80, I_97, I_98, I_99, I_100, I_108, I_109, I_116, I_120, I_438, I_488, I_512, I_552, I_3864, oN_s, oN_n, bI_t, bI_f, Nat.add_zero, I_bt1, I_bt0, Nat.reduceLT, Nat.reduceLeDiff, Nat.reduceEqDiff, Nat.reduceAdd, Nat.reduceMul, Nat.reduceSub, tn_I, I_add, I_mul, I_div, vp_I, I_eq, I_le, I_lt, I_no, no_I, negI1, kd7, rf71, kdS, lnS, mm_sa, mm_fa, mm_ms, mm_mf, true_and, and_true, false_and, and_false, if_true, if_false, ite_true, ite_false, forall_eq, true_or, or_true, c7]
            exact bad 3 (by decide) e
          · have e : fbn a k i t x y = 0 := by unfold fbn; rw [if_pos c1, if_pos c2, if_pos c3, if_neg c4, if_pos hd, if_neg c7]
            rw [if_pos e] at hq0
            obtain ⟨kn, ib, tn, c, d, rfl, rfl, rfl, rfl, rfl, h10, htn, hBn⟩ := fbn_0 hV e
            rw [tn_I (by omega), tn_I (by omega), tn_I (by omega), tn_I (by omega), tn_I (by omega)] at hq0
            have hGa := GS_ad_ban hG.1 h10 htn hBn
            have hc5 : (ad_ban a kn ib tn c d) 5 = a 5 + 1 := ad_ban_c
            have hc4 : (ad_ban a kn ib tn c d) 4 = a 4 := ad_ban_n (by omega)
            have fin : ∀ f2 : Nat → Int32, (∀ j, j ≠ 12 → f2 j = (updI (M.1 1582) 0 (I 0)) j) → T_X7_ban_265 Q 1582 (I (bnn a kn ib tn c d).2) (mm M1 (bnn a kn ib tn c d).1 f2) := by
              intro f2 q1
              unfold T_X7_ban_265
              refine ⟨by decide, R_keep (a' := (bnn a kn ib tn c d).1) hR hB hF (ef.trans (EF.of2 q1)) (fun M' r1 r2 r3 r4 => hq0 rfl M' r1 r2 ((r4 0 (by decide)).trans ((q1 0 (by decide)).trans updI_s)))⟩
            by_cases ck : kn = 2
            · simp (disch := first | exact lt4 (hb _) | exact hb _ | omega) only [I_0, I_1, I_2, I_3, I_4, I_5, I_6, I_7, I_8, I_9, I_10, I_11, I_12, I_20, I_22, I_27, I_31, I_32, I_38, I_42, I_48, I_54, I_55, I_56, I_57, I_60, I_66, I_72, I_78, I_80, I_97, I_98, I_99, I_100, I_108, I_109, I_116, I_120, I_438, I_488, I_512, I_552, I_3864, oN_s, oN_n, bI_t, bI_f, Nat.add_zero, I_bt1, I_bt0, Nat.reduceLT, Nat.reduceLeDiff, Nat.reduceEqDiff, Nat.reduceAdd, Nat.reduceMul, Nat.reduceSub, tn_I, I_add, I_mul, I_div, vp_I, I_eq, I_le, I_lt, I_no, no_I, negI1, kd7, rf71, kdS, lnS, mm_sa, mm_fa, mm_ms, mm_mf, true_and, and_true, false_and, and_false, if_true, if_false, ite_true, ite_false, forall_eq, true_or, or_true, c7, hn, show 438 + 5 * a 5 < 552 by omega, show 438 + 5 * a 5 + 1 < 552 by omega, show 438 + 5 * a 5 + 2 < 552 by omega, show 438 + 5 * a 5 + 3 < 552 by omega, show 438 + 5 * a 5 + 4 < 552 by omega, ck]
              have eb : bnn a kn ib tn c d = pts ib tn (4 * d + 4 - 4 * c) (ad_ban a kn ib tn c d) (4 * c) 0 := if_pos ck
              subst ck
              rw [eb] at fin
              refine m_parts (a := ad_ban a 2 ib tn c d) hGa (by omega) (by omega) hBn.2.2.2.2.2.1 (by omega) (fun f2 q1 => ?_)
              unfold T_X7_ban_189
              refine ⟨1, ?_⟩
              have hGp := pts_GS (x := ib) (y := tn) (4 * d + 4 - 4 * c) (ad_ban a 2 ib tn c d) (4 * c) 0 hGa
              have hbp := hGp.1.1
              have g := fin f2 q1
              unfold T_X7_ban_194
              by_cases cz : (pts ib tn (4 * d + 4 - 4 * c) (ad_ban a 2 ib tn c d) (4 * c) 0).1 4 ≤ 0
              · simp (disch := first | exact lt4 (hbp _) | omega) only [I_0, I_2, I_4, kd7, rf71, kdS, lnS, mm_sa, tn_I, vp_I, I_le, Nat.reduceLT, true_and, cz, if_true]
                exact g
              · simp (disch := first | exact lt4 (hbp _) | omega) only [I_0, I_2, I_4, kd7, rf71, kdS, lnS, mm_sa, tn_I, vp_I, I_le, Nat.reduceLT, true_and, cz, if_false, Nat.le_refl, if_true]
                exact g
            · simp (disch := first | exact lt4 (hb _) | exact hb _ | omega) only [I_0, I_1, I_2, I_3, I_4, I_5, I_6, I_7, I_8, I_9, I_10, I_11, I_12, I_20, I_22, I_27, I_31, I_32, I_38, I_42, I_48, I_54, I_55, I_56, I_57, I_60, I_66, I_72, I_78, I_80, I_97, I_98, I_99, I_100, I_108, I_109, I_116, I_120, I_438, I_488, I_512, I_552, I_3864, oN_s, oN_n, bI_t, bI_f, Nat.add_zero, I_bt1, I_bt0, Nat.reduceLT, Nat.reduceLeDiff, Nat.reduceEqDiff, Nat.reduceAdd, Nat.reduceMul, Nat.reduceSub, tn_I, I_add, I_mul, I_div, vp_I, I_eq, I_le, I_lt, I_no, no_I, negI1, kd7, rf71, kdS, lnS, mm_sa, mm_fa, mm_ms, mm_mf, true_and, and_true, false_and, and_false, if_true, if_false, ite_true, ite_false, forall_eq, true_or, or_true, c7, hn, show 438 + 5 * a 5 < 552 by omega, show 438 + 5 * a 5 + 1 < 552 by omega, show 438 + 5 * a 5 + 2 < 552 by omega, show 438 + 5 * a 5 + 3 < 552 by omega, show 438 + 5 * a 5 + 4 < 552 by omega, ck]
              have eb : bnn a kn ib tn c d = dbn (a 5) (a 4) (ad_ban a kn ib tn c d) 0 0 := if_neg ck
              rw [eb] at fin
              unfold T_X7_ban_189
              refine ⟨_, m_ban_l (M := M1) (b := a 5) (kd := kn) (by omega) (a 4) (ad_ban a kn ib tn c d) 0 0 _ hGa (by omega) (by omega) (fun f2 q1 => fin f2 q1)⟩
        · rw [if_neg c6]
          refine bad 2 (by decide) ?_
          unfold fbn
          rw [if_pos c1, if_pos c2, if_pos c3, if_neg c4, if_neg (fun z => c6 (by rw [le_ti, ti_I (by decide)]; have := z.2.2; omega))]
      · rw [if_neg c5]
        refine bad 2 (by decide) ?_
        unfold fbn
        rw [if_pos c1, if_pos c2, if_pos c3, if_neg c4, if_neg (fun z => c5 (by rw [le_ti, le_ti, ti_I (by decide)]; exact ⟨z.1, z.2.1⟩))]
    unfold T_X7_ban_69
    have kcase : k = I 0 ∨ k = I 1 ∨ k = I 2 ∨ ¬ isN k 3 := by
      by_cases c2 : isN k 3
      · obtain ⟨kn, hk, rfl⟩ := isN_el c2
        have : kn = 0 ∨ kn = 1 ∨ kn = 2 := by omega
        rcases this with rfl | rfl | rfl
        · exact Or.inl rfl
        · exact Or.inr (Or.inl rfl)
        · exact Or.inr (Or.inr (Or.inl rfl))
      · exact Or.inr (Or.inr (Or.inr c2))
    rcases kcase with rfl | rfl | rfl | c2
    · have c2 : isN (I 0) 3 := by rw [isN_I (by decide)]; decide
      unfold T_X7_isOther T_X7_isOther_52
      simp (disch := first | exact lt4 (hb _) | exact hb _ | omega) only [I_0, I_1, I_2, I_3, I_4, I_5, I_6, I_7, I_8, I_9, I_10, I_11, I_12, I_20, I_22, I_27, I_31, I_32, I_38, I_42, I_48, I_54, I_55, I_56, I_57, I_60, I_66, I_72, I_78, I_80, I_97, I_98, I_99, I_100, I_108, I_109, I_116, I_120, I_438, I_488, I_512, I_552, I_3864, oN_s, oN_n, bI_t, bI_f, Nat.add_zero, I_bt1, I_bt0, Nat.reduceLT, Nat.reduceLeDiff, Nat.reduceEqDiff, Nat.reduceAdd, Nat.reduceMul, Nat.reduceSub, tn_I, I_add, I_mul, I_div, vp_I, I_eq, I_le, I_lt, I_no, no_I, negI1, kd7, rf71, kdS, lnS, mm_sa, mm_fa, mm_ms, mm_mf, true_and, and_true, false_and, and_false, if_true, if_false, ite_true, ite_false, forall_eq, true_or, or_true, m_in, in_cnt (hb 2)]
      by_cases c3 : isN t (a 2)
      · rw [if_pos c3]
        try (simp (disch := first | exact lt4 (hb _) | exact hb _ | omega) only [I_0, I_1, I_2, I_3, I_4, I_5, I_6, I_7, I_8, I_9, I_10, I_11, I_12, I_20, I_22, I_27, I_31, I_32, I_38, I_42, I_48, I_54, I_55, I_56, I_57, I_60, I_66, I_72, I_78, I_80, I_97, I_98, I_99, I_100, I_108, I_109, I_116, I_120, I_438, I_488, I_512, I_552, I_3864, oN_s, oN_n, bI_t, bI_f, Nat.add_zero, I_bt1, I_bt0, Nat.reduceLT, Nat.reduceLeDiff, Nat.reduceEqDiff, Nat.reduceAdd, Nat.reduceMul, Nat.reduceSub, tn_I, I_add, I_mul, I_div, vp_I, I_eq, I_le, I_lt, I_no, no_I, negI1, kd7, rf71, kdS, lnS, mm_sa, mm_fa, mm_ms, mm_mf, true_and, and_true, false_and, and_false, if_true, if_false, ite_true, ite_false, forall_eq, true_or, or_true, m_in, isN_I, Nat.zero_le])
        exact big c2 c3 (fun z => by have := z.1; rw [I_eq (by decide) (by decide)] at this; cases this)
      · rw [if_neg c3]
        try (simp (disch := first | exact lt4 (hb _) | exact hb _ | omega) only [I_0, I_1, I_2, I_3, I_4, I_5, I_6, I_7, I_8, I_9, I_10, I_11, I_12, I_20, I_22, I_27, I_31, I_32, I_38, I_42, I_48, I_54, I_55, I_56, I_57, I_60, I_66, I_72, I_78, I_80, I_97, I_98, I_99, I_100, I_108, I_109, I_116, I_120, I_438, I_488, I_512, I_552, I_3864, oN_s, oN_n, bI_t, bI_f, Nat.add_zero, I_bt1, I_bt0, Nat.reduceLT, Nat.reduceLeDiff, Nat.reduceEqDiff, Nat.reduceAdd, Nat.reduceMul, Nat.reduceSub, tn_I, I_add, I_mul, I_div, vp_I, I_eq, I_le, I_lt, I_no, no_I, negI1, kd7, rf71, kdS, lnS, mm_sa, mm_fa, mm_ms, mm_mf, true_and, and_true, false_and, and_false, if_true, if_false, ite_true, ite_false, forall_eq, true_or, or_true])
        refine bad 1 (by decide) ?_
        unfold fbn
        rw [if_pos c1, if_pos c2, if_neg (show ¬ isN t (nOth a (Int32.toNatClampNeg (I 0))) from c3)]
    · have c2 : isN (I 1) 3 := by rw [isN_I (by decide)]; decide
      unfold T_X7_isOther T_X7_isOther_52
      simp (disch := first | exact lt4 (hb _) | exact hb _ | omega) only [I_0, I_1, I_2, I_3, I_4, I_5, I_6, I_7, I_8, I_9, I_10, I_11, I_12, I_20, I_22, I_27, I_31, I_32, I_38, I_42, I_48, I_54, I_55, I_56, I_57, I_60, I_66, I_72, I_78, I_80, I_97, I_98, I_99, I_100, I_108, I_109, I_116, I_120, I_438, I_488, I_512, I_552, I_3864, oN_s, oN_n, bI_t, bI_f, Nat.add_zero, I_bt1, I_bt0, Nat.reduceLT, Nat.reduceLeDiff, Nat.reduceEqDiff, Nat.reduceAdd, Nat.reduceMul, Nat.reduceSub, tn_I, I_add, I_mul, I_div, vp_I, I_eq, I_le, I_lt, I_no, no_I, negI1, kd7, rf71, kdS, lnS, mm_sa, mm_fa, mm_ms, mm_mf, true_and, and_true, false_and, and_false, if_true, if_false, ite_true, ite_false, forall_eq, true_or, or_true, m_in, in_I]
      by_cases c3 : isN t 3
      · rw [if_pos c3]
        try (simp (disch := first | exact lt4 (hb _) | exact hb _ | omega) only [I_0, I_1, I_2, I_3, I_4, I_5, I_6, I_7, I_8, I_9, I_10, I_11, I_12, I_20, I_22, I_27, I_31, I_32, I_38, I_42, I_48, I_54, I_55, I_56, I_57, I_60, I_66, I_72, I_78, I_80, I_97, I_98, I_99, I_100, I_108, I_109, I_116, I_120, I_438, I_488, I_512, I_552, I_3864, oN_s, oN_n, bI_t, bI_f, Nat.add_zero, I_bt1, I_bt0, Nat.reduceLT, Nat.reduceLeDiff, Nat.reduceEqDiff, Nat.reduceAdd, Nat.reduceMul, Nat.reduceSub, tn_I, I_add, I_mul, I_div, vp_I, I_eq, I_le, I_lt, I_no, no_I, negI1, kd7, rf71, kdS, lnS, mm_sa, mm_fa, mm_ms, mm_mf, true_and, and_true, false_and, and_false, if_true, if_false, ite_true, ite_false, forall_eq, true_or, or_true, m_in, isN_I, Nat.zero_le])
        exact big c2 c3 (fun z => by have := z.1; rw [I_eq (by decide) (by decide)] at this; cases this)
      · rw [if_neg c3]
        try (simp (disch := first | exact lt4 (hb _) | exact hb _ | omega) only [I_0, I_1, I_2, I_3, I_4, I_5, I_6, I_7, I_8, I_9, I_10, I_11, I_12, I_20, I_22, I_27, I_31, I_32, I_38, I_42, I_48, I_54, I_55, I_56, I_57, I_60, I_66, I_72, I_78, I_80, I_97, I_98, I_99, I_100, I_108, I_109, I_116, I_120, I_438, I_488, I_512, I_552, I_3864, oN_s, oN_n, bI_t, bI_f, Nat.add_zero, I_bt1, I_bt0, Nat.reduceLT, Nat.reduceLeDiff, Nat.reduceEqDiff, Nat.reduceAdd, Nat.reduceMul, Nat.reduceSub, tn_I, I_add, I_mul, I_div, vp_I, I_eq, I_le, I_lt, I_no, no_I, negI1, kd7, rf71, kdS, lnS, mm_sa, mm_fa, mm_ms, mm_mf, true_and, and_true, false_and, and_false, if_true, if_false, ite_true, ite_false, forall_eq, true_or, or_true])
        refine bad 1 (by decide) ?_
        unfold fbn
        rw [if_pos c1, if_pos c2, if_neg (show ¬ isN t (nOth a (Int32.toNatClampNeg (I 1))) from c3)]
    · have c2 : isN (I 2) 3 := by rw [isN_I (by decide)]; decide
      unfold T_X7_isOther T_X7_isOther_52 T_X7_isOther_47
      simp (disch := first | exact lt4 (hb _) | exact hb _ | omega) only [I_0, I_1, I_2, I_3, I_4, I_5, I_6, I_7, I_8, I_9, I_10, I_11, I_12, I_20, I_22, I_27, I_31, I_32, I_38, I_42, I_48, I_54, I_55, I_56, I_57, I_60, I_66, I_72, I_78, I_80, I_97, I_98, I_99, I_100, I_108, I_109, I_116, I_120, I_438, I_488, I_512, I_552, I_3864, oN_s, oN_n, bI_t, bI_f, Nat.add_zero, I_bt1, I_bt0, Nat.reduceLT, Nat.reduceLeDiff, Nat.reduceEqDiff, Nat.reduceAdd, Nat.reduceMul, Nat.reduceSub, tn_I, I_add, I_mul, I_div, vp_I, I_eq, I_le, I_lt, I_no, no_I, negI1, kd7, rf71, kdS, lnS, mm_sa, mm_fa, mm_ms, mm_mf, true_and, and_true, false_and, and_false, if_true, if_false, ite_true, ite_false, forall_eq, true_or, or_true]
      rw [m_isInmate hb]
      by_cases c3 : isN t (a 1)
      · rw [if_pos c3]
        unfold T_X7_isOther_52
        try (simp (disch := first | exact lt4 (hb _) | exact hb _ | omega) only [I_0, I_1, I_2, I_3, I_4, I_5, I_6, I_7, I_8, I_9, I_10, I_11, I_12, I_20, I_22, I_27, I_31, I_32, I_38, I_42, I_48, I_54, I_55, I_56, I_57, I_60, I_66, I_72, I_78, I_80, I_97, I_98, I_99, I_100, I_108, I_109, I_116, I_120, I_438, I_488, I_512, I_552, I_3864, oN_s, oN_n, bI_t, bI_f, Nat.add_zero, I_bt1, I_bt0, Nat.reduceLT, Nat.reduceLeDiff, Nat.reduceEqDiff, Nat.reduceAdd, Nat.reduceMul, Nat.reduceSub, tn_I, I_add, I_mul, I_div, vp_I, I_eq, I_le, I_lt, I_no, no_I, negI1, kd7, rf71, kdS, lnS, mm_sa, mm_fa, mm_ms, mm_mf, true_and, and_true, false_and, and_false, if_true, if_false, ite_true, ite_false, forall_eq, true_or, or_true, m_in, isN_I, Nat.zero_le])
        by_cases c4 : i = t
        · rw [if_pos c4]
          refine bad 2 (by decide) ?_
          unfold fbn
          rw [if_pos c1, if_pos c2, if_pos (show isN t (nOth a (Int32.toNatClampNeg (I 2))) from c3), if_pos ⟨rfl, c4⟩]
        · rw [if_neg c4]
          exact big c2 c3 (fun z => c4 z.2)
      · rw [if_neg c3]
        unfold T_X7_isOther_52
        try (simp (disch := first | exact lt4 (hb _) | exact hb _ | omega) only [I_0, I_1, I_2, I_3, I_4, I_5, I_6, I_7, I_8, I_9, I_10, I_11, I_12, I_20, I_22, I_27, I_31, I_32, I_38, I_42, I_48, I_54, I_55, I_56, I_57, I_60, I_66, I_72, I_78, I_80, I_97, I_98, I_99, I_100, I_108, I_109, I_116, I_120, I_438, I_488, I_512, I_552, I_3864, oN_s, oN_n, bI_t, bI_f, Nat.add_zero, I_bt1, I_bt0, Nat.reduceLT, Nat.reduceLeDiff, Nat.reduceEqDiff, Nat.reduceAdd, Nat.reduceMul, Nat.reduceSub, tn_I, I_add, I_mul, I_div, vp_I, I_eq, I_le, I_lt, I_no, no_I, negI1, kd7, rf71, kdS, lnS, mm_sa, mm_fa, mm_ms, mm_mf, true_and, and_true, false_and, and_false, if_true, if_false, ite_true, ite_false, forall_eq, true_or, or_true])
        refine bad 1 (by decide) ?_
        unfold fbn
        rw [if_pos c1, if_pos c2, if_neg (show ¬ isN t (nOth a (Int32.toNatClampNeg (I 2))) from c3)]
    · unfold T_X7_isOther T_X7_isOther_47 T_X7_isOther_52
      simp (disch := first | exact lt4 (hb _) | exact hb _ | omega) only [I_0, I_1, I_2, I_3, I_4, I_5, I_6, I_7, I_8, I_9, I_10, I_11, I_12, I_20, I_22, I_27, I_31, I_32, I_38, I_42, I_48, I_54, I_55, I_56, I_57, I_60, I_66, I_72, I_78, I_80, I_97, I_98, I_99, I_100, I_108, I_109, I_116, I_120, I_438, I_488, I_512, I_552, I_3864, oN_s, oN_n, bI_t, bI_f, Nat.add_zero, I_bt1, I_bt0, Nat.reduceLT, Nat.reduceLeDiff, Nat.reduceEqDiff, Nat.reduceAdd, Nat.reduceMul, Nat.reduceSub, tn_I, I_add, I_mul, I_div, vp_I, I_eq, I_le, I_lt, I_no, no_I, negI1, kd7, rf71, kdS, lnS, mm_sa, mm_fa, mm_ms, mm_mf, true_and, and_true, false_and, and_false, if_true, if_false, ite_true, ite_false, forall_eq, true_or, or_true, isN_lt c2 (show 0 < 3 by decide), isN_lt c2 (show 1 < 3 by decide), isN_lt c2 (show 2 < 3 by decide), m_in, in_I, c2]
      refine bad 2 (by decide) ?_
      unfold fbn
      rw [if_pos c1, if_neg c2]
  · rw [if_neg c1]
    simp (disch := first | exact lt4 (hb _) | exact hb _ | omega) only [I_0, I_1, I_2, I_3, I_4, I_5, I_6, I_7, I_8, I_9, I_10, I_11, I_12, I_20, I_22, I_27, I_31, I_32, I_38, I_42, I_48, I_54, I_55, I_56, I_57, I_60, I_66, I_72, I_78, I_80, I_97, I_98, I_99, I_100, I_108, I_109, I_116, I_120, I_438, I_488, I_512, I_552, I_3864, oN_s, oN_n, bI_t, bI_f, Nat.add_zero, I_bt1, I_bt0, Nat.reduceLT, Nat.reduceLeDiff, Nat.reduceEqDiff, Nat.reduceAdd, Nat.reduceMul, Nat.reduceSub, tn_I, I_add, I_mul, I_div, vp_I, I_eq, I_le, I_lt, I_no, no_I, negI1, kd7, rf71, kdS, lnS, mm_sa, mm_fa, mm_ms, mm_mf, true_and, and_true, false_and, and_false, if_true, if_false, ite_true, ite_false, forall_eq, true_or, or_true]
    refine bad 1 (by decide) ?_
    unfold fbn
    rw [if_neg c1]
end Ch8

