/-! ===== THE REFERENCE grants wishes ===== -/
/-- the day from which a wish can be granted -/
def wfd (a : Nat → Nat) (k : Nat) : Nat := if a (488 + 4 * k + 2) ≤ a 0 then a 0 else a (488 + 4 * k + 2)
def wfm (a : Nat → Nat) (k : Nat) : Option Nat := fm a (a (488 + 4 * k)) (a (488 + 4 * k + 1)) (wfd a k) (a (488 + 4 * k + 3))
def wrm (a : Nat → Nat) (k m : Nat) : Nat := (rmB a (a (488 + 4 * k)) (pc (a (488 + 4 * k + 1))) (m / 4) (m % 4)).getD 0
/-- the state when wish k is granted at moment m -/
def wgr (a : Nat → Nat) (k m : Nat) : Nat → Nat := nt (adv a (a (488 + 4 * k)) (a (488 + 4 * k + 1)) (m / 4) (m % 4) (wrm a k m)) (a 4) 3
/-- the wishes from k, m of them, served -/
def svs : Nat → (Nat → Nat) → Nat → Nat → (Nat → Nat) × Nat
  | 0, a, _, c => (a, c)
  | m + 1, a, k, c => match wfm a k with
    | none => svs m a (k + 1) c
    | some q => svs m (drw (wgr a k q) k) k (c + 1)
section Gr1
variable {M : Mem} {a : Nat → Nat} {f : Nat → Int32}
theorem wfm_sp (hG : GS a) {k m : Nat} (hk : k < a 6) (h : wfm a k = some m) : m < 224 ∧ (rsn a (a (488 + 4 * k)) (a (488 + 4 * k + 1)) (m / 4) (m % 4)).1 = 0 ∧ (rsn a (a (488 + 4 * k)) (a (488 + 4 * k + 1)) (m / 4) (m % 4)).2 = I (wrm a k m) ∧ rmB a (a (488 + 4 * k)) (pc (a (488 + 4 * k + 1))) (m / 4) (m % 4) = some (wrm a k m) := by
  have hw := hG.1.2.2.2.2.2.2.2 k hk
  unfold wfm fm at h
  have q := fnd_sp h
  have hp := of_decide_eq_true q.2.2.1
  obtain ⟨r, h1, h2, -⟩ := rsn_0 hG.1 hp
  have e : wrm a k m = r := by unfold wrm; rw [h2]; rfl
  exact ⟨by omega, hp, by rw [e]; exact h1, by rw [e]; exact h2⟩
theorem wgr_GS (hG : GS a) {k m : Nat} (hk : k < a 6) (h : wfm a k = some m) : GS (wgr a k m) ∧ (wgr a k m) 6 = a 6 ∧ a 4 < 60 ∧ (wgr a k m) 0 = a 0 := by
  have hw := hG.1.2.2.2.2.2.2.2 k hk
  have q := wfm_sp hG hk h
  have h4 := (rsn_0 hG.1 q.2.1).choose_spec.2.2.1
  refine ⟨GS_nt (GS_adv hG hw.1 hw.2.1 (by omega) (by omega) q.2.1 q.2.2.2) (by omega) (by decide), ?_, h4, ?_⟩
  · unfold wgr
    rw [nt_lo (by decide) (by decide), adv_lo (by omega) (by decide)]
  · unfold wgr
    rw [nt_lo (by decide) (by decide), adv_lo (by omega) (by decide)]
theorem rsn_l (a : Nat → Nat) (i s d t : Nat) : (rsn a i s d t).1 < 4096 := by
  rw [rsn_is]
  split
  · unfold rsS
    split
    · exact (by decide : (4 : Nat) < 4096)
    · split
      · exact (by decide : (5 : Nat) < 4096)
      · split
        · exact (by decide : (6 : Nat) < 4096)
        · split
          · exact (by decide : (7 : Nat) < 4096)
          · split
            · exact (by decide : (8 : Nat) < 4096)
            · exact (by decide : (0 : Nat) < 4096)
  · unfold rsD
    split
    · exact (by decide : (1 : Nat) < 4096)
    · split
      · exact (by decide : (2 : Nat) < 4096)
      · split
        · exact (by decide : (3 : Nat) < 4096)
        · exact (by decide : (0 : Nat) < 4096)
theorem m_isGr_l {Q : Int32 → Mem → Prop} (hG : GS a) {k : Nat} (hk : k < a 6)
    (h0 : wfm a k = none → ∀ f' : Nat → Int32, (∀ j, j ≠ 13 → j ≠ 14 → f' j = f j) → Q (I 0) (mm M a f'))
    (h1 : ∀ m, wfm a k = some m → ∀ f' : Nat → Int32, (∀ j, j ≠ 12 → j ≠ 13 → j ≠ 14 → f' j = f j) → f' 12 = f 12 + 1 → Q (I 1) (mm M (wgr a k m) f')) :
    ∀ j m (f1 : Nat → Int32), (m + j = 4 * a (488 + 4 * k + 3) + 4 ∨ (j = 0 ∧ 4 * a (488 + 4 * k + 3) + 4 ≤ m ∧ m < 400)) → (∀ i, i ≠ 13 → i ≠ 14 → f1 i = f i) → wfm a k = fnd (fmp a (a (488 + 4 * k)) (a (488 + 4 * k + 1))) j m → T_X7_isGranted_48 Q (j + 1) 1582 (I (488 + 4 * k)) (I m) (mm M a f1) := by
  have hV := hG.1
  have hb := hV.1
  have h6 := hV.2.1.2.2.2.2.2.2.1
  have hw := hV.2.2.2.2.2.2.2 k hk
  have h7 := hV.2.1.2.2.2.2.2.2.2.1
  have h2p := two_le hV.2.1.2.2.1
  intro j
  induction j with
  | zero =>
    intro m f1 hm hf he
    unfold T_X7_isGranted_48
    simp (disch := first | exact lt4 (hb _) | exact hb _ | omega) only [I_0, I_1, I_2, I_3, I_4, I_5, I_6, I_7, I_8, I_9, I_10, I_11, I_12, I_20, I_22, I_27, I_31, I_32, I_38, I_42, I_48, I_54, I_55, I_56, I_57, I_60, I_66, I_72, I_78, I_80, I_97, I_98, I_99, I_100, I_108, I_109, I_116, I_120, I_438, I_488, I_512, I_552, I_3864, oN_s, oN_n, bI_t, bI_f, Nat.add_zero, I_bt1, I_bt0, Nat.reduceLT, Nat.reduceLeDiff, Nat.reduceEqDiff, Nat.reduceAdd, Nat.reduceMul, Nat.reduceSub, tn_I, I_add, I_mul, I_div, vp_I, I_eq, I_le, I_lt, I_no, no_I, negI1, kd7, rf71, kdS, lnS, mm_sa, mm_fa, mm_ms, mm_mf, true_and, and_true, false_and, and_false, if_true, if_false, ite_true, ite_false, forall_eq, true_or, or_true, show 488 + 4 * k + 3 < 552 by omega, show 4 * a (488 + 4 * k + 3) + 4 ≤ m by omega]
    exact h0 he f1 hf
  | succ j ih =>
    intro m f1 hm hf he
    have hm' : m + (j + 1) = 4 * a (488 + 4 * k + 3) + 4 := by omega
    have hq : I m - I (m / 4 * 4) = I (m % 4) := by rw [I_sub (by omega), show m - m / 4 * 4 = m % 4 by omega]
    unfold T_X7_isGranted_48
    simp (disch := first | exact lt4 (hb _) | exact hb _ | omega) only [I_0, I_1, I_2, I_3, I_4, I_5, I_6, I_7, I_8, I_9, I_10, I_11, I_12, I_20, I_22, I_27, I_31, I_32, I_38, I_42, I_48, I_54, I_55, I_56, I_57, I_60, I_66, I_72, I_78, I_80, I_97, I_98, I_99, I_100, I_108, I_109, I_116, I_120, I_438, I_488, I_512, I_552, I_3864, oN_s, oN_n, bI_t, bI_f, Nat.add_zero, I_bt1, I_bt0, Nat.reduceLT, Nat.reduceLeDiff, Nat.reduceEqDiff, Nat.reduceAdd, Nat.reduceMul, Nat.reduceSub, tn_I, I_add, I_mul, I_div, vp_I, I_eq, I_le, I_lt, I_no, no_I, negI1, kd7, rf71, kdS, lnS, mm_sa, mm_fa, mm_ms, mm_mf, true_and, and_true, false_and, and_false, if_true, if_false, ite_true, ite_false, forall_eq, true_or, or_true, show 488 + 4 * k + 3 < 552 by omega, show 488 + 4 * k + 1 < 552 by omega, show 488 + 4 * k < 552 by omega, show ¬ 4 * a (488 + 4 * k + 3) + 4 ≤ m by omega, hq]
    refine m_rsn hV hw.1 (by omega) (by omega) (by omega) (fun f2 hf2 q0 q1 => ?_)
    have hlt : (rsn a (a (488 + 4 * k)) (a (488 + 4 * k + 1)) (m / 4) (m % 4)).1 < 4096 := rsn_l _ _ _ _ _
    by_cases c : (rsn a (a (488 + 4 * k)) (a (488 + 4 * k + 1)) (m / 4) (m % 4)).1 = 0
    · have hfm : wfm a k = some m := by
        rw [he]
        exact fnd_s (Nat.le_refl _) (by omega) (decide_eq_true c) (fun q z1 z2 => by omega)
      have hs := wfm_sp hG hk hfm
      have hg := wgr_GS hG hk hfm
      have e14 : f2 14 = I (wrm a k m) := by rw [q0 c]; exact hs.2.2.1
      simp (disch := first | exact lt4 (hb _) | exact hb _ | omega) only [I_0, I_1, I_2, I_3, I_4, I_5, I_6, I_7, I_8, I_9, I_10, I_11, I_12, I_20, I_22, I_27, I_31, I_32, I_38, I_42, I_48, I_54, I_55, I_56, I_57, I_60, I_66, I_72, I_78, I_80, I_97, I_98, I_99, I_100, I_108, I_109, I_116, I_120, I_438, I_488, I_512, I_552, I_3864, oN_s, oN_n, bI_t, bI_f, Nat.add_zero, I_bt1, I_bt0, Nat.reduceLT, Nat.reduceLeDiff, Nat.reduceEqDiff, Nat.reduceAdd, Nat.reduceMul, Nat.reduceSub, tn_I, I_add, I_mul, I_div, vp_I, I_eq, I_le, I_lt, I_no, no_I, negI1, kd7, rf71, kdS, lnS, mm_sa, mm_fa, mm_ms, mm_mf, true_and, and_true, false_and, and_false, if_true, if_false, ite_true, ite_false, forall_eq, true_or, or_true, c, e14, show 488 + 4 * k + 1 < 552 by omega, show 488 + 4 * k < 552 by omega, hq]
      refine m_adds hb hg.2.2.1 ?_
      have hA := GS_adv hG hw.1 hw.2.1 (by omega) (by omega) hs.2.1 hs.2.2.2
      refine m_notes hA.1.1 (by rw [adv_lo (by omega) (by omega)]; exact h7) ?_
      refine h1 m hfm _ (fun i z1 z2 z3 => ?_) ?_
      · rw [updI_n z1, hf2 i z2 z3, hf i z2 z3]
      · rw [updI_s, hf2 12 (by decide) (by decide), hf 12 (by decide) (by decide)]
    · simp (disch := first | exact lt4 (hb _) | exact hb _ | omega) only [I_0, I_1, I_2, I_3, I_4, I_5, I_6, I_7, I_8, I_9, I_10, I_11, I_12, I_20, I_22, I_27, I_31, I_32, I_38, I_42, I_48, I_54, I_55, I_56, I_57, I_60, I_66, I_72, I_78, I_80, I_97, I_98, I_99, I_100, I_108, I_109, I_116, I_120, I_438, I_488, I_512, I_552, I_3864, oN_s, oN_n, bI_t, bI_f, Nat.add_zero, I_bt1, I_bt0, Nat.reduceLT, Nat.reduceLeDiff, Nat.reduceEqDiff, Nat.reduceAdd, Nat.reduceMul, Nat.reduceSub, tn_I, I_add, I_mul, I_div, vp_I, I_eq, I_le, I_lt, I_no, no_I, negI1, kd7, rf71, kdS, lnS, mm_sa, mm_fa, mm_ms, mm_mf, true_and, and_true, false_and, and_false, if_true, if_false, ite_true, ite_false, forall_eq, true_or, or_true, c]
      refine ih (m + 1) f2 (Or.inl (by omega)) (fun i z1 z2 => (hf2 i z1 z2).trans (hf i z1 z2)) ?_
      rw [he, fnd_1 (decide_eq_false c)]
theorem wfd_le (hG : GS a) {k : Nat} (hk : k < a 6) : wfd a k ≤ 55 := by
  have hw := hG.1.2.2.2.2.2.2.2 k hk
  have h0 := hG.1.2.1.1
  unfold wfd
  split <;> omega
theorem m_isGranted {Q : Int32 → Mem → Prop} (hG : GS a) {k : Nat} (hk : k < a 6)
    (h0 : wfm a k = none → ∀ f' : Nat → Int32, (∀ j, j ≠ 13 → j ≠ 14 → f' j = f j) → Q (I 0) (mm M a f'))
    (h1 : ∀ m, wfm a k = some m → ∀ f' : Nat → Int32, (∀ j, j ≠ 12 → j ≠ 13 → j ≠ 14 → f' j = f j) → f' 12 = f 12 + 1 → Q (I 1) (mm M (wgr a k m) f')) : T_X7_isGranted Q 1582 (I k) (mm M a f) := by
  have hb := hG.1.1
  have h6 := hG.1.2.1.2.2.2.2.2.2.1
  have hw := hG.1.2.2.2.2.2.2.2 k hk
  have hd := wfd_le hG hk
  have key : T_X7_isGranted_42 Q 1582 (I (488 + 4 * k)) (I (wfd a k)) (mm M a f) := by
    unfold T_X7_isGranted_42
    rw [I_4, I_mul]
    rintro x1 rfl
    by_cases c : wfd a k ≤ a (488 + 4 * k + 3)
    · exact ⟨_, m_isGr_l hG hk h0 h1 (4 * a (488 + 4 * k + 3) + 4 - 4 * wfd a k) (4 * wfd a k) f (Or.inl (by omega)) (fun _ _ _ => rfl) rfl⟩
    · exact ⟨_, m_isGr_l hG hk h0 h1 0 (4 * wfd a k) f (Or.inr ⟨rfl, by omega, by omega⟩) (fun _ _ _ => rfl) (by unfold wfm fm; rw [show 4 * a (488 + 4 * k + 3) + 4 - 4 * wfd a k = 0 by omega])⟩
  unfold T_X7_isGranted
  unfold wfd at key
  by_cases c : a (488 + 4 * k + 2) ≤ a 0
  · rw [if_pos c] at key
    simp (disch := first | exact lt4 (hb _) | exact hb _ | omega) only [I_0, I_1, I_2, I_3, I_4, I_5, I_6, I_7, I_8, I_9, I_10, I_11, I_12, I_20, I_22, I_27, I_31, I_32, I_38, I_42, I_48, I_54, I_55, I_56, I_57, I_60, I_66, I_72, I_78, I_80, I_97, I_98, I_99, I_100, I_108, I_109, I_116, I_120, I_438, I_488, I_512, I_552, I_3864, oN_s, oN_n, bI_t, bI_f, Nat.add_zero, I_bt1, I_bt0, Nat.reduceLT, Nat.reduceLeDiff, Nat.reduceEqDiff, Nat.reduceAdd, Nat.reduceMul, Nat.reduceSub, tn_I, I_add, I_mul, I_div, vp_I, I_eq, I_le, I_lt, I_no, no_I, negI1, kd7, rf71, kdS, lnS, mm_sa, mm_fa, mm_ms, mm_mf, true_and, and_true, false_and, and_false, if_true, if_false, ite_true, ite_false, forall_eq, true_or, or_true, c, show 488 + 4 * k + 2 < 552 by omega]
    exact key
  · rw [if_neg c] at key
    simp (disch := first | exact lt4 (hb _) | exact hb _ | omega) only [I_0, I_1, I_2, I_3, I_4, I_5, I_6, I_7, I_8, I_9, I_10, I_11, I_12, I_20, I_22, I_27, I_31, I_32, I_38, I_42, I_48, I_54, I_55, I_56, I_57, I_60, I_66, I_72, I_78, I_80, I_97, I_98, I_99, I_100, I_108, I_109, I_116, I_120, I_438, I_488, I_512, I_552, I_3864, oN_s, oN_n, bI_t, bI_f, Nat.add_zero, I_bt1, I_bt0, Nat.reduceLT, Nat.reduceLeDiff, Nat.reduceEqDiff, Nat.reduceAdd, Nat.reduceMul, Nat.reduceSub, tn_I, I_add, I_mul, I_div, vp_I, I_eq, I_le, I_lt, I_no, no_I, negI1, kd7, rf71, kdS, lnS, mm_sa, mm_fa, mm_ms, mm_mf, true_and, and_true, false_and, and_false, if_true, if_false, ite_true, ite_false, forall_eq, true_or, or_true, c, show 488 + 4 * k + 2 < 552 by omega]
    exact key
theorem m_grants_l {Q : Int32 → Mem → Prop} : ∀ (m : Nat) (a : Nat → Nat) (k c : Nat) (f : Nat → Int32), GS a → k + m = a 6 → (∀ f' : Nat → Int32, (∀ j, j ≠ 12 → j ≠ 13 → j ≠ 14 → f' j = f j) → f' 12 = f 12 + (I (svs m a k c).2 - I c) → Q (I (svs m a k c).2) (mm M (svs m a k c).1 f')) → T_X7_grants_4 Q (m + 1) 1582 (I c) (I k) (mm M a f) := by
  intro m
  induction m with
  | zero =>
    intro a k c f hG hk h
    have hb := hG.1.1
    have h6 := hG.1.2.1.2.2.2.2.2.2.1
    unfold T_X7_grants_4
    simp (disch := first | exact lt4 (hb _) | exact hb _ | omega) only [I_0, I_1, I_2, I_3, I_4, I_5, I_6, I_7, I_8, I_9, I_10, I_11, I_12, I_20, I_22, I_27, I_31, I_32, I_38, I_42, I_48, I_54, I_55, I_56, I_57, I_60, I_66, I_72, I_78, I_80, I_97, I_98, I_99, I_100, I_108, I_109, I_116, I_120, I_438, I_488, I_512, I_552, I_3864, oN_s, oN_n, bI_t, bI_f, Nat.add_zero, I_bt1, I_bt0, Nat.reduceLT, Nat.reduceLeDiff, Nat.reduceEqDiff, Nat.reduceAdd, Nat.reduceMul, Nat.reduceSub, tn_I, I_add, I_mul, I_div, vp_I, I_eq, I_le, I_lt, I_no, no_I, negI1, kd7, rf71, kdS, lnS, mm_sa, mm_fa, mm_ms, mm_mf, true_and, and_true, false_and, and_false, if_true, if_false, ite_true, ite_false, forall_eq, true_or, or_true, show a 6 ≤ k by omega]
    refine h f (fun _ _ _ _ => rfl) ?_
    show f 12 = f 12 + (I c - I c)
    rw [Int32.sub_self, Int32.add_zero]
  | succ m ih =>
    intro a k c f hG hk h
    have hb := hG.1.1
    have h6 := hG.1.2.1.2.2.2.2.2.2.1
    unfold T_X7_grants_4
    simp (disch := first | exact lt4 (hb _) | exact hb _ | omega) only [I_0, I_1, I_2, I_3, I_4, I_5, I_6, I_7, I_8, I_9, I_10, I_11, I_12, I_20, I_22, I_27, I_31, I_32, I_38, I_42, I_48, I_54, I_55, I_56, I_57, I_60, I_66, I_72, I_78, I_80, I_97, I_98, I_99, I_100, I_108, I_109, I_116, I_120, I_438, I_488, I_512, I_552, I_3864, oN_s, oN_n, bI_t, bI_f, Nat.add_zero, I_bt1, I_bt0, Nat.reduceLT, Nat.reduceLeDiff, Nat.reduceEqDiff, Nat.reduceAdd, Nat.reduceMul, Nat.reduceSub, tn_I, I_add, I_mul, I_div, vp_I, I_eq, I_le, I_lt, I_no, no_I, negI1, kd7, rf71, kdS, lnS, mm_sa, mm_fa, mm_ms, mm_mf, true_and, and_true, false_and, and_false, if_true, if_false, ite_true, ite_false, forall_eq, true_or, or_true, show ¬ a 6 ≤ k by omega]
    refine m_isGranted hG (by omega) (fun hn f1 hf1 => ?_) (fun q hq f1 hf1 h12 => ?_)
    · simp (disch := first | exact lt4 (hb _) | exact hb _ | omega) only [I_0, I_1, I_2, I_3, I_4, I_5, I_6, I_7, I_8, I_9, I_10, I_11, I_12, I_20, I_22, I_27, I_31, I_32, I_38, I_42, I_48, I_54, I_55, I_56, I_57, I_60, I_66, I_72, I_78, I_80, I_97, I_98, I_99, I_100, I_108, I_109, I_116, I_120, I_438, I_488, I_512, I_552, I_3864, oN_s, oN_n, bI_t, bI_f, Nat.add_zero, I_bt1, I_bt0, Nat.reduceLT, Nat.reduceLeDiff, Nat.reduceEqDiff, Nat.reduceAdd, Nat.reduceMul, Nat.reduceSub, tn_I, I_add, I_mul, I_div, vp_I, I_eq, I_le, I_lt, I_no, no_I, negI1, kd7, rf71, kdS, lnS, mm_sa, mm_fa, mm_ms, mm_mf, true_and, and_true, false_and, and_false, if_true, if_false, ite_true, ite_false, forall_eq, true_or, or_true]
      have e : svs (m + 1) a k c = svs m a (k + 1) c := by
        rw [show svs (m + 1) a k c = (match wfm a k with | none => svs m a (k + 1) c | some q => svs m (drw (wgr a k q) k) k (c + 1)) from rfl, hn]
      rw [e] at h
      refine ih a (k + 1) c f1 hG (by omega) (fun f' q1 q2 => h f' (fun j z1 z2 z3 => (q1 j z1 z2 z3).trans (hf1 j z2 z3)) ?_)
      rw [q2, hf1 12 (by decide) (by decide)]
    · simp (disch := first | exact lt4 (hb _) | exact hb _ | omega) only [I_0, I_1, I_2, I_3, I_4, I_5, I_6, I_7, I_8, I_9, I_10, I_11, I_12, I_20, I_22, I_27, I_31, I_32, I_38, I_42, I_48, I_54, I_55, I_56, I_57, I_60, I_66, I_72, I_78, I_80, I_97, I_98, I_99, I_100, I_108, I_109, I_116, I_120, I_438, I_488, I_512, I_552, I_3864, oN_s, oN_n, bI_t, bI_f, Nat.add_zero, I_bt1, I_bt0, Nat.reduceLT, Nat.reduceLeDiff, Nat.reduceEqDiff, Nat.reduceAdd, Nat.reduceMul, Nat.reduceSub, tn_I, I_add, I_mul, I_div, vp_I, I_eq, I_le, I_lt, I_no, no_I, negI1, kd7, rf71, kdS, lnS, mm_sa, mm_fa, mm_ms, mm_mf, true_and, and_true, false_and, and_false, if_true, if_false, ite_true, ite_false, forall_eq, true_or, or_true]
      have hg := wgr_GS hG (by omega) hq
      have e : svs (m + 1) a k c = svs m (drw (wgr a k q) k) k (c + 1) := by
        rw [show svs (m + 1) a k c = (match wfm a k with | none => svs m a (k + 1) c | some q => svs m (drw (wgr a k q) k) k (c + 1)) from rfl, hq]
      rw [e] at h
      refine m_dropWish hg.1.1.1 (by omega) (by omega) ?_
      refine ih (drw (wgr a k q) k) k (c + 1) f1 (GS_drw hg.1 (by omega)) (by rw [show drw (wgr a k q) k 6 = wgr a k q 6 - 1 from if_pos rfl]; omega) (fun f' q1 q2 => h f' (fun j z1 z2 z3 => (q1 j z1 z2 z3).trans (hf1 j z1 z2 z3)) ?_)
      rw [q2, h12, ← I_add, Int32.add_assoc]
      congr 1
      generalize I (svs m (drw (wgr a k q) k) k (c + 1)).2 = x
      rw [I_1]
      generalize I c = y
      generalize I 1 = z
      apply Int32.toBitVec_inj.mp
      simp only [Int32.toBitVec_add, Int32.toBitVec_sub]
      generalize x.toBitVec = x'
      generalize y.toBitVec = y'
      generalize z.toBitVec = z'
      bv_omega
theorem m_grants {Q : Int32 → Mem → Prop} (hG : GS a) (h : ∀ f' : Nat → Int32, (∀ j, j ≠ 12 → j ≠ 13 → j ≠ 14 → f' j = f j) → f' 12 = f 12 + I (svs (a 6) a 0 0).2 → Q (I (svs (a 6) a 0 0).2) (mm M (svs (a 6) a 0 0).1 f')) : T_X7_grants Q 1582 (mm M a f) := by
  unfold T_X7_grants
  rw [I_0]
  refine ⟨_, m_grants_l (a 6) a 0 0 f hG (by omega) (fun f' h1 h2 => h f' h1 ?_)⟩
  rw [h2, ← I_0, Int32.sub_zero]
end Gr1

