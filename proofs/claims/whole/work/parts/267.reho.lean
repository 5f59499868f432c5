/-! ===== THE REFERENCE rehouses the visits of an inmate or of a room ===== -/
/-- the visits whose number at place c is x, from the moment l on, rehoused in their order -/
def rhs (c x : Nat) : Nat → (Nat → Nat) → Nat → Nat → (Nat → Nat) × Nat
  | 0, a, _, k => (a, k)
  | n + 1, a, l, k => match nx a c x l with
    | none => (a, k)
    | some v => rhs c x n (chg a v).1 (mdV a v + 1) (k + (chg a v).2)
section Rh4
variable {M : Mem} {a : Nat → Nat} {f : Nat → Int32}
theorem nx_sp (hV : VA a) {c x l v : Nat} (h : nx a c x l = some v) : v < a 4 ∧ a (78 + 6 * v + 5) = 0 ∧ l ≤ mdV a v ∧ a (78 + 6 * v + c) = x ∧ mdV a v < 224 := by
  unfold nx at h
  have q := am_s h
  have hp := q.2.1
  unfold nxp at hp
  simp only [Bool.and_eq_true, decide_eq_true_eq] at hp
  have hv := hV.2.2.2.2.2.1 v q.1
  refine ⟨q.1, hp.1, hp.2.1, hp.2.2, ?_⟩
  unfold mdV
  omega
theorem I_sa (x y z : Int32) : x + y + (z - y) = x + z := by
  rw [Int32.add_assoc]
  congr 1
  apply Int32.toBitVec_inj.mp
  simp only [Int32.toBitVec_add, Int32.toBitVec_sub]
  generalize y.toBitVec = y'
  generalize z.toBitVec = z'
  bv_omega
theorem chg_md (hG : GS a) {v : Nat} (hv : v < a 4) : mdV (chg a v).1 v = mdV a v ∧ (chg a v).1 4 = a 4 := by
  have h4 := hG.1.2.1.2.2.2.2.1
  have hn : ∀ (b : Nat → Nat) (d : Nat), mdV (nt b v d) v = mdV b v := fun b d => by unfold mdV; rw [nt_lo (by omega) (by omega), nt_lo (by omega) (by omega)]
  have hn4 : ∀ (b : Nat → Nat) (d : Nat), nt b v d 4 = b 4 := fun b d => nt_lo (by omega) (by omega)
  cases hr : rmV a v with
  | none =>
    rw [chg_n hr]
    refine ⟨?_, ?_⟩
    · show mdV (cnl a v 2) v = _
      unfold cnl
      rw [hn]
      unfold mdV
      rw [updN_n (by omega), updN_n (by omega)]
    · show cnl a v 2 4 = _
      unfold cnl
      rw [hn4, updN_n (by omega)]
  | some r =>
    by_cases c : r = a (78 + 6 * v + 4)
    · subst c; rw [chg_e hr]; exact ⟨rfl, rfl⟩
    · rw [chg_d hr c]
      refine ⟨?_, ?_⟩
      · show mdV (nt (updN a (78 + 6 * v + 4) r) v 0) v = _
        rw [hn]
        unfold mdV
        rw [updN_n (by omega), updN_n (by omega)]
      · show nt (updN a (78 + 6 * v + 4) r) v 0 4 = _
        rw [hn4, updN_n (by omega)]
theorem m_reh_l {Q : Mem → Prop} {c x : Nat} {v1 v2 : Int32} (hcr : (v1 = NO ∧ v2 = I x ∧ c = 4) ∨ (v1 = I x ∧ c = 0)) (hx : x < 4096) : ∀ (n : Nat) (a : Nat → Nat) (l k : Nat) (f : Nat → Int32), GS a → 224 ≤ n + l → l < 1000 →
    (∀ f' : Nat → Int32, (∀ j, j ≠ 12 → f' j = f j) → f' 12 = f 12 + (I (rhs c x n a l k).2 - I k) → Q (mm M (rhs c x n a l k).1 f')) → T_X7_rehouses_8 Q (n + 1) 1582 v1 v2 (oN (nx a c x l)) (mm M a f) := by
  intro n
  induction n with
  | zero =>
    intro a l k f hG hl hl2 h
    have e : nx a c x l = none := by
      cases hz : nx a c x l with
      | none => rfl
      | some v => have := nx_sp hG.1 hz; omega
    rw [e]
    unfold T_X7_rehouses_8
    simp (disch := first | exact lt4 (hb _) | exact hb _ | omega) only [I_0, I_1, I_2, I_3, I_4, I_5, I_6, I_7, I_8, I_9, I_10, I_11, I_12, I_20, I_22, I_27, I_31, I_32, I_38, I_42, I_48, I_54, I_55, I_56, I_57, I_60, I_66, I_72, I_78, I_80, I_97, I_98, I_99, I_100, I_108, I_109, I_116, I_120, I_438, I_488, I_512, I_552, I_3864, oN_s, oN_n, bI_t, bI_f, Nat.add_zero, I_bt1, I_bt0, Nat.reduceLT, Nat.reduceLeDiff, Nat.reduceEqDiff, Nat.reduceAdd, Nat.reduceMul, Nat.reduceSub, tn_I, I_add, I_mul, I_div, vp_I, I_eq, I_le, I_lt, I_no, no_I, negI1, kd7, rf71, kdS, lnS, mm_sa, mm_fa, mm_ms, mm_mf, true_and, and_true, false_and, and_false, if_true, if_false, ite_true, ite_false, forall_eq, true_or, or_true]
    exact h f (fun _ _ => rfl) (by show f 12 = f 12 + (I k - I k); rw [Int32.sub_self, Int32.add_zero])
  | succ n ih =>
    intro a l k f hG hl hl2 h
    cases hz : nx a c x l with
    | none =>
      have e : rhs c x (n + 1) a l k = (a, k) := by
        rw [show rhs c x (n + 1) a l k = (match nx a c x l with | none => (a, k) | some v => rhs c x n (chg a v).1 (mdV a v + 1) (k + (chg a v).2)) from rfl, hz]
      rw [e] at h
      unfold T_X7_rehouses_8
      simp (disch := first | exact lt4 (hb _) | exact hb _ | omega) only [I_0, I_1, I_2, I_3, I_4, I_5, I_6, I_7, I_8, I_9, I_10, I_11, I_12, I_20, I_22, I_27, I_31, I_32, I_38, I_42, I_48, I_54, I_55, I_56, I_57, I_60, I_66, I_72, I_78, I_80, I_97, I_98, I_99, I_100, I_108, I_109, I_116, I_120, I_438, I_488, I_512, I_552, I_3864, oN_s, oN_n, bI_t, bI_f, Nat.add_zero, I_bt1, I_bt0, Nat.reduceLT, Nat.reduceLeDiff, Nat.reduceEqDiff, Nat.reduceAdd, Nat.reduceMul, Nat.reduceSub, tn_I, I_add, I_mul, I_div, vp_I, I_eq, I_le, I_lt, I_no, no_I, negI1, kd7, rf71, kdS, lnS, mm_sa, mm_fa, mm_ms, mm_mf, true_and, and_true, false_and, and_false, if_true, if_false, ite_true, ite_false, forall_eq, true_or, or_true]
      exact h f (fun _ _ => rfl) (by show f 12 = f 12 + (I k - I k); rw [Int32.sub_self, Int32.add_zero])
    | some v =>
      have hs := nx_sp hG.1 hz
      have e : rhs c x (n + 1) a l k = rhs c x n (chg a v).1 (mdV a v + 1) (k + (chg a v).2) := by
        rw [show rhs c x (n + 1) a l k = (match nx a c x l with | none => (a, k) | some v => rhs c x n (chg a v).1 (mdV a v + 1) (k + (chg a v).2)) from rfl, hz]
      rw [e] at h
      have h4 := hG.1.2.1.2.2.2.2.1
      have hG' := GS_chg hG hs.1
      have hmd := chg_md hG hs.1
      have hb' := hG'.1.1
      have hv60 : v < 60 := by omega
      refine m_chg hG hs.1 hs.2.1 (fun f1 hf1 h12 => ?_)
      have hmm : 4 * (chg a v).1 (78 + 6 * v + 2) + (chg a v).1 (78 + 6 * v + 3) = mdV a v := hmd.1
      unfold T_X7_rehouses_105
      simp (disch := first | exact lt4 (hb _) | exact hb _ | omega) only [I_0, I_1, I_2, I_3, I_4, I_5, I_6, I_7, I_8, I_9, I_10, I_11, I_12, I_20, I_22, I_27, I_31, I_32, I_38, I_42, I_48, I_54, I_55, I_56, I_57, I_60, I_66, I_72, I_78, I_80, I_97, I_98, I_99, I_100, I_108, I_109, I_116, I_120, I_438, I_488, I_512, I_552, I_3864, oN_s, oN_n, bI_t, bI_f, Nat.add_zero, I_bt1, I_bt0, Nat.reduceLT, Nat.reduceLeDiff, Nat.reduceEqDiff, Nat.reduceAdd, Nat.reduceMul, Nat.reduceSub, tn_I, I_add, I_mul, I_div, vp_I, I_eq, I_le, I_lt, I_no, no_I, negI1, kd7, rf71, kdS, lnS, mm_sa, mm_fa, mm_ms, mm_mf, true_and, and_true, false_and, and_false, if_true, if_false, ite_true, ite_false, forall_eq, true_or, or_true, m_of hb' hv60, hmm]
      refine m_next (l := mdV a v + 1) hG'.1 hcr hx (by omega) ?_
      refine ih (chg a v).1 (mdV a v + 1) (k + (chg a v).2) f1 hG' (by omega) (by omega) (fun f' q1 q2 => h f' (fun j hj => (q1 j hj).trans (hf1 j hj)) ?_)
      rw [q2, h12, ← I_add]
      generalize I (rhs c x n (chg a v).1 (mdV a v + 1) (k + (chg a v).2)).2 = z
      generalize I k = y
      generalize I (chg a v).2 = w
      rw [Int32.add_assoc]
      congr 1
      apply Int32.toBitVec_inj.mp
      simp only [Int32.toBitVec_add, Int32.toBitVec_sub]
      generalize y.toBitVec = y'
      generalize z.toBitVec = z'
      generalize w.toBitVec = w'
      bv_omega
theorem m_rehouses {Q : Mem → Prop} {c x : Nat} {v1 v2 : Int32} (hG : GS a) (hcr : (v1 = NO ∧ v2 = I x ∧ c = 4) ∨ (v1 = I x ∧ c = 0)) (hx : x < 4096)
    (h : ∀ f' : Nat → Int32, (∀ j, j ≠ 12 → f' j = f j) → f' 12 = f 12 + I (rhs c x 224 a 0 0).2 → Q (mm M (rhs c x 224 a 0 0).1 f')) : T_X7_rehouses Q 1582 v1 v2 (mm M a f) := by
  unfold T_X7_rehouses
  rw [I_1]
  refine ⟨by decide, m_next (l := 0) hG.1 hcr hx (by decide) ?_⟩
  exact ⟨225, m_reh_l hcr hx 224 a 0 0 f hG (by decide) (by decide) (fun f' q1 q2 => h f' q1 (by rw [q2, ← I_0, Int32.sub_zero]))⟩
end Rh4

