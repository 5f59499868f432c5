/-! ===== PERFORM: commands carried out, the reference ===== -/
section Pf1
variable {M M' M1 : Mem} {a a' : Nat → Nat} {f f' : Nat → Int32} {kp : Nat} {h : Nat → Nat → Nat} {o : Oth} {Q : Int32 → Mem → Prop}
theorem mm_mm : mm (mm M a f) a' f' = mm M a' f' := by
  refine Prod.ext (funext fun i => ?_) rfl
  by_cases c1 : i = 1583
  · subst c1; rfl
  · by_cases c2 : i = 1582
    · subst c2; rfl
    · rw [mm_o c2 c1, mm_o c2 c1, mm_o c2 c1]
/-- the outcome of a command: done, refused, refused with a report -/
def st0 (a : Nat → Nat) (x : CTt) : Nat :=
  if x.1 = 0 then (if fob a (I x.2.1) (I x.2.2.1) (I x.2.2.2.1) (I x.2.2.2.2) = 0 then (if (rsB a (I x.2.1) (I x.2.2.1) (I x.2.2.2.1) (I x.2.2.2.2)).1 = 0 then 0 else 2) else 1)
  else if x.1 = 1 then (if foc a (I x.2.1) = 0 then 0 else 1) else (if fom a (I x.2.1) (I x.2.2.1) = 0 then 0 else 1)
/-- the desk after a command -/
def nxd (a : Nat → Nat) (x : CTt) : Nat → Nat :=
  if x.1 = 0 then adB a (I x.2.1) (I x.2.2.1) (I x.2.2.2.1) (I x.2.2.2.2) else if x.1 = 1 then (cnc a x.2.1).1 else (mvd a x.2.1 x.2.2.1).1
/-- the report of command c -/
def rpX (c : Nat) (a : Nat → Nat) (x : CTt) : Nat × (Nat → Int32) × (Nat → Int32) := rpB (some c) a (I x.2.1) (I x.2.2.1) (I x.2.2.2.1) (I x.2.2.2.2)
abbrev xOK (x : CTt) : Prop := x.1 ≤ 2 ∧ x.2.1 < 4096 ∧ x.2.2.1 < 4096 ∧ x.2.2.2.1 < 4096 ∧ x.2.2.2.2 < 4096
theorem st0_c {x : CTt} : st0 a x = 0 ∨ st0 a x = 1 ∨ st0 a x = 2 := by
  unfold st0
  repeat' split
  all_goals omega
theorem nxd_GS (hG : GS a) {x : CTt} (hx : xOK x) (h0 : st0 a x = 0) : GS (nxd a x) := by
  obtain ⟨h1, h2, h3, h4, h5⟩ := hx
  unfold st0 at h0
  unfold nxd
  by_cases c0 : x.1 = 0
  · rw [if_pos c0] at h0 ⊢
    by_cases c1 : fob a (I x.2.1) (I x.2.2.1) (I x.2.2.2.1) (I x.2.2.2.2) = 0
    · rw [if_pos c1] at h0
      by_cases c2 : (rsB a (I x.2.1) (I x.2.2.1) (I x.2.2.2.1) (I x.2.2.2.2)).1 = 0
      · exact adB_GS hG c1 c2
      · rw [if_neg c2] at h0; cases h0
    · rw [if_neg c1] at h0; cases h0
  · rw [if_neg c0] at h0 ⊢
    by_cases c1 : x.1 = 1
    · rw [if_pos c1] at h0 ⊢
      by_cases c2 : foc a (I x.2.1) = 0
      · have g := rc_cancel_GS hG (p := I x.2.1) (by unfold rc_cancel; rw [if_pos c2])
        unfold rc_cancel at g
        rw [if_pos c2, tn_I (by omega)] at g
        exact g
      · rw [if_neg c2] at h0; cases h0
    · rw [if_neg c1] at h0 ⊢
      by_cases c2 : fom a (I x.2.1) (I x.2.2.1) = 0
      · have g := rc_move_GS hG (p := I x.2.1) (q := I x.2.2.1) (by unfold rc_move; rw [if_pos c2])
        unfold rc_move at g
        rw [if_pos c2, tn_I (by omega), tn_I (by omega)] at g
        exact g
      · rw [if_neg c2] at h0; cases h0
/-- the commands in turn: the outcome, the desk, the command that was refused -/
def prf (cm : Nat → CTt) : Nat → Nat → (Nat → Nat) → Nat × (Nat → Nat) × Nat
  | 0, k, a => (0, a, k)
  | m + 1, k, a => if st0 a (cm k) = 0 then prf cm m (k + 1) (nxd a (cm k)) else (st0 a (cm k), a, k)
theorem prf_c {cm : Nat → CTt} : ∀ (m k : Nat) (a : Nat → Nat), (prf cm m k a).1 = 0 ∨ (prf cm m k a).1 = 1 ∨ (prf cm m k a).1 = 2
  | 0, _, _ => Or.inl rfl
  | m + 1, k, a => by
    unfold prf
    split
    · exact prf_c m (k + 1) _
    · exact st0_c
theorem prf_GS {cm : Nat → CTt} (hx : ∀ j, xOK (cm j)) : ∀ (m k : Nat) (a : Nat → Nat), GS a → GS (prf cm m k a).2.1
  | 0, _, _, h => h
  | m + 1, k, a, h => by
    unfold prf
    by_cases c : st0 a (cm k) = 0
    · rw [if_pos c]; exact prf_GS hx m (k + 1) _ (nxd_GS h (hx k) c)
    · rw [if_neg c]; exact h
theorem prf_k {cm : Nat → CTt} : ∀ (m k : Nat) (a : Nat → Nat), (prf cm m k a).2.2 ≤ k + m
  | 0, k, _ => Nat.le_refl _
  | m + 1, k, a => by
    unfold prf
    by_cases c : st0 a (cm k) = 0
    · rw [if_pos c]; have := prf_k (cm := cm) m (k + 1) (nxd a (cm k)); omega
    · rw [if_neg c]; show k ≤ _; omega
/-- only the fields of the work in hand change -/
def FW (f f' : Nat → Int32) : Prop := ∀ j, j ≠ 12 → j ≠ 13 → j ≠ 14 → j ≠ 15 → j ≠ 16 → f' j = f j
theorem FW.trans {f'' : Nat → Int32} (e : FW f f') (e2 : FW f' f'') : FW f f'' := fun j j1 j2 j3 j4 j5 => (e2 j j1 j2 j3 j4 j5).trans (e j j1 j2 j3 j4 j5)
theorem m_pf {cm : Nat → CTt} (hx : ∀ j, xOK (cm j)) : ∀ (m k : Nat) (a : Nat → Nat) (f : Nat → Int32), GS a → f 22 = I (k + m) → k + m < 40 → (∀ j, j < k + m → CW j (cm j) M) →
    ((prf cm m k a).1 = 0 → ∀ f', FW f f' → T_X7_keeps (fun M2 => Q (M2.1 1582 22) M2) 1582 (mm M (prf cm m k a).2.1 f')) →
    ((prf cm m k a).1 = 1 → ∀ κ f', FW f f' → ∃ N, T_X7_perform_141 κ Q N 1582 0 (mm M (prf cm m k a).2.1 f')) →
    ((prf cm m k a).1 = 2 → ∀ κ M' f', M'.2 = M.2 → (∀ j, j ≠ 1588 → j ≠ 1589 → M'.1 j = M.1 j) → (∀ j, j ≠ 11 → j ≠ 12 → j ≠ 13 → j ≠ 14 → j ≠ 15 → j ≠ 16 → f' j = f j) → f' 11 = I (rpX (prf cm m k a).2.2 (prf cm m k a).2.1 (cm (prf cm m k a).2.2)).1 →
      (∀ j, j < (rpX (prf cm m k a).2.2 (prf cm m k a).2.1 (cm (prf cm m k a).2.2)).1 → M'.1 1588 j = (rpX (prf cm m k a).2.2 (prf cm m k a).2.1 (cm (prf cm m k a).2.2)).2.1 j ∧ M'.1 1589 j = (rpX (prf cm m k a).2.2 (prf cm m k a).2.1 (cm (prf cm m k a).2.2)).2.2 j) → ∃ N, T_X7_perform_141 κ Q N 1582 0 (mm M' (prf cm m k a).2.1 f')) →
    T_X7_perform_31 Q (m + 1) 1582 (I k) (mm M a f)
  | 0, k, a, f, hG, h22, hk, hC, h0, h1, h2 => by
    unfold T_X7_perform_31
    simp (disch := omega) only [I_0, I_1, I_2, I_3, I_4, I_10, I_97, I_98, I_108, I_109, I_120, I_48, I_57, show (47 : Int32) = I 47 from rfl, show (58 : Int32) = I 58 from rfl, show (59 : Int32) = I 59 from rfl, show (64 : Int32) = I 64 from rfl, show (46 : Int32) = I 46 from rfl, negI1, kd7, rf77, kd77, ln77, rf7w, kd7w, ln7w, rf7n, kd7n, ln7n, mm_fa, mm_mf, updI_s, updI_n, o_1587, o_1590, o_1591, ms_1590, ms_1591, forall_eq, true_and, and_true, or_true, true_or, vp_I, tn_I, I_eq, I_le, I_lt, I_no, no_I, I_add, I_sub, I_mul, Nat.add_zero, if_true, if_false, Nat.reduceLT, Nat.reduceLeDiff, Nat.reduceEqDiff, Nat.reduceAdd, Nat.reduceMul, Nat.reduceSub, h22, Nat.le_refl]
    exact h0 rfl f (fun _ _ _ _ _ _ => rfl)
  | m + 1, k, a, f, hG, h22, hk, hC, h0, h1, h2 => by
    have ep : prf cm (m + 1) k a = if st0 a (cm k) = 0 then prf cm m (k + 1) (nxd a (cm k)) else (st0 a (cm k), a, k) := rfl
    obtain ⟨w0, w1, w2, w3⟩ := hC k (by omega)
    obtain ⟨x0, x1, x2, x3, x4⟩ := hx k
    -- the next command
    have go : ∀ (κ : Nat → Int32 → Mem → Prop) (f2 : Nat → Int32) (a2 : Nat → Nat), st0 a (cm k) = 0 → a2 = nxd a (cm k) → FW f f2 → T_X7_perform_131 (T_X7_perform_31 Q (m + 1)) Q 1582 (I k) (I 0) (mm M a2 f2) := by
      intro κ f2 a2 e1 ea e2
      rw [if_pos e1] at ep
      rw [ep] at h0 h1 h2
      unfold T_X7_perform_131
      simp (disch := omega) only [I_0, I_1, I_2, I_3, I_4, I_10, I_97, I_98, I_108, I_109, I_120, I_48, I_57, show (47 : Int32) = I 47 from rfl, show (58 : Int32) = I 58 from rfl, show (59 : Int32) = I 59 from rfl, show (64 : Int32) = I 64 from rfl, show (46 : Int32) = I 46 from rfl, negI1, kd7, rf77, kd77, ln77, rf7w, kd7w, ln7w, rf7n, kd7n, ln7n, mm_fa, mm_mf, updI_s, updI_n, o_1587, o_1590, o_1591, ms_1590, ms_1591, forall_eq, true_and, and_true, or_true, true_or, vp_I, tn_I, I_eq, I_le, I_lt, I_no, no_I, I_add, I_sub, I_mul, Nat.add_zero, if_true, if_false, Nat.reduceLT, Nat.reduceLeDiff, Nat.reduceEqDiff, Nat.reduceAdd, Nat.reduceMul, Nat.reduceSub, Nat.le_refl]
      rw [ea]
      refine m_pf hx m (k + 1) _ f2 (nxd_GS hG (hx k) e1) ((e2 22 (by decide) (by decide) (by decide) (by decide) (by decide)).trans (h22.trans (by rw [show k + (m + 1) = k + 1 + m by omega]))) (by omega) (fun j hj => hC j (by omega)) (fun c f3 q3 => h0 c f3 (e2.trans q3)) (fun c κ f3 q3 => h1 c κ f3 (e2.trans q3)) (fun c κ M3 f3 q1 q2 q3 q4 q5 => h2 c κ M3 f3 q1 q2 (fun j j1 j2 j3 j4 j5 j6 => (q3 j j1 j2 j3 j4 j5 j6).trans (e2 j j2 j3 j4 j5 j6)) q4 q5)
    -- a refusal
    have no : ∀ c : Nat, 0 < c → c < 100 → st0 a (cm k) = 1 → T_X7_perform_131 (T_X7_perform_31 Q (m + 1)) Q 1582 (I k) (I c) (mm M a f) := by
      intro c hc hc2 e1
      rw [if_neg (by omega), e1] at ep
      rw [ep] at h1
      unfold T_X7_perform_131
      rw [I_0, if_neg (by rw [I_le (by omega) (by decide)]; omega)]
      exact h1 rfl _ f (fun _ _ _ _ _ _ => rfl)
    unfold T_X7_perform_31
    by_cases c0 : (cm k).1 = 0
    · have w2' := w2 (by omega)
      have w3' := w3 c0
      simp (disch := omega) only [I_0, I_1, I_2, I_3, I_4, I_10, I_97, I_98, I_108, I_109, I_120, I_48, I_57, show (47 : Int32) = I 47 from rfl, show (58 : Int32) = I 58 from rfl, show (59 : Int32) = I 59 from rfl, show (64 : Int32) = I 64 from rfl, show (46 : Int32) = I 46 from rfl, negI1, kd7, rf77, kd77, ln77, rf7w, kd7w, ln7w, rf7n, kd7n, ln7n, mm_fa, mm_mf, updI_s, updI_n, o_1587, o_1590, o_1591, ms_1590, ms_1591, forall_eq, true_and, and_true, or_true, true_or, vp_I, tn_I, I_eq, I_le, I_lt, I_no, no_I, I_add, I_sub, I_mul, Nat.add_zero, if_true, if_false, Nat.reduceLT, Nat.reduceLeDiff, Nat.reduceEqDiff, Nat.reduceAdd, Nat.reduceMul, Nat.reduceSub, h22, show ¬ k + (m + 1) ≤ k by omega, show k < 42 by omega, show 4 * k < 168 by omega, show 4 * k + 1 < 168 by omega, show 4 * k + 2 < 168 by omega, show 4 * k + 3 < 168 by omega, w0, w1, w2', w3'.1, w3'.2, c0]
      refine m_booking hG (some k) (fun c hc => by cases hc; omega) (fun c => ?_) ?_ ?_
      · have hc := fob_c (a := a) (p := I (cm k).2.1) (s := I (cm k).2.2.1) (d := I (cm k).2.2.2.1) (t := I (cm k).2.2.2.2)
        exact no _ (by omega) (by omega) (by unfold st0; rw [if_pos c0, if_neg c])
      · intro i z x y e1 e2 e3 e4 hi hz hx' hy hf hr M2 f2 g1 g2 g3 g4 g5
        have er : rsB a (I (cm k).2.1) (I (cm k).2.2.1) (I (cm k).2.2.2.1) (I (cm k).2.2.2.2) = rsn a i z x y := by unfold rsB tn; rw [e1, e2, e3, e4, tn_I (by have := hG.1.2.1.2.1; omega), tn_I (by have := two_le hG.1.2.1.2.2.1; omega), tn_I (by omega), tn_I (by omega)]
        have erp : rpX k a (cm k) = rpt (some k) i (4 * x + y) (I (rsn a i z x y).1) (rsn a i z x y).2 := by unfold rpX rpB; rw [er]; unfold tn; rw [e1, e3, e4, tn_I (by have := hG.1.2.1.2.1; omega), tn_I (by omega), tn_I (by omega)]
        have es : st0 a (cm k) = 2 := by unfold st0; rw [if_pos c0, if_pos hf, er, if_neg hr]
        rw [if_neg (by omega), es] at ep
        rw [ep] at h2
        unfold T_X7_perform_131
        rw [I_0, if_neg (by rw [I_le (by decide) (by decide)]; omega)]
        exact h2 rfl _ M2 f2 g1 g2 (fun j j1 j2 j3 j4 j5 j6 => g3 j j1 j3 j4) (by show f2 11 = I (rpX k a (cm k)).1; rw [erp]; exact g4) (by show ∀ j, j < (rpX k a (cm k)).1 → M2.1 1588 j = (rpX k a (cm k)).2.1 j ∧ M2.1 1589 j = (rpX k a (cm k)).2.2 j; rw [erp]; exact g5)
      · intro i z x y e1 e2 e3 e4 hi hz hx' hy hf hr f2 g1 g2
        have er : rsB a (I (cm k).2.1) (I (cm k).2.2.1) (I (cm k).2.2.2.1) (I (cm k).2.2.2.2) = rsn a i z x y := by unfold rsB tn; rw [e1, e2, e3, e4, tn_I (by have := hG.1.2.1.2.1; omega), tn_I (by have := two_le hG.1.2.1.2.2.1; omega), tn_I (by omega), tn_I (by omega)]
        have ea : adv a i z x y (brm a i z x y) = nxd a (cm k) := by unfold nxd; rw [if_pos c0]; unfold adB tn; rw [e1, e2, e3, e4, tn_I (by have := hG.1.2.1.2.1; omega), tn_I (by have := two_le hG.1.2.1.2.2.1; omega), tn_I (by omega), tn_I (by omega)]
        have es : st0 a (cm k) = 0 := by unfold st0; rw [if_pos c0, if_pos hf, er, if_pos hr]
        exact go (fun _ _ _ => True) f2 _ es ea (fun j j1 j2 j3 j4 j5 => g1 j j2 j3 j4)
    · by_cases c1 : (cm k).1 = 1
      · simp (disch := omega) only [I_0, I_1, I_2, I_3, I_4, I_10, I_97, I_98, I_108, I_109, I_120, I_48, I_57, show (47 : Int32) = I 47 from rfl, show (58 : Int32) = I 58 from rfl, show (59 : Int32) = I 59 from rfl, show (64 : Int32) = I 64 from rfl, show (46 : Int32) = I 46 from rfl, negI1, kd7, rf77, kd77, ln77, rf7w, kd7w, ln7w, rf7n, kd7n, ln7n, mm_fa, mm_mf, updI_s, updI_n, o_1587, o_1590, o_1591, ms_1590, ms_1591, forall_eq, true_and, and_true, or_true, true_or, vp_I, tn_I, I_eq, I_le, I_lt, I_no, no_I, I_add, I_sub, I_mul, Nat.add_zero, if_true, if_false, Nat.reduceLT, Nat.reduceLeDiff, Nat.reduceEqDiff, Nat.reduceAdd, Nat.reduceMul, Nat.reduceSub, h22, show ¬ k + (m + 1) ≤ k by omega, show k < 42 by omega, show 4 * k < 168 by omega, w0, w1, c1]
        refine m_cancelling hG (fun c => ?_) ?_
        · have hc := foc_c (a := a) (p := I (cm k).2.1)
          exact no _ (by omega) (by omega) (by unfold st0; rw [if_neg c0, if_pos c1, if_neg c])
        · intro v e1 hv hs f2 g1 g2
          have h4 := hG.1.2.1.2.2.2.2.1
          have ev : (cm k).2.1 = v := (I_eq (show (cm k).2.1 < 2147483648 by omega) (show v < 2147483648 by omega)).mp e1
          have hf : foc a (I (cm k).2.1) = 0 := by unfold foc; rw [e1, if_pos (by rw [isN_I (by omega)]; exact hv), tn_I (by omega), if_pos hs]
          exact go (fun _ _ _ => True) f2 _ (by unfold st0; rw [if_neg c0, if_pos c1, if_pos hf]) (by unfold nxd; rw [if_neg c0, if_pos c1, ev]) (fun j j1 j2 j3 j4 j5 => g1 j j1 j2 j3 j5)
      · have w2' := w2 c1
        simp (disch := omega) only [I_0, I_1, I_2, I_3, I_4, I_10, I_97, I_98, I_108, I_109, I_120, I_48, I_57, show (47 : Int32) = I 47 from rfl, show (58 : Int32) = I 58 from rfl, show (59 : Int32) = I 59 from rfl, show (64 : Int32) = I 64 from rfl, show (46 : Int32) = I 46 from rfl, negI1, kd7, rf77, kd77, ln77, rf7w, kd7w, ln7w, rf7n, kd7n, ln7n, mm_fa, mm_mf, updI_s, updI_n, o_1587, o_1590, o_1591, ms_1590, ms_1591, forall_eq, true_and, and_true, or_true, true_or, vp_I, tn_I, I_eq, I_le, I_lt, I_no, no_I, I_add, I_sub, I_mul, Nat.add_zero, if_true, if_false, Nat.reduceLT, Nat.reduceLeDiff, Nat.reduceEqDiff, Nat.reduceAdd, Nat.reduceMul, Nat.reduceSub, h22, show ¬ k + (m + 1) ≤ k by omega, show k < 42 by omega, show 4 * k < 168 by omega, show 4 * k + 1 < 168 by omega, w0, w1, w2', c0, c1]
        refine m_moving hG (fun c => ?_) ?_
        · have hc := fom_c (a := a) (p := I (cm k).2.1) (q := I (cm k).2.2.1)
          exact no _ (by omega) (by omega) (by unfold st0; rw [if_neg c0, if_neg c1, if_neg c])
        · intro i x e1 e2 hi hx' f2 g1 g2
          have h1' := hG.1.2.1.2.1
          have ei : (cm k).2.1 = i := (I_eq (show (cm k).2.1 < 2147483648 by omega) (show i < 2147483648 by omega)).mp e1
          have ex : (cm k).2.2.1 = x := (I_eq (show (cm k).2.2.1 < 2147483648 by omega) (show x < 2147483648 by omega)).mp e2
          have hf : fom a (I (cm k).2.1) (I (cm k).2.2.1) = 0 := by unfold fom; rw [e1, e2, if_pos (by rw [isN_I (by omega)]; exact hi), if_pos (by rw [isN_I (by omega)]; exact hx')]
          exact go (fun _ _ _ => True) f2 _ (by unfold st0; rw [if_neg c0, if_neg c1, if_pos hf]) (by unfold nxd; rw [if_neg c0, if_neg c1, ei, ex]) (fun j j1 j2 j3 j4 j5 => g1 j j1)
/-- the desk is brought back -/
theorem m_back {a0 : Nat → Nat} {κ : Nat → Int32 → Mem → Prop} (hF : ∀ k, k < 552 → M.1 1585 k = I (a0 k)) (hq : Q (I 0) (mm M (ctn 552 a0 a) (updI f 0 (I 1)))) : ∃ N, T_X7_perform_141 κ Q N 1582 0 (mm M a f) := by
  have key : ∀ m k, k + m = 552 → T_X7_perform_141 κ Q (m + 1) 1582 (I k) (mm M (ctn k a0 a) f) := by
    intro m
    induction m with
    | zero =>
      intro k hk
      obtain rfl : k = 552 := by omega
      unfold T_X7_perform_141
      rw [I_552, if_pos (by rw [I_le (by decide) (by decide)]; omega), I_1, m_fails]
      exact ⟨by decide, hq⟩
    | succ m ih =>
      intro k hk
      have e1 := hF k (by omega)
      unfold T_X7_perform_141
      simp (disch := omega) only [I_1, I_552, rf73, kd73, ln73, rf71, kdS, lnS, mm_fa, updI_s, I_mul, I_add, I_le, show ¬ 552 ≤ k by omega, if_false, vp_I, tn_I, show k < 552 by omega, o_1585, e1, mm_ms, kd7, true_and, forall_eq, ctn_s]
      exact ih (k + 1) (by omega)
  have := key 552 0 rfl
  rw [ctn_0] at this
  exact ⟨_, this⟩
end Pf1

