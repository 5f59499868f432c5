/-! ===== THE REFERENCE reads a text ===== -/
section Pa5
variable {M M' : Mem} {a : Nat → Nat} {f : Nat → Int32} {n : Nat} {u : Nat → Nat} {Q : Int32 → Mem → Prop} {QP : Mem → Prop}
theorem Rw.trans {c d : Nat} {M2 : Mem} (e : Rw c M M') (e2 : Rw d M' M2) (h : c ≤ d) : Rw c M M2 := ⟨e2.1.trans e.1, fun i i1 i2 => (e2.2.1 i i1 i2).trans (e.2.1 i i1 i2), fun k hk => (e2.2.2.1 k (by omega)).trans (e.2.2.1 k hk), fun k hk => (e2.2.2.2 k (by omega)).trans (e.2.2.2 k hk)⟩
theorem CW.rw {c d : Nat} {x : CTt} (w : CW c x M) (e : Rw d M M') (h : c < d) : CW c x M' := ⟨(e.2.2.1 c h).trans w.1, (e.2.2.2 _ (by omega)).trans w.2.1, fun z => (e.2.2.2 _ (by omega)).trans (w.2.2.1 z), fun z => ⟨(e.2.2.2 _ (by omega)).trans (w.2.2.2 z).1, (e.2.2.2 _ (by omega)).trans (w.2.2.2 z).2⟩⟩
/-- what a reading answers -/
def tva (t : PSt) : Int32 := if t.1 = true then NO else I t.2
theorem m_tx : ∀ (m k : Nat) (M : Mem) (f : Nat → Int32), m + k = 28 → 3 * k ≤ psn n u k → psn n u k ≤ n → UT n u M → (∀ j, j < k → CW j (cmd n u (psn n u j)).2 M) → PF n (cmd n u (psn n u k)).1 f → ((cmd n u (psn n u k)).1.1 = true → f 22 = I (k + 1) ∧ CW k (cmd n u (psn n u k)).2 M) → (∀ M' f', Rw 0 M M' → FT f f' → ((txt n u m k).1 = true → f' 22 = I (txt n u m k).2 ∧ ∀ j, j < (txt n u m k).2 → CW j (cmd n u (psn n u j)).2 M') → Q (tva (txt n u m k)) (mm M' a f')) → T_X7_readsText_27 Q (m + 1) 1582 (mm M a f)
  | 0, k, M, f, h1, h2, h3, hU, _, _, _, _ => by
    have := hU.1
    omega
  | m + 1, k, M, f, h1, h2, h3, hU, hC, hP, hG, h => by
    have hn := hU.1
    have b := cmd_b (n := n) (u := u) (p := psn n u k)
    have et : txt n u (m + 1) k = if (cmd n u (psn n u k)).1.1 = true then (if n ≤ (cmd n u (psn n u k)).1.2 then (true, k + 1) else if sgn n u 59 (cmd n u (psn n u k)).1.2 = true then txt n u m (k + 1) else (false, (cmd n u (psn n u k)).1.2)) else (false, (cmd n u (psn n u k)).1.2) := rfl
    have ep : psn n u (k + 1) = (cmd n u (psn n u k)).1.2 + 1 := rfl
    -- an end with an error
    have bad : ∀ f2 : Nat → Int32, f2 17 = I (cmd n u (psn n u k)).1.2 → f2 19 = I 0 → FT f f2 → txt n u (m + 1) k = (false, (cmd n u (psn n u k)).1.2) → T_X7_readsText_65 Q 1582 (mm M a f2) := by
      intro f2 e1 e2 t2 e
      unfold T_X7_readsText_65 T_X7_readsText_80
      simp (disch := omega) only [I_0, I_1, I_2, I_3, I_4, I_10, I_97, I_98, I_108, I_109, I_120, I_48, I_57, show (47 : Int32) = I 47 from rfl, show (58 : Int32) = I 58 from rfl, show (59 : Int32) = I 59 from rfl, show (64 : Int32) = I 64 from rfl, show (46 : Int32) = I 46 from rfl, negI1, kd7, rf77, kd77, ln77, rf7w, kd7w, ln7w, rf7n, kd7n, ln7n, mm_fa, mm_mf, updI_s, updI_n, o_1587, o_1590, o_1591, ms_1590, ms_1591, forall_eq, true_and, and_true, or_true, true_or, vp_I, tn_I, I_eq, I_le, I_lt, I_no, no_I, I_add, I_sub, I_mul, Nat.add_zero, if_true, if_false, Nat.reduceLT, Nat.reduceLeDiff, Nat.reduceEqDiff, Nat.reduceAdd, Nat.reduceMul, Nat.reduceSub, e1, e2]
      have g := h M f2 Rw.rfl t2 (fun z => by rw [e] at z; cases z)
      rw [e] at g
      exact g
    unfold T_X7_readsText_27
    by_cases c1 : (cmd n u (psn n u k)).1.1 = true
    · have h19 := hP.2.2
      rw [if_pos c1] at h19
      have h17 := hP.1
      have h18 := hP.2.1
      rw [if_pos c1] at et
      have b3 := b.2.2.1 c1
      simp (disch := omega) only [I_0, I_1, I_2, I_3, I_4, I_10, I_97, I_98, I_108, I_109, I_120, I_48, I_57, show (47 : Int32) = I 47 from rfl, show (58 : Int32) = I 58 from rfl, show (59 : Int32) = I 59 from rfl, show (64 : Int32) = I 64 from rfl, show (46 : Int32) = I 46 from rfl, negI1, kd7, rf77, kd77, ln77, rf7w, kd7w, ln7w, rf7n, kd7n, ln7n, mm_fa, mm_mf, updI_s, updI_n, o_1587, o_1590, o_1591, ms_1590, ms_1591, forall_eq, true_and, and_true, or_true, true_or, vp_I, tn_I, I_eq, I_le, I_lt, I_no, no_I, I_add, I_sub, I_mul, Nat.add_zero, if_true, if_false, Nat.reduceLT, Nat.reduceLeDiff, Nat.reduceEqDiff, Nat.reduceAdd, Nat.reduceMul, Nat.reduceSub, h19, h17, h18]
      by_cases c2 : n ≤ (cmd n u (psn n u k)).1.2
      · rw [if_pos c2] at et
        rw [if_pos c2]
        unfold T_X7_readsText_65 T_X7_readsText_80
        simp (disch := omega) only [I_0, I_1, I_2, I_3, I_4, I_10, I_97, I_98, I_108, I_109, I_120, I_48, I_57, show (47 : Int32) = I 47 from rfl, show (58 : Int32) = I 58 from rfl, show (59 : Int32) = I 59 from rfl, show (64 : Int32) = I 64 from rfl, show (46 : Int32) = I 46 from rfl, negI1, kd7, rf77, kd77, ln77, rf7w, kd7w, ln7w, rf7n, kd7n, ln7n, mm_fa, mm_mf, updI_s, updI_n, o_1587, o_1590, o_1591, ms_1590, ms_1591, forall_eq, true_and, and_true, or_true, true_or, vp_I, tn_I, I_eq, I_le, I_lt, I_no, no_I, I_add, I_sub, I_mul, Nat.add_zero, if_true, if_false, Nat.reduceLT, Nat.reduceLeDiff, Nat.reduceEqDiff, Nat.reduceAdd, Nat.reduceMul, Nat.reduceSub, h19, h17]
        have g := h M f Rw.rfl (fun _ _ _ _ => rfl) (fun _ => by
          rw [et]
          refine ⟨(hG c1).1, fun j hj => ?_⟩
          by_cases cj : j = k
          · subst cj; exact (hG c1).2
          · exact hC j (by have : j < k + 1 := hj; omega))
        rw [et] at g
        exact g
      · rw [if_neg c2] at et
        rw [if_neg c2]
        refine m_must hU (by decide) hP (by omega) (fun f2 p2 s2 => ?_)
        have m2 := mst_b (n := n) (u := u) (c := 59) (s := (cmd n u (psn n u k)).1)
        have t2 : FT f f2 := fun j j1 j2 _ => s2 j j1 j2
        by_cases c3 : sgn n u 59 (cmd n u (psn n u k)).1.2 = true
        · rw [if_pos c3] at et
          have es : mst n u 59 (cmd n u (psn n u k)).1 = (true, psn n u (k + 1)) := by rw [ep]; exact if_pos ⟨c1, c3⟩
          rw [es] at p2
          have q19 := p2.2.2
          rw [if_pos (show ((true, psn n u (k + 1)) : PSt).1 = true from rfl)] at q19
          simp (disch := omega) only [I_0, I_1, I_2, I_3, I_4, I_10, I_97, I_98, I_108, I_109, I_120, I_48, I_57, show (47 : Int32) = I 47 from rfl, show (58 : Int32) = I 58 from rfl, show (59 : Int32) = I 59 from rfl, show (64 : Int32) = I 64 from rfl, show (46 : Int32) = I 46 from rfl, negI1, kd7, rf77, kd77, ln77, rf7w, kd7w, ln7w, rf7n, kd7n, ln7n, mm_fa, mm_mf, updI_s, updI_n, o_1587, o_1590, o_1591, ms_1590, ms_1591, forall_eq, true_and, and_true, or_true, true_or, vp_I, tn_I, I_eq, I_le, I_lt, I_no, no_I, I_add, I_sub, I_mul, Nat.add_zero, if_true, if_false, Nat.reduceLT, Nat.reduceLeDiff, Nat.reduceEqDiff, Nat.reduceAdd, Nat.reduceMul, Nat.reduceSub, q19]
          have l3 : (cmd n u (psn n u k)).1.2 < n := by omega
          have e22 : f2 22 = I (k + 1) := (s2 22 (by decide) (by decide)).trans (hG c1).1
          refine m_cmd hU (show psn n u (k + 1) < 800 by omega) (show k + 1 < 40 by omega) p2 e22 (fun M3 f3 r3 p3 t3 g3 => ?_)
          refine m_tx m (k + 1) M3 f3 (by omega) (by omega) (by omega) (hU.rw r3) (fun j hj => ?_) p3 (fun z => ?_) (fun M4 f4 r4 t4 g4 => ?_)
          · by_cases cj : j = k
            · subst cj; exact (hG c1).2.rw r3 (by omega)
            · exact (hC j (by omega)).rw r3 (by omega)
          · exact g3 z
          · rw [et] at h
            exact h M4 f4 ⟨r4.1.trans r3.1, fun i i1 i2 => (r4.2.1 i i1 i2).trans (r3.2.1 i i1 i2), fun k hk => absurd hk (Nat.not_lt_zero _), fun k hk => absurd hk (by omega)⟩ (fun j j1 j2 j3 => (t4 j j1 j2 j3).trans ((t3 j j1 j2 j3).trans (t2 j j1 j2 j3))) g4
        · rw [if_neg c3] at et
          have es : mst n u 59 (cmd n u (psn n u k)).1 = (false, (cmd n u (psn n u k)).1.2) := if_neg (fun z => c3 z.2)
          rw [es] at p2
          have q19 := p2.2.2
          rw [if_neg (show ¬ ((false, (cmd n u (psn n u k)).1.2) : PSt).1 = true from Bool.false_ne_true)] at q19
          have q17 := p2.1
          simp (disch := omega) only [I_0, I_1, I_2, I_3, I_4, I_10, I_97, I_98, I_108, I_109, I_120, I_48, I_57, show (47 : Int32) = I 47 from rfl, show (58 : Int32) = I 58 from rfl, show (59 : Int32) = I 59 from rfl, show (64 : Int32) = I 64 from rfl, show (46 : Int32) = I 46 from rfl, negI1, kd7, rf77, kd77, ln77, rf7w, kd7w, ln7w, rf7n, kd7n, ln7n, mm_fa, mm_mf, updI_s, updI_n, o_1587, o_1590, o_1591, ms_1590, ms_1591, forall_eq, true_and, and_true, or_true, true_or, vp_I, tn_I, I_eq, I_le, I_lt, I_no, no_I, I_add, I_sub, I_mul, Nat.add_zero, if_true, if_false, Nat.reduceLT, Nat.reduceLeDiff, Nat.reduceEqDiff, Nat.reduceAdd, Nat.reduceMul, Nat.reduceSub, q19]
          unfold T_X7_readsText_27
          simp (disch := omega) only [I_0, I_1, I_2, I_3, I_4, I_10, I_97, I_98, I_108, I_109, I_120, I_48, I_57, show (47 : Int32) = I 47 from rfl, show (58 : Int32) = I 58 from rfl, show (59 : Int32) = I 59 from rfl, show (64 : Int32) = I 64 from rfl, show (46 : Int32) = I 46 from rfl, negI1, kd7, rf77, kd77, ln77, rf7w, kd7w, ln7w, rf7n, kd7n, ln7n, mm_fa, mm_mf, updI_s, updI_n, o_1587, o_1590, o_1591, ms_1590, ms_1591, forall_eq, true_and, and_true, or_true, true_or, vp_I, tn_I, I_eq, I_le, I_lt, I_no, no_I, I_add, I_sub, I_mul, Nat.add_zero, if_true, if_false, Nat.reduceLT, Nat.reduceLeDiff, Nat.reduceEqDiff, Nat.reduceAdd, Nat.reduceMul, Nat.reduceSub, q19]
          exact bad f2 q17 q19 t2 et
    · rw [if_neg c1] at et
      have h19 := hP.2.2
      rw [if_neg c1] at h19
      simp (disch := omega) only [I_0, I_1, I_2, I_3, I_4, I_10, I_97, I_98, I_108, I_109, I_120, I_48, I_57, show (47 : Int32) = I 47 from rfl, show (58 : Int32) = I 58 from rfl, show (59 : Int32) = I 59 from rfl, show (64 : Int32) = I 64 from rfl, show (46 : Int32) = I 46 from rfl, negI1, kd7, rf77, kd77, ln77, rf7w, kd7w, ln7w, rf7n, kd7n, ln7n, mm_fa, mm_mf, updI_s, updI_n, o_1587, o_1590, o_1591, ms_1590, ms_1591, forall_eq, true_and, and_true, or_true, true_or, vp_I, tn_I, I_eq, I_le, I_lt, I_no, no_I, I_add, I_sub, I_mul, Nat.add_zero, if_true, if_false, Nat.reduceLT, Nat.reduceLeDiff, Nat.reduceEqDiff, Nat.reduceAdd, Nat.reduceMul, Nat.reduceSub, h19]
      exact bad f hP.1 h19 (fun _ _ _ _ => rfl) et
/-- reading a text -/
theorem m_text (hU : UT n u M) (h8 : f 8 = I n) (h : ∀ M' f', Rw 0 M M' → (∀ j, j ≠ 17 → j ≠ 18 → j ≠ 19 → j ≠ 22 → f' j = f j) → ((txt n u 28 0).1 = true → f' 22 = I (txt n u 28 0).2 ∧ ∀ j, j < (txt n u 28 0).2 → CW j (cmd n u (psn n u j)).2 M') → Q (tva (txt n u 28 0)) (mm M' a f')) : T_X7_readsText Q 1582 (mm M a f) := by
  have hn := hU.1
  unfold T_X7_readsText
  simp (disch := omega) only [I_0, I_1, I_2, I_3, I_4, I_10, I_97, I_98, I_108, I_109, I_120, I_48, I_57, show (47 : Int32) = I 47 from rfl, show (58 : Int32) = I 58 from rfl, show (59 : Int32) = I 59 from rfl, show (64 : Int32) = I 64 from rfl, show (46 : Int32) = I 46 from rfl, negI1, kd7, rf77, kd77, ln77, rf7w, kd7w, ln7w, rf7n, kd7n, ln7n, mm_fa, mm_mf, updI_s, updI_n, o_1587, o_1590, o_1591, ms_1590, ms_1591, forall_eq, true_and, and_true, or_true, true_or, vp_I, tn_I, I_eq, I_le, I_lt, I_no, no_I, I_add, I_sub, I_mul, Nat.add_zero, if_true, if_false, Nat.reduceLT, Nat.reduceLeDiff, Nat.reduceEqDiff, Nat.reduceAdd, Nat.reduceMul, Nat.reduceSub, h8]
  have g : PF n (true, 0) (updI (updI (updI (updI f 18 (I n)) 17 (I 0)) 22 (I 0)) 19 (I 1)) := ⟨by rw [updI_n (by decide), updI_n (by decide), updI_s], by rw [updI_n (by decide), updI_n (by decide), updI_n (by decide), updI_s], updI_s⟩
  have g22 : updI (updI (updI (updI f 18 (I n)) 17 (I 0)) 22 (I 0)) 19 (I 1) 22 = I 0 := by rw [updI_n (by decide), updI_s]
  have gf : ∀ j, j ≠ 17 → j ≠ 18 → j ≠ 19 → j ≠ 22 → updI (updI (updI (updI f 18 (I n)) 17 (I 0)) 22 (I 0)) 19 (I 1) j = f j := fun j j1 j2 j3 j4 => by rw [updI_n j3, updI_n j4, updI_n j1, updI_n j2]
  generalize updI (updI (updI (updI f 18 (I n)) 17 (I 0)) 22 (I 0)) 19 (I 1) = f1 at g g22 gf ⊢
  refine m_cmd hU (show 0 < 800 by decide) (show 0 < 40 by decide) g g22 (fun M3 f3 r3 p3 t3 g3 => ?_)
  refine ⟨29, m_tx 28 0 M3 f3 rfl (Nat.zero_le _) (Nat.zero_le _) (hU.rw r3) (fun j hj => absurd hj (Nat.not_lt_zero _)) p3 g3 (fun M4 f4 r4 t4 g4 => ?_)⟩
  exact h M4 f4 (r3.trans r4 (Nat.le_refl _)) (fun j j1 j2 j3 j4 => (t4 j j1 j3 j4).trans ((t3 j j1 j3 j4).trans (gf j j1 j2 j3 j4))) g4
end Pa5

