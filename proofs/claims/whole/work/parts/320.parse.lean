/-! ===== THE REFERENCE reads a command ===== -/
section Pa4
variable {M M' : Mem} {a : Nat → Nat} {f : Nat → Int32} {n : Nat} {u : Nat → Nat} {Q : Int32 → Mem → Prop} {QP : Mem → Prop}
/-- the command c stands in the reference's rows -/
def CW (c : Nat) (x : CTt) (M : Mem) : Prop := M.1 1590 c = I x.1 ∧ M.1 1591 (4 * c) = I x.2.1 ∧ (x.1 ≠ 1 → M.1 1591 (4 * c + 1) = I x.2.2.1) ∧ (x.1 = 0 → M.1 1591 (4 * c + 2) = I x.2.2.2.1 ∧ M.1 1591 (4 * c + 3) = I x.2.2.2.2)
/-- only the rows of commands from c on change -/
def Rw (c : Nat) (M M' : Mem) : Prop := M'.2 = M.2 ∧ (∀ i, i ≠ 1590 → i ≠ 1591 → M'.1 i = M.1 i) ∧ (∀ k, k < c → M'.1 1590 k = M.1 1590 k) ∧ (∀ k, k < 4 * c → M'.1 1591 k = M.1 1591 k)
theorem Rw.rfl {c : Nat} : Rw c M M := ⟨by trivial, fun _ _ _ => by trivial, fun _ _ => by trivial, fun _ _ => by trivial⟩
theorem Rw.s0 {c : Nat} {v : Int32} (e : Rw c M M') : Rw c M (mset M' 1590 c v) := ⟨e.1, fun i i1 i2 => (mset_ne i1).trans (e.2.1 i i1 i2), fun k hk => by rw [mset_v, if_neg (by omega)]; exact e.2.2.1 k hk, fun k hk => by rw [mset_ne (by decide)]; exact e.2.2.2 k hk⟩
theorem Rw.s1 {c k : Nat} {v : Int32} (e : Rw c M M') (hk : 4 * c ≤ k) : Rw c M (mset M' 1591 k v) := ⟨e.1, fun i i1 i2 => (mset_ne i2).trans (e.2.1 i i1 i2), fun j hj => by rw [mset_ne (by decide)]; exact e.2.2.1 j hj, fun j hj => by rw [mset_v, if_neg (by omega)]; exact e.2.2.2 j hj⟩
theorem UT.rw {c : Nat} (hU : UT n u M) (e : Rw c M M') : UT n u M' := ⟨hU.1, fun k hk => by rw [e.2.1 1587 (by decide) (by decide)]; exact hU.2 k hk⟩
theorem UT.fr (hU : UT n u M) (e : M'.1 1587 = M.1 1587) : UT n u M' := ⟨hU.1, fun k hk => by rw [e]; exact hU.2 k hk⟩
/-- only the reading's fields change -/
def FT (f f' : Nat → Int32) : Prop := ∀ j, j ≠ 17 → j ≠ 19 → j ≠ 22 → f' j = f j
theorem m_cmd (hU : UT n u M) {p c : Nat} (hp : p < 800) (hc : c < 40) (hP : PF n (true, p) f) (h22 : f 22 = I c)
    (h : ∀ M' f', Rw c M M' → PF n (cmd n u p).1 f' → FT f f' → ((cmd n u p).1.1 = true → f' 22 = I (c + 1) ∧ CW c (cmd n u p).2 M') → QP (mm M' a f')) : T_X7_readsCommand QP 1582 (mm M a f) := by
  obtain ⟨h17, h18, h19⟩ := hP
  have h17' : f 17 = I p := h17
  rw [if_pos (show ((true, p) : PSt).1 = true from rfl)] at h19
  -- the end of a command
  have fin : ∀ (M2 : Mem) (f2 : Nat → Int32), Rw c M M2 → PF n (cmd n u p).1 f2 → FT f f2 → f2 22 = I c → ((cmd n u p).1.1 = true → CW c (cmd n u p).2 M2) → T_X7_readsCommand_235 QP 1582 (mm M2 a f2) := by
    intro M2 f2 r1 p1 t1 e1 w1
    unfold T_X7_readsCommand_235
    simp (disch := omega) only [I_0, I_1, I_2, I_3, I_4, I_10, I_97, I_98, I_108, I_109, I_120, I_48, I_57, show (47 : Int32) = I 47 from rfl, show (58 : Int32) = I 58 from rfl, show (59 : Int32) = I 59 from rfl, show (64 : Int32) = I 64 from rfl, show (46 : Int32) = I 46 from rfl, negI1, kd7, rf77, kd77, ln77, rf7w, kd7w, ln7w, rf7n, kd7n, ln7n, mm_fa, mm_mf, updI_s, updI_n, o_1587, o_1590, o_1591, ms_1590, ms_1591, forall_eq, true_and, and_true, or_true, true_or, vp_I, tn_I, I_eq, I_le, I_lt, I_no, no_I, I_add, I_sub, I_mul, Nat.add_zero, if_true, if_false, Nat.reduceLT, Nat.reduceLeDiff, Nat.reduceEqDiff, Nat.reduceAdd, Nat.reduceMul, Nat.reduceSub, e1]
    exact h M2 _ r1 ⟨by rw [updI_n (by decide)]; exact p1.1, by rw [updI_n (by decide)]; exact p1.2.1, by rw [updI_n (by decide)]; exact p1.2.2⟩ (fun j j1 j2 j3 => by rw [updI_n j3]; exact t1 j j1 j2 j3) (fun z => ⟨updI_s, w1 z⟩)
  -- from the first sign on
  have go : ∀ kd0 : Nat, kd0 < 3 → (sgn n u 98 p = true ↔ kd0 = 0) → (¬ sgn n u 98 p = true → (sgn n u 120 p = true ↔ kd0 = 1)) → T_X7_readsCommand_42 QP 1582 (I (4 * c)) (I kd0) (I c) 1590 (mm M a f) := by
    intro kd0 hk3 hk0 hk1
    unfold T_X7_readsCommand_42
    simp (disch := omega) only [I_0, I_1, I_2, I_3, I_4, I_10, I_97, I_98, I_108, I_109, I_120, I_48, I_57, show (47 : Int32) = I 47 from rfl, show (58 : Int32) = I 58 from rfl, show (59 : Int32) = I 59 from rfl, show (64 : Int32) = I 64 from rfl, show (46 : Int32) = I 46 from rfl, negI1, kd7, rf77, kd77, ln77, rf7w, kd7w, ln7w, rf7n, kd7n, ln7n, mm_fa, mm_mf, updI_s, updI_n, o_1587, o_1590, o_1591, ms_1590, ms_1591, forall_eq, true_and, and_true, or_true, true_or, vp_I, tn_I, I_eq, I_le, I_lt, I_no, no_I, I_add, I_sub, I_mul, Nat.add_zero, if_true, if_false, Nat.reduceLT, Nat.reduceLeDiff, Nat.reduceEqDiff, Nat.reduceAdd, Nat.reduceMul, Nat.reduceSub, show c < 42 by omega]
    have r0 : Rw c M (mset M 1590 c (I kd0)) := Rw.rfl.s0
    have hU0 := hU.rw r0
    have w0 : (mset M 1590 c (I kd0)).1 1590 c = I kd0 := by rw [mset_v, if_pos rfl]
    generalize mset M 1590 c (I kd0) = M2 at r0 hU0 w0 ⊢
    have yes : (sgn n u 98 p = true ∨ sgn n u 120 p = true ∨ sgn n u 109 p = true) → T_X7_readsCommand_71 QP 1582 (I (4 * c)) 1582 (mm M2 a f) := by
      intro hs
      have g := pf_set (n := n) (s := (true, p)) h18 (show p < 1000 by omega) true (p + 1)
      rw [if_pos rfl] at g
      have g22 : updI (updI f 19 (I 1)) 17 (I (p + 1)) 22 = I c := by rw [updI_n (by decide), updI_n (by decide)]; exact h22
      unfold T_X7_readsCommand_71 T_X7_readsCommand_76 T_X7_readsCommand_96
      simp (disch := omega) only [I_0, I_1, I_2, I_3, I_4, I_10, I_97, I_98, I_108, I_109, I_120, I_48, I_57, show (47 : Int32) = I 47 from rfl, show (58 : Int32) = I 58 from rfl, show (59 : Int32) = I 59 from rfl, show (64 : Int32) = I 64 from rfl, show (46 : Int32) = I 46 from rfl, negI1, kd7, rf77, kd77, ln77, rf7w, kd7w, ln7w, rf7n, kd7n, ln7n, mm_fa, mm_mf, updI_s, updI_n, o_1587, o_1590, o_1591, ms_1590, ms_1591, forall_eq, true_and, and_true, or_true, true_or, vp_I, tn_I, I_eq, I_le, I_lt, I_no, no_I, I_add, I_sub, I_mul, Nat.add_zero, if_true, if_false, Nat.reduceLT, Nat.reduceLeDiff, Nat.reduceEqDiff, Nat.reduceAdd, Nat.reduceMul, Nat.reduceSub, h17', h22, show c < 42 by omega, w0]
      generalize updI (updI f 19 (I 1)) 17 (I (p + 1)) = f2 at g g22 ⊢
      have t2 : FT f f2 := fun j j1 j2 _ => g.2 j j1 j2
      by_cases k1 : kd0 = 1
      · have c1 : ¬ sgn n u 98 p = true := fun z => by have := hk0.mp z; omega
        have c2 : sgn n u 120 p = true := (hk1 c1).mpr k1
        have ec : cmd n u p = ((cX1 n u p).1, (1, (cX1 n u p).2, 0, 0, 0)) := by unfold cmd; rw [if_neg c1, if_pos c2]
        rw [if_pos k1]
        refine m_num hU0 g.1 (show p + 1 < 900 by omega) (fun f3 p3 s3 => ?_)
        have e22 : f3 22 = I c := (s3 22 (by decide) (by decide)).trans g22
        unfold T_X7_readsCommand_137 T_X7_readsCommand_169
        simp (disch := omega) only [I_0, I_1, I_2, I_3, I_4, I_10, I_97, I_98, I_108, I_109, I_120, I_48, I_57, show (47 : Int32) = I 47 from rfl, show (58 : Int32) = I 58 from rfl, show (59 : Int32) = I 59 from rfl, show (64 : Int32) = I 64 from rfl, show (46 : Int32) = I 46 from rfl, negI1, kd7, rf77, kd77, ln77, rf7w, kd7w, ln7w, rf7n, kd7n, ln7n, mm_fa, mm_mf, updI_s, updI_n, o_1587, o_1590, o_1591, ms_1590, ms_1591, forall_eq, true_and, and_true, or_true, true_or, vp_I, tn_I, I_eq, I_le, I_lt, I_no, no_I, I_add, I_sub, I_mul, Nat.add_zero, if_true, if_false, Nat.reduceLT, Nat.reduceLeDiff, Nat.reduceEqDiff, Nat.reduceAdd, Nat.reduceMul, Nat.reduceSub, e22, show c < 42 by omega, show 4 * c < 168 by omega]
        have w0' : (mset M2 1591 (4 * c) (I (num n u (true, p + 1)).2)).1 1590 c = I 1 := by rw [mset_ne (by decide), w0, k1]
        simp (disch := omega) only [I_0, I_1, I_2, I_3, I_4, I_10, I_97, I_98, I_108, I_109, I_120, I_48, I_57, show (47 : Int32) = I 47 from rfl, show (58 : Int32) = I 58 from rfl, show (59 : Int32) = I 59 from rfl, show (64 : Int32) = I 64 from rfl, show (46 : Int32) = I 46 from rfl, negI1, kd7, rf77, kd77, ln77, rf7w, kd7w, ln7w, rf7n, kd7n, ln7n, mm_fa, mm_mf, updI_s, updI_n, o_1587, o_1590, o_1591, ms_1590, ms_1591, forall_eq, true_and, and_true, or_true, true_or, vp_I, tn_I, I_eq, I_le, I_lt, I_no, no_I, I_add, I_sub, I_mul, Nat.add_zero, if_true, if_false, Nat.reduceLT, Nat.reduceLeDiff, Nat.reduceEqDiff, Nat.reduceAdd, Nat.reduceMul, Nat.reduceSub, w0']
        refine fin _ f3 (r0.s1 (Nat.le_refl _)) (by rw [ec]; exact p3) (fun j j1 j2 j3 => (s3 j j1 j2).trans (t2 j j1 j2 j3)) e22 (fun _ => ?_)
        rw [ec]
        exact ⟨w0', by rw [mset_v, if_pos rfl]; rfl, fun z => absurd rfl z, fun z => by cases z⟩
      · rw [if_neg k1]
        refine m_dig hU0 g.1 (show p + 1 < 1000 by omega) (fun f3 p3 s3 => ?_)
        have e22 : f3 22 = I c := (s3 22 (by decide) (by decide)).trans g22
        have t3 : FT f f3 := fun j j1 j2 j3 => (s3 j j1 j2).trans (t2 j j1 j2 j3)
        have b1 := dig_b (n := n) (u := u) (s := (true, p + 1))
        rw [show dig n u (true, p + 1) = cB1 n u p from rfl] at p3 b1 ⊢
        have q1 : ((true, p + 1) : PSt).2 = p + 1 := rfl
        unfold T_X7_readsCommand_137
        simp (disch := omega) only [I_0, I_1, I_2, I_3, I_4, I_10, I_97, I_98, I_108, I_109, I_120, I_48, I_57, show (47 : Int32) = I 47 from rfl, show (58 : Int32) = I 58 from rfl, show (59 : Int32) = I 59 from rfl, show (64 : Int32) = I 64 from rfl, show (46 : Int32) = I 46 from rfl, negI1, kd7, rf77, kd77, ln77, rf7w, kd7w, ln7w, rf7n, kd7n, ln7n, mm_fa, mm_mf, updI_s, updI_n, o_1587, o_1590, o_1591, ms_1590, ms_1591, forall_eq, true_and, and_true, or_true, true_or, vp_I, tn_I, I_eq, I_le, I_lt, I_no, no_I, I_add, I_sub, I_mul, Nat.add_zero, if_true, if_false, Nat.reduceLT, Nat.reduceLeDiff, Nat.reduceEqDiff, Nat.reduceAdd, Nat.reduceMul, Nat.reduceSub, e22, show c < 42 by omega, show 4 * c < 168 by omega]
        have r3 : Rw c M (mset M2 1591 (4 * c) (I (cB1 n u p).2)) := r0.s1 (Nat.le_refl _)
        have w3 : (mset M2 1591 (4 * c) (I (cB1 n u p).2)).1 1591 (4 * c) = I (cB1 n u p).2 := by rw [mset_v, if_pos rfl]
        have w0' : (mset M2 1591 (4 * c) (I (cB1 n u p).2)).1 1590 c = I kd0 := by rw [mset_ne (by decide), w0]
        generalize mset M2 1591 (4 * c) (I (cB1 n u p).2) = M3 at r3 w3 w0' ⊢
        have hU3 := hU.rw r3
        by_cases k2 : kd0 = 2
        · have c1 : ¬ sgn n u 98 p = true := fun z => by have := hk0.mp z; omega
          have c2 : ¬ sgn n u 120 p = true := fun z => k1 ((hk1 c1).mp z)
          have c3 : sgn n u 109 p = true := hs.elim (fun z => absurd z c1) (fun z => z.elim (fun z => absurd z c2) id)
          have ec : cmd n u p = ((cM2 n u p).1, (2, (cB1 n u p).2, (cM2 n u p).2, 0, 0)) := by unfold cmd; rw [if_neg c1, if_neg c2, if_pos c3]
          simp (disch := omega) only [I_0, I_1, I_2, I_3, I_4, I_10, I_97, I_98, I_108, I_109, I_120, I_48, I_57, show (47 : Int32) = I 47 from rfl, show (58 : Int32) = I 58 from rfl, show (59 : Int32) = I 59 from rfl, show (64 : Int32) = I 64 from rfl, show (46 : Int32) = I 46 from rfl, negI1, kd7, rf77, kd77, ln77, rf7w, kd7w, ln7w, rf7n, kd7n, ln7n, mm_fa, mm_mf, updI_s, updI_n, o_1587, o_1590, o_1591, ms_1590, ms_1591, forall_eq, true_and, and_true, or_true, true_or, vp_I, tn_I, I_eq, I_le, I_lt, I_no, no_I, I_add, I_sub, I_mul, Nat.add_zero, if_true, if_false, Nat.reduceLT, Nat.reduceLeDiff, Nat.reduceEqDiff, Nat.reduceAdd, Nat.reduceMul, Nat.reduceSub, w0', k2]
          refine m_must hU3 (by decide) p3 (by omega) (fun f4 p4 s4 => ?_)
          have m4 := mst_b (n := n) (u := u) (c := 47) (s := (cB1 n u p).1)
          refine m_dig hU3 p4 (by omega) (fun f5 p5 s5 => ?_)
          rw [show dig n u (mst n u 47 (cB1 n u p).1) = cM2 n u p from rfl] at p5 ⊢
          have e522 : f5 22 = I c := (s5 22 (by decide) (by decide)).trans ((s4 22 (by decide) (by decide)).trans e22)
          unfold T_X7_readsCommand_169
          have w5 : (mset M3 1591 (4 * c + 1) (I (cM2 n u p).2)).1 1590 c = I 2 := by rw [mset_ne (by decide), w0', k2]
          simp (disch := omega) only [I_0, I_1, I_2, I_3, I_4, I_10, I_97, I_98, I_108, I_109, I_120, I_48, I_57, show (47 : Int32) = I 47 from rfl, show (58 : Int32) = I 58 from rfl, show (59 : Int32) = I 59 from rfl, show (64 : Int32) = I 64 from rfl, show (46 : Int32) = I 46 from rfl, negI1, kd7, rf77, kd77, ln77, rf7w, kd7w, ln7w, rf7n, kd7n, ln7n, mm_fa, mm_mf, updI_s, updI_n, o_1587, o_1590, o_1591, ms_1590, ms_1591, forall_eq, true_and, and_true, or_true, true_or, vp_I, tn_I, I_eq, I_le, I_lt, I_no, no_I, I_add, I_sub, I_mul, Nat.add_zero, if_true, if_false, Nat.reduceLT, Nat.reduceLeDiff, Nat.reduceEqDiff, Nat.reduceAdd, Nat.reduceMul, Nat.reduceSub, e522, show c < 42 by omega, show 4 * c + 1 < 168 by omega, w5]
          refine fin _ f5 (r3.s1 (by omega)) (by rw [ec]; exact p5) (fun j j1 j2 j3 => (s5 j j1 j2).trans ((s4 j j1 j2).trans (t3 j j1 j2 j3))) e522 (fun _ => ?_)
          rw [ec]
          exact ⟨w5, by rw [mset_v, if_neg (by omega)]; exact w3, fun _ => by rw [mset_v, if_pos rfl], fun z => by cases z⟩
        · have k0 : kd0 = 0 := by omega
          have c1 : sgn n u 98 p = true := hk0.mpr k0
          have ec : cmd n u p = ((cB4 n u p).1, (0, (cB1 n u p).2, (cB2 n u p).2, (cB3 n u p).2, (cB4 n u p).2)) := by unfold cmd; rw [if_pos c1]
          unfold T_X7_readsCommand_169
          simp (disch := omega) only [I_0, I_1, I_2, I_3, I_4, I_10, I_97, I_98, I_108, I_109, I_120, I_48, I_57, show (47 : Int32) = I 47 from rfl, show (58 : Int32) = I 58 from rfl, show (59 : Int32) = I 59 from rfl, show (64 : Int32) = I 64 from rfl, show (46 : Int32) = I 46 from rfl, negI1, kd7, rf77, kd77, ln77, rf7w, kd7w, ln7w, rf7n, kd7n, ln7n, mm_fa, mm_mf, updI_s, updI_n, o_1587, o_1590, o_1591, ms_1590, ms_1591, forall_eq, true_and, and_true, or_true, true_or, vp_I, tn_I, I_eq, I_le, I_lt, I_no, no_I, I_add, I_sub, I_mul, Nat.add_zero, if_true, if_false, Nat.reduceLT, Nat.reduceLeDiff, Nat.reduceEqDiff, Nat.reduceAdd, Nat.reduceMul, Nat.reduceSub, w0', k0, e22, show c < 42 by omega]
          refine m_must hU3 (by decide) p3 (by omega) (fun f4 p4 s4 => ?_)
          have m4 := mst_b (n := n) (u := u) (c := 58) (s := (cB1 n u p).1)
          refine m_ltr hU3 p4 (by omega) (fun f5 p5 s5 => ?_)
          have b5 := ltr_b (n := n) (u := u) (s := mst n u 58 (cB1 n u p).1)
          rw [show ltr n u (mst n u 58 (cB1 n u p).1) = cB2 n u p from rfl] at p5 b5 ⊢
          simp (disch := omega) only [I_0, I_1, I_2, I_3, I_4, I_10, I_97, I_98, I_108, I_109, I_120, I_48, I_57, show (47 : Int32) = I 47 from rfl, show (58 : Int32) = I 58 from rfl, show (59 : Int32) = I 59 from rfl, show (64 : Int32) = I 64 from rfl, show (46 : Int32) = I 46 from rfl, negI1, kd7, rf77, kd77, ln77, rf7w, kd7w, ln7w, rf7n, kd7n, ln7n, mm_fa, mm_mf, updI_s, updI_n, o_1587, o_1590, o_1591, ms_1590, ms_1591, forall_eq, true_and, and_true, or_true, true_or, vp_I, tn_I, I_eq, I_le, I_lt, I_no, no_I, I_add, I_sub, I_mul, Nat.add_zero, if_true, if_false, Nat.reduceLT, Nat.reduceLeDiff, Nat.reduceEqDiff, Nat.reduceAdd, Nat.reduceMul, Nat.reduceSub, show 4 * c + 1 < 168 by omega]
          have r5 : Rw c M (mset M3 1591 (4 * c + 1) (I (cB2 n u p).2)) := r3.s1 (by omega)
          have v5 : (mset M3 1591 (4 * c + 1) (I (cB2 n u p).2)).1 1590 c = I 0 ∧ (mset M3 1591 (4 * c + 1) (I (cB2 n u p).2)).1 1591 (4 * c) = I (cB1 n u p).2 ∧ (mset M3 1591 (4 * c + 1) (I (cB2 n u p).2)).1 1591 (4 * c + 1) = I (cB2 n u p).2 := ⟨by rw [mset_ne (by decide), w0', k0], by rw [mset_v, if_neg (by omega)]; exact w3, by rw [mset_v, if_pos rfl]⟩
          generalize mset M3 1591 (4 * c + 1) (I (cB2 n u p).2) = M5 at r5 v5 ⊢
          have hU5 := hU.rw r5
          refine m_must hU5 (by decide) p5 (by omega) (fun f6 p6 s6 => ?_)
          have m6 := mst_b (n := n) (u := u) (c := 64) (s := (cB2 n u p).1)
          refine m_num hU5 p6 (by omega) (fun f7 p7 s7 => ?_)
          have b7 := num_b (n := n) (u := u) (s := mst n u 64 (cB2 n u p).1)
          rw [show num n u (mst n u 64 (cB2 n u p).1) = cB3 n u p from rfl] at p7 b7 ⊢
          simp (disch := omega) only [I_0, I_1, I_2, I_3, I_4, I_10, I_97, I_98, I_108, I_109, I_120, I_48, I_57, show (47 : Int32) = I 47 from rfl, show (58 : Int32) = I 58 from rfl, show (59 : Int32) = I 59 from rfl, show (64 : Int32) = I 64 from rfl, show (46 : Int32) = I 46 from rfl, negI1, kd7, rf77, kd77, ln77, rf7w, kd7w, ln7w, rf7n, kd7n, ln7n, mm_fa, mm_mf, updI_s, updI_n, o_1587, o_1590, o_1591, ms_1590, ms_1591, forall_eq, true_and, and_true, or_true, true_or, vp_I, tn_I, I_eq, I_le, I_lt, I_no, no_I, I_add, I_sub, I_mul, Nat.add_zero, if_true, if_false, Nat.reduceLT, Nat.reduceLeDiff, Nat.reduceEqDiff, Nat.reduceAdd, Nat.reduceMul, Nat.reduceSub, show 4 * c + 2 < 168 by omega]
          have r7 : Rw c M (mset M5 1591 (4 * c + 2) (I (cB3 n u p).2)) := r5.s1 (by omega)
          have v7 : (mset M5 1591 (4 * c + 2) (I (cB3 n u p).2)).1 1590 c = I 0 ∧ (mset M5 1591 (4 * c + 2) (I (cB3 n u p).2)).1 1591 (4 * c) = I (cB1 n u p).2 ∧ (mset M5 1591 (4 * c + 2) (I (cB3 n u p).2)).1 1591 (4 * c + 1) = I (cB2 n u p).2 ∧ (mset M5 1591 (4 * c + 2) (I (cB3 n u p).2)).1 1591 (4 * c + 2) = I (cB3 n u p).2 := ⟨by rw [mset_ne (by decide)]; exact v5.1, by rw [mset_v, if_neg (by omega)]; exact v5.2.1, by rw [mset_v, if_neg (by omega)]; exact v5.2.2, by rw [mset_v, if_pos rfl]⟩
          generalize mset M5 1591 (4 * c + 2) (I (cB3 n u p).2) = M7 at r7 v7 ⊢
          have hU7 := hU.rw r7
          refine m_must hU7 (by decide) p7 (by omega) (fun f8 p8 s8 => ?_)
          have m8 := mst_b (n := n) (u := u) (c := 46) (s := (cB3 n u p).1)
          refine m_dig hU7 p8 (by omega) (fun f9 p9 s9 => ?_)
          rw [show dig n u (mst n u 46 (cB3 n u p).1) = cB4 n u p from rfl] at p9 ⊢
          simp (disch := omega) only [I_0, I_1, I_2, I_3, I_4, I_10, I_97, I_98, I_108, I_109, I_120, I_48, I_57, show (47 : Int32) = I 47 from rfl, show (58 : Int32) = I 58 from rfl, show (59 : Int32) = I 59 from rfl, show (64 : Int32) = I 64 from rfl, show (46 : Int32) = I 46 from rfl, negI1, kd7, rf77, kd77, ln77, rf7w, kd7w, ln7w, rf7n, kd7n, ln7n, mm_fa, mm_mf, updI_s, updI_n, o_1587, o_1590, o_1591, ms_1590, ms_1591, forall_eq, true_and, and_true, or_true, true_or, vp_I, tn_I, I_eq, I_le, I_lt, I_no, no_I, I_add, I_sub, I_mul, Nat.add_zero, if_true, if_false, Nat.reduceLT, Nat.reduceLeDiff, Nat.reduceEqDiff, Nat.reduceAdd, Nat.reduceMul, Nat.reduceSub, show 4 * c + 3 < 168 by omega]
          have sA : ∀ j, j ≠ 17 → j ≠ 19 → f9 j = f3 j := fun j j1 j2 => (s9 j j1 j2).trans ((s8 j j1 j2).trans ((s7 j j1 j2).trans ((s6 j j1 j2).trans ((s5 j j1 j2).trans (s4 j j1 j2)))))
          refine fin _ f9 (r7.s1 (by omega)) (by rw [ec]; exact p9) (fun j j1 j2 j3 => (sA j j1 j2).trans (t3 j j1 j2 j3)) ((sA 22 (by decide) (by decide)).trans e22) (fun _ => ?_)
          rw [ec]
          exact ⟨by rw [mset_ne (by decide)]; exact v7.1, by rw [mset_v, if_neg (by omega)]; exact v7.2.1, fun _ => by rw [mset_v, if_neg (by omega)]; exact v7.2.2.1, fun _ => ⟨by rw [mset_v, if_neg (by omega)]; exact v7.2.2.2, by rw [mset_v, if_pos rfl]⟩⟩
    have no : ¬ (sgn n u 98 p = true ∨ sgn n u 120 p = true ∨ sgn n u 109 p = true) → T_X7_readsCommand_76 QP 1582 (I (4 * c)) (I 0) 1582 (mm M2 a f) := by
      intro hs
      have c1 : ¬ sgn n u 98 p = true := fun z => hs (Or.inl z)
      have c2 : ¬ sgn n u 120 p = true := fun z => hs (Or.inr (Or.inl z))
      have c3 : ¬ sgn n u 109 p = true := fun z => hs (Or.inr (Or.inr z))
      have ec : cmd n u p = ((false, p), (2, 0, 0, 0, 0)) := by unfold cmd; rw [if_neg c1, if_neg c2, if_neg c3]
      unfold T_X7_readsCommand_76 T_X7_readsCommand_96
      simp (disch := omega) only [I_0, I_1, I_2, I_3, I_4, I_10, I_97, I_98, I_108, I_109, I_120, I_48, I_57, show (47 : Int32) = I 47 from rfl, show (58 : Int32) = I 58 from rfl, show (59 : Int32) = I 59 from rfl, show (64 : Int32) = I 64 from rfl, show (46 : Int32) = I 46 from rfl, negI1, kd7, rf77, kd77, ln77, rf7w, kd7w, ln7w, rf7n, kd7n, ln7n, mm_fa, mm_mf, updI_s, updI_n, o_1587, o_1590, o_1591, ms_1590, ms_1591, forall_eq, true_and, and_true, or_true, true_or, vp_I, tn_I, I_eq, I_le, I_lt, I_no, no_I, I_add, I_sub, I_mul, Nat.add_zero, if_true, if_false, Nat.reduceLT, Nat.reduceLeDiff, Nat.reduceEqDiff, Nat.reduceAdd, Nat.reduceMul, Nat.reduceSub, h17']
      have g := pf_set (n := n) (s := (true, p)) h18 (show p < 1000 by omega) false p
      rw [if_neg (by decide)] at g
      exact h M2 _ r0 (by rw [ec]; exact g.1) (fun j j1 j2 _ => g.2 j j1 j2) (fun z => by rw [ec] at z; cases z)
    refine m_here hU0 h17' h18 (by omega) ?_
    by_cases cn : p < n
    · rw [if_pos cn]
      have hu := (hU0.2 p cn).2
      by_cases d1 : u p = 98
      · simp (disch := omega) only [I_0, I_1, I_2, I_3, I_4, I_10, I_97, I_98, I_108, I_109, I_120, I_48, I_57, show (47 : Int32) = I 47 from rfl, show (58 : Int32) = I 58 from rfl, show (59 : Int32) = I 59 from rfl, show (64 : Int32) = I 64 from rfl, show (46 : Int32) = I 46 from rfl, negI1, kd7, rf77, kd77, ln77, rf7w, kd7w, ln7w, rf7n, kd7n, ln7n, mm_fa, mm_mf, updI_s, updI_n, o_1587, o_1590, o_1591, ms_1590, ms_1591, forall_eq, true_and, and_true, or_true, true_or, vp_I, tn_I, I_eq, I_le, I_lt, I_no, no_I, I_add, I_sub, I_mul, Nat.add_zero, if_true, if_false, Nat.reduceLT, Nat.reduceLeDiff, Nat.reduceEqDiff, Nat.reduceAdd, Nat.reduceMul, Nat.reduceSub, d1]
        exact yes (Or.inl (decide_eq_true ⟨cn, d1⟩))
      · simp (disch := omega) only [I_0, I_1, I_2, I_3, I_4, I_10, I_97, I_98, I_108, I_109, I_120, I_48, I_57, show (47 : Int32) = I 47 from rfl, show (58 : Int32) = I 58 from rfl, show (59 : Int32) = I 59 from rfl, show (64 : Int32) = I 64 from rfl, show (46 : Int32) = I 46 from rfl, negI1, kd7, rf77, kd77, ln77, rf7w, kd7w, ln7w, rf7n, kd7n, ln7n, mm_fa, mm_mf, updI_s, updI_n, o_1587, o_1590, o_1591, ms_1590, ms_1591, forall_eq, true_and, and_true, or_true, true_or, vp_I, tn_I, I_eq, I_le, I_lt, I_no, no_I, I_add, I_sub, I_mul, Nat.add_zero, if_true, if_false, Nat.reduceLT, Nat.reduceLeDiff, Nat.reduceEqDiff, Nat.reduceAdd, Nat.reduceMul, Nat.reduceSub, d1]
        refine m_here hU0 h17' h18 (by omega) ?_
        rw [if_pos cn]
        by_cases d2 : u p = 120
        · simp (disch := omega) only [I_0, I_1, I_2, I_3, I_4, I_10, I_97, I_98, I_108, I_109, I_120, I_48, I_57, show (47 : Int32) = I 47 from rfl, show (58 : Int32) = I 58 from rfl, show (59 : Int32) = I 59 from rfl, show (64 : Int32) = I 64 from rfl, show (46 : Int32) = I 46 from rfl, negI1, kd7, rf77, kd77, ln77, rf7w, kd7w, ln7w, rf7n, kd7n, ln7n, mm_fa, mm_mf, updI_s, updI_n, o_1587, o_1590, o_1591, ms_1590, ms_1591, forall_eq, true_and, and_true, or_true, true_or, vp_I, tn_I, I_eq, I_le, I_lt, I_no, no_I, I_add, I_sub, I_mul, Nat.add_zero, if_true, if_false, Nat.reduceLT, Nat.reduceLeDiff, Nat.reduceEqDiff, Nat.reduceAdd, Nat.reduceMul, Nat.reduceSub, d2]
          exact yes (Or.inr (Or.inl (decide_eq_true ⟨cn, d2⟩)))
        · simp (disch := omega) only [I_0, I_1, I_2, I_3, I_4, I_10, I_97, I_98, I_108, I_109, I_120, I_48, I_57, show (47 : Int32) = I 47 from rfl, show (58 : Int32) = I 58 from rfl, show (59 : Int32) = I 59 from rfl, show (64 : Int32) = I 64 from rfl, show (46 : Int32) = I 46 from rfl, negI1, kd7, rf77, kd77, ln77, rf7w, kd7w, ln7w, rf7n, kd7n, ln7n, mm_fa, mm_mf, updI_s, updI_n, o_1587, o_1590, o_1591, ms_1590, ms_1591, forall_eq, true_and, and_true, or_true, true_or, vp_I, tn_I, I_eq, I_le, I_lt, I_no, no_I, I_add, I_sub, I_mul, Nat.add_zero, if_true, if_false, Nat.reduceLT, Nat.reduceLeDiff, Nat.reduceEqDiff, Nat.reduceAdd, Nat.reduceMul, Nat.reduceSub, d2]
          refine m_here hU0 h17' h18 (by omega) ?_
          rw [if_pos cn]
          by_cases d3 : u p = 109
          · simp (disch := omega) only [I_0, I_1, I_2, I_3, I_4, I_10, I_97, I_98, I_108, I_109, I_120, I_48, I_57, show (47 : Int32) = I 47 from rfl, show (58 : Int32) = I 58 from rfl, show (59 : Int32) = I 59 from rfl, show (64 : Int32) = I 64 from rfl, show (46 : Int32) = I 46 from rfl, negI1, kd7, rf77, kd77, ln77, rf7w, kd7w, ln7w, rf7n, kd7n, ln7n, mm_fa, mm_mf, updI_s, updI_n, o_1587, o_1590, o_1591, ms_1590, ms_1591, forall_eq, true_and, and_true, or_true, true_or, vp_I, tn_I, I_eq, I_le, I_lt, I_no, no_I, I_add, I_sub, I_mul, Nat.add_zero, if_true, if_false, Nat.reduceLT, Nat.reduceLeDiff, Nat.reduceEqDiff, Nat.reduceAdd, Nat.reduceMul, Nat.reduceSub, d3]
            exact yes (Or.inr (Or.inr (decide_eq_true ⟨cn, d3⟩)))
          · simp (disch := omega) only [I_0, I_1, I_2, I_3, I_4, I_10, I_97, I_98, I_108, I_109, I_120, I_48, I_57, show (47 : Int32) = I 47 from rfl, show (58 : Int32) = I 58 from rfl, show (59 : Int32) = I 59 from rfl, show (64 : Int32) = I 64 from rfl, show (46 : Int32) = I 46 from rfl, negI1, kd7, rf77, kd77, ln77, rf7w, kd7w, ln7w, rf7n, kd7n, ln7n, mm_fa, mm_mf, updI_s, updI_n, o_1587, o_1590, o_1591, ms_1590, ms_1591, forall_eq, true_and, and_true, or_true, true_or, vp_I, tn_I, I_eq, I_le, I_lt, I_no, no_I, I_add, I_sub, I_mul, Nat.add_zero, if_true, if_false, Nat.reduceLT, Nat.reduceLeDiff, Nat.reduceEqDiff, Nat.reduceAdd, Nat.reduceMul, Nat.reduceSub, d3]
            exact no (fun z => z.elim (fun z => d1 (of_decide_eq_true z).2) (fun z => z.elim (fun z => d2 (of_decide_eq_true z).2) (fun z => d3 (of_decide_eq_true z).2)))
    · simp (disch := omega) only [I_0, I_1, I_2, I_3, I_4, I_10, I_97, I_98, I_108, I_109, I_120, I_48, I_57, show (47 : Int32) = I 47 from rfl, show (58 : Int32) = I 58 from rfl, show (59 : Int32) = I 59 from rfl, show (64 : Int32) = I 64 from rfl, show (46 : Int32) = I 46 from rfl, negI1, kd7, rf77, kd77, ln77, rf7w, kd7w, ln7w, rf7n, kd7n, ln7n, mm_fa, mm_mf, updI_s, updI_n, o_1587, o_1590, o_1591, ms_1590, ms_1591, forall_eq, true_and, and_true, or_true, true_or, vp_I, tn_I, I_eq, I_le, I_lt, I_no, no_I, I_add, I_sub, I_mul, Nat.add_zero, if_true, if_false, Nat.reduceLT, Nat.reduceLeDiff, Nat.reduceEqDiff, Nat.reduceAdd, Nat.reduceMul, Nat.reduceSub, if_neg cn]
      refine m_here hU0 h17' h18 (by omega) ?_
      simp (disch := omega) only [I_0, I_1, I_2, I_3, I_4, I_10, I_97, I_98, I_108, I_109, I_120, I_48, I_57, show (47 : Int32) = I 47 from rfl, show (58 : Int32) = I 58 from rfl, show (59 : Int32) = I 59 from rfl, show (64 : Int32) = I 64 from rfl, show (46 : Int32) = I 46 from rfl, negI1, kd7, rf77, kd77, ln77, rf7w, kd7w, ln7w, rf7n, kd7n, ln7n, mm_fa, mm_mf, updI_s, updI_n, o_1587, o_1590, o_1591, ms_1590, ms_1591, forall_eq, true_and, and_true, or_true, true_or, vp_I, tn_I, I_eq, I_le, I_lt, I_no, no_I, I_add, I_sub, I_mul, Nat.add_zero, if_true, if_false, Nat.reduceLT, Nat.reduceLeDiff, Nat.reduceEqDiff, Nat.reduceAdd, Nat.reduceMul, Nat.reduceSub, if_neg cn]
      refine m_here hU0 h17' h18 (by omega) ?_
      simp (disch := omega) only [I_0, I_1, I_2, I_3, I_4, I_10, I_97, I_98, I_108, I_109, I_120, I_48, I_57, show (47 : Int32) = I 47 from rfl, show (58 : Int32) = I 58 from rfl, show (59 : Int32) = I 59 from rfl, show (64 : Int32) = I 64 from rfl, show (46 : Int32) = I 46 from rfl, negI1, kd7, rf77, kd77, ln77, rf7w, kd7w, ln7w, rf7n, kd7n, ln7n, mm_fa, mm_mf, updI_s, updI_n, o_1587, o_1590, o_1591, ms_1590, ms_1591, forall_eq, true_and, and_true, or_true, true_or, vp_I, tn_I, I_eq, I_le, I_lt, I_no, no_I, I_add, I_sub, I_mul, Nat.add_zero, if_true, if_false, Nat.reduceLT, Nat.reduceLeDiff, Nat.reduceEqDiff, Nat.reduceAdd, Nat.reduceMul, Nat.reduceSub, if_neg cn]
      exact no (fun z => z.elim (fun z => cn (of_decide_eq_true z).1) (fun z => z.elim (fun z => cn (of_decide_eq_true z).1) (fun z => cn (of_decide_eq_true z).1)))
  unfold T_X7_readsCommand
  simp (disch := omega) only [I_0, I_1, I_2, I_3, I_4, I_10, I_97, I_98, I_108, I_109, I_120, I_48, I_57, show (47 : Int32) = I 47 from rfl, show (58 : Int32) = I 58 from rfl, show (59 : Int32) = I 59 from rfl, show (64 : Int32) = I 64 from rfl, show (46 : Int32) = I 46 from rfl, negI1, kd7, rf77, kd77, ln77, rf7w, kd7w, ln7w, rf7n, kd7n, ln7n, mm_fa, mm_mf, updI_s, updI_n, o_1587, o_1590, o_1591, ms_1590, ms_1591, forall_eq, true_and, and_true, or_true, true_or, vp_I, tn_I, I_eq, I_le, I_lt, I_no, no_I, I_add, I_sub, I_mul, Nat.add_zero, if_true, if_false, Nat.reduceLT, Nat.reduceLeDiff, Nat.reduceEqDiff, Nat.reduceAdd, Nat.reduceMul, Nat.reduceSub, h22]
  refine m_here hU h17' h18 (by omega) ?_
  by_cases cn : p < n
  · rw [if_pos cn]
    have hu := (hU.2 p cn).2
    by_cases d1 : u p = 98
    · simp (disch := omega) only [I_0, I_1, I_2, I_3, I_4, I_10, I_97, I_98, I_108, I_109, I_120, I_48, I_57, show (47 : Int32) = I 47 from rfl, show (58 : Int32) = I 58 from rfl, show (59 : Int32) = I 59 from rfl, show (64 : Int32) = I 64 from rfl, show (46 : Int32) = I 46 from rfl, negI1, kd7, rf77, kd77, ln77, rf7w, kd7w, ln7w, rf7n, kd7n, ln7n, mm_fa, mm_mf, updI_s, updI_n, o_1587, o_1590, o_1591, ms_1590, ms_1591, forall_eq, true_and, and_true, or_true, true_or, vp_I, tn_I, I_eq, I_le, I_lt, I_no, no_I, I_add, I_sub, I_mul, Nat.add_zero, if_true, if_false, Nat.reduceLT, Nat.reduceLeDiff, Nat.reduceEqDiff, Nat.reduceAdd, Nat.reduceMul, Nat.reduceSub, d1]
      exact go 0 (by decide) ⟨fun _ => rfl, fun _ => decide_eq_true ⟨cn, d1⟩⟩ (fun z => absurd (decide_eq_true ⟨cn, d1⟩) z)
    · have n1 : ¬ sgn n u 98 p = true := fun z => d1 (of_decide_eq_true z).2
      simp (disch := omega) only [I_0, I_1, I_2, I_3, I_4, I_10, I_97, I_98, I_108, I_109, I_120, I_48, I_57, show (47 : Int32) = I 47 from rfl, show (58 : Int32) = I 58 from rfl, show (59 : Int32) = I 59 from rfl, show (64 : Int32) = I 64 from rfl, show (46 : Int32) = I 46 from rfl, negI1, kd7, rf77, kd77, ln77, rf7w, kd7w, ln7w, rf7n, kd7n, ln7n, mm_fa, mm_mf, updI_s, updI_n, o_1587, o_1590, o_1591, ms_1590, ms_1591, forall_eq, true_and, and_true, or_true, true_or, vp_I, tn_I, I_eq, I_le, I_lt, I_no, no_I, I_add, I_sub, I_mul, Nat.add_zero, if_true, if_false, Nat.reduceLT, Nat.reduceLeDiff, Nat.reduceEqDiff, Nat.reduceAdd, Nat.reduceMul, Nat.reduceSub, d1]
      refine m_here hU h17' h18 (by omega) ?_
      rw [if_pos cn]
      by_cases d2 : u p = 120
      · simp (disch := omega) only [I_0, I_1, I_2, I_3, I_4, I_10, I_97, I_98, I_108, I_109, I_120, I_48, I_57, show (47 : Int32) = I 47 from rfl, show (58 : Int32) = I 58 from rfl, show (59 : Int32) = I 59 from rfl, show (64 : Int32) = I 64 from rfl, show (46 : Int32) = I 46 from rfl, negI1, kd7, rf77, kd77, ln77, rf7w, kd7w, ln7w, rf7n, kd7n, ln7n, mm_fa, mm_mf, updI_s, updI_n, o_1587, o_1590, o_1591, ms_1590, ms_1591, forall_eq, true_and, and_true, or_true, true_or, vp_I, tn_I, I_eq, I_le, I_lt, I_no, no_I, I_add, I_sub, I_mul, Nat.add_zero, if_true, if_false, Nat.reduceLT, Nat.reduceLeDiff, Nat.reduceEqDiff, Nat.reduceAdd, Nat.reduceMul, Nat.reduceSub, d2]
        exact go 1 (by decide) ⟨fun z => absurd z n1, fun z => by cases z⟩ (fun _ => ⟨fun _ => rfl, fun _ => decide_eq_true ⟨cn, d2⟩⟩)
      · simp (disch := omega) only [I_0, I_1, I_2, I_3, I_4, I_10, I_97, I_98, I_108, I_109, I_120, I_48, I_57, show (47 : Int32) = I 47 from rfl, show (58 : Int32) = I 58 from rfl, show (59 : Int32) = I 59 from rfl, show (64 : Int32) = I 64 from rfl, show (46 : Int32) = I 46 from rfl, negI1, kd7, rf77, kd77, ln77, rf7w, kd7w, ln7w, rf7n, kd7n, ln7n, mm_fa, mm_mf, updI_s, updI_n, o_1587, o_1590, o_1591, ms_1590, ms_1591, forall_eq, true_and, and_true, or_true, true_or, vp_I, tn_I, I_eq, I_le, I_lt, I_no, no_I, I_add, I_sub, I_mul, Nat.add_zero, if_true, if_false, Nat.reduceLT, Nat.reduceLeDiff, Nat.reduceEqDiff, Nat.reduceAdd, Nat.reduceMul, Nat.reduceSub, d2]
        exact go 2 (by decide) ⟨fun z => absurd z n1, fun z => by cases z⟩ (fun _ => ⟨fun z => absurd (of_decide_eq_true z).2 d2, fun z => by cases z⟩)
  · have n1 : ¬ sgn n u 98 p = true := fun z => cn (of_decide_eq_true z).1
    simp (disch := omega) only [I_0, I_1, I_2, I_3, I_4, I_10, I_97, I_98, I_108, I_109, I_120, I_48, I_57, show (47 : Int32) = I 47 from rfl, show (58 : Int32) = I 58 from rfl, show (59 : Int32) = I 59 from rfl, show (64 : Int32) = I 64 from rfl, show (46 : Int32) = I 46 from rfl, negI1, kd7, rf77, kd77, ln77, rf7w, kd7w, ln7w, rf7n, kd7n, ln7n, mm_fa, mm_mf, updI_s, updI_n, o_1587, o_1590, o_1591, ms_1590, ms_1591, forall_eq, true_and, and_true, or_true, true_or, vp_I, tn_I, I_eq, I_le, I_lt, I_no, no_I, I_add, I_sub, I_mul, Nat.add_zero, if_true, if_false, Nat.reduceLT, Nat.reduceLeDiff, Nat.reduceEqDiff, Nat.reduceAdd, Nat.reduceMul, Nat.reduceSub, if_neg cn]
    refine m_here hU h17' h18 (by omega) ?_
    simp (disch := omega) only [I_0, I_1, I_2, I_3, I_4, I_10, I_97, I_98, I_108, I_109, I_120, I_48, I_57, show (47 : Int32) = I 47 from rfl, show (58 : Int32) = I 58 from rfl, show (59 : Int32) = I 59 from rfl, show (64 : Int32) = I 64 from rfl, show (46 : Int32) = I 46 from rfl, negI1, kd7, rf77, kd77, ln77, rf7w, kd7w, ln7w, rf7n, kd7n, ln7n, mm_fa, mm_mf, updI_s, updI_n, o_1587, o_1590, o_1591, ms_1590, ms_1591, forall_eq, true_and, and_true, or_true, true_or, vp_I, tn_I, I_eq, I_le, I_lt, I_no, no_I, I_add, I_sub, I_mul, Nat.add_zero, if_true, if_false, Nat.reduceLT, Nat.reduceLeDiff, Nat.reduceEqDiff, Nat.reduceAdd, Nat.reduceMul, Nat.reduceSub, if_neg cn]
    exact go 2 (by decide) ⟨fun z => absurd z n1, fun z => by cases z⟩ (fun _ => ⟨fun z => absurd (of_decide_eq_true z).1 cn, fun z => by cases z⟩)
end Pa4

