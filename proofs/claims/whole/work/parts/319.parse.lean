/-! ===== THE REFERENCE reads letters ===== -/
section Pa3
variable {M : Mem} {a : Nat → Nat} {f : Nat → Int32} {n : Nat} {u : Nat → Nat} {Q : Int32 → Mem → Prop} {QP : Mem → Prop}
theorem and_pw (z c : Nat) : (z &&& 2 ^ c = 0) = (z.testBit c = false) := by
  refine propext ⟨fun h => ?_, fun h => ?_⟩
  · have e := congrArg (fun x : Nat => x.testBit c) h
    simp only [Nat.testBit_and, Nat.testBit_two_pow_self, Bool.and_true, Nat.zero_testBit] at e
    exact e
  · apply Nat.eq_of_testBit_eq
    intro i
    rw [Nat.testBit_and, Nat.testBit_two_pow, Nat.zero_testBit]
    by_cases q : c = i
    · subst q; rw [h, Bool.false_and]
    · rw [decide_eq_false q, Bool.and_false]
theorem m_lts (hU : UT n u M) : ∀ (m k z p : Nat) (f : Nat → Int32), PF n (true, p) f → k + m = 5 → k ≤ 3 → z < 4096 → p + m < 1000 → (∀ f', PF n (lts n u m k z p).1 f' → FS f f' → Q (I (lts n u m k z p).2) (mm M a f')) → T_X7_letters_34 Q (m + 1) 1582 (I z) (I k) (mm M a f) := by
  intro m
  induction m with
  | zero =>
    intro k z p f hP hk hk3
    omega
  | succ m ih =>
    intro k z p f hP hk hk3 hz hp h
    obtain ⟨h17, h18, h19⟩ := hP
    have h17' : f 17 = I p := h17
    rw [if_pos (show ((true, p) : PSt).1 = true from rfl)] at h19
    unfold T_X7_letters_34
    rw [mm_fa, h19, if_neg (by decide)]
    refine ⟨by decide, m_here hU h17' h18 (by omega) ?_⟩
    unfold T_X7_letters_116
    have inr : ∀ v : Nat, v < 65536 → (I 97 ≤ I v ∧ I v ≤ I 108) = (97 ≤ v ∧ v ≤ 108) := fun v hv => by rw [I_le (by decide) (by omega), I_le (by omega) (by decide)]
    have stay : lts n u (m + 1) k z p = ((true, p), z) → Q (I z) (mm M a f) := fun e => by
      rw [e] at h
      exact h f ⟨h17, h18, by rw [h19]; rfl⟩ FS.rfl
    have lu : lts n u (m + 1) k z p = if lfn n u p = true then (if k < 3 ∧ z.testBit (u p - 97) = false then lts n u m (k + 1) (z ||| 2 ^ (u p - 97)) (p + 1) else ((false, p), z ||| 2 ^ (u p - 97))) else ((true, p), z) := rfl
    by_cases cn : p < n
    · rw [if_pos cn]
      have hu := (hU.2 p cn).2
      rw [I_97, I_108, m_in]
      by_cases cc : 97 ≤ u p ∧ u p ≤ 108
      · have hl : lfn n u p = true := decide_eq_true ⟨cn, cc⟩
        rw [if_pos hl] at lu
        rw [if_pos (by rw [inr _ hu]; exact cc), if_neg (by decide)]
        refine m_here hU h17' h18 (by omega) ?_
        rw [if_pos cn]
        have eb : (1 : Int32) <<< ((I (u p) - I 97) &&& 31) = I (2 ^ (u p - 97)) := by
          rw [I_sub (by omega), I_1, I_31]
          exact I_shl (by omega)
        rintro x8 rfl
        rw [eb, I_3]
        have hpw : 2 ^ (u p - 97) < 4096 := Nat.pow_lt_pow_right (a := 2) (n := 12) (by decide) (by omega)
        have hor : z ||| 2 ^ (u p - 97) < 4096 := Nat.or_lt_two_pow (n := 12) hz hpw
        have bad : (¬ (k < 3 ∧ z.testBit (u p - 97) = false)) → T_X7_letters_82 (T_X7_letters_34 Q (m + 1)) Q 1582 (I z) (I k) (I (2 ^ (u p - 97))) (I 0) 1582 (mm M a f) := fun cz => by
          rw [if_neg cz] at lu
          rw [lu] at h
          unfold T_X7_letters_82 T_X7_letters_109
          simp (disch := omega) only [I_0, I_1, I_2, I_3, I_4, I_10, I_97, I_98, I_108, I_109, I_120, I_48, I_57, show (47 : Int32) = I 47 from rfl, show (58 : Int32) = I 58 from rfl, show (59 : Int32) = I 59 from rfl, show (64 : Int32) = I 64 from rfl, show (46 : Int32) = I 46 from rfl, negI1, kd7, rf77, kd77, ln77, rf7w, kd7w, ln7w, rf7n, kd7n, ln7n, mm_fa, mm_mf, updI_s, updI_n, o_1587, o_1590, o_1591, ms_1590, ms_1591, forall_eq, true_and, and_true, or_true, true_or, vp_I, tn_I, I_eq, I_le, I_lt, I_no, no_I, I_add, I_sub, I_mul, Nat.add_zero, if_true, if_false, Nat.reduceLT, Nat.reduceLeDiff, Nat.reduceEqDiff, Nat.reduceAdd, Nat.reduceMul, Nat.reduceSub, I_or, h17', show z ||| 2 ^ (u p - 97) < 2147483648 by omega]
          unfold T_X7_letters_34 T_X7_letters_116
          simp (disch := omega) only [I_0, I_1, I_2, I_3, I_4, I_10, I_97, I_98, I_108, I_109, I_120, I_48, I_57, show (47 : Int32) = I 47 from rfl, show (58 : Int32) = I 58 from rfl, show (59 : Int32) = I 59 from rfl, show (64 : Int32) = I 64 from rfl, show (46 : Int32) = I 46 from rfl, negI1, kd7, rf77, kd77, ln77, rf7w, kd7w, ln7w, rf7n, kd7n, ln7n, mm_fa, mm_mf, updI_s, updI_n, o_1587, o_1590, o_1591, ms_1590, ms_1591, forall_eq, true_and, and_true, or_true, true_or, vp_I, tn_I, I_eq, I_le, I_lt, I_no, no_I, I_add, I_sub, I_mul, Nat.add_zero, if_true, if_false, Nat.reduceLT, Nat.reduceLeDiff, Nat.reduceEqDiff, Nat.reduceAdd, Nat.reduceMul, Nat.reduceSub]
          have g := pf_set (n := n) (s := (true, p)) h18 (show p < 1000 by omega) false p
          rw [if_neg (by decide)] at g
          exact h _ g.1 g.2
        unfold T_X7_letters_81
        by_cases k3 : k < 3
        · rw [if_neg (by rw [I_le (by decide) (by omega)]; omega), I_and]
          by_cases bt : z.testBit (u p - 97) = false
          · rw [if_pos (by rw [(and_pw z (u p - 97)).mpr bt]; rfl)]
            rw [if_pos ⟨k3, bt⟩] at lu
            rw [lu] at h
            unfold T_X7_letters_82 T_X7_letters_109
            simp (disch := omega) only [I_0, I_1, I_2, I_3, I_4, I_10, I_97, I_98, I_108, I_109, I_120, I_48, I_57, show (47 : Int32) = I 47 from rfl, show (58 : Int32) = I 58 from rfl, show (59 : Int32) = I 59 from rfl, show (64 : Int32) = I 64 from rfl, show (46 : Int32) = I 46 from rfl, negI1, kd7, rf77, kd77, ln77, rf7w, kd7w, ln7w, rf7n, kd7n, ln7n, mm_fa, mm_mf, updI_s, updI_n, o_1587, o_1590, o_1591, ms_1590, ms_1591, forall_eq, true_and, and_true, or_true, true_or, vp_I, tn_I, I_eq, I_le, I_lt, I_no, no_I, I_add, I_sub, I_mul, Nat.add_zero, if_true, if_false, Nat.reduceLT, Nat.reduceLeDiff, Nat.reduceEqDiff, Nat.reduceAdd, Nat.reduceMul, Nat.reduceSub, I_or, h17']
            have g := pf_set (n := n) (s := (true, p)) h18 (show p < 1000 by omega) true (p + 1)
            rw [if_pos rfl] at g
            exact ih (k + 1) _ (p + 1) _ g.1 (by omega) (by omega) hor (by omega) (fun f' q1 q2 => h f' q1 (g.2.trans q2))
          · rw [if_neg (by rw [I_0, I_eq (Nat.lt_of_le_of_lt Nat.and_le_left (show z < 2147483648 by omega)) (by decide), and_pw]; exact bt)]
            exact bad (fun w => bt w.2)
        · rw [if_pos (by rw [I_le (by decide) (by omega)]; omega)]
          exact bad (fun w => k3 w.1)
      · rw [if_neg (by rw [inr _ hu]; exact cc), if_pos I_0.symm]
        exact stay (lu.trans (if_neg (fun w => cc (of_decide_eq_true w).2)))
    · rw [if_neg cn, I_97, I_108, m_in, if_neg (by rw [le_ti, ti_NO, ti_I (by decide)]; omega), if_pos I_0.symm]
      exact stay (lu.trans (if_neg (fun w => cn (of_decide_eq_true w).1)))
theorem m_ltr (hU : UT n u M) {s : PSt} (hP : PF n s f) (hs : s.2 < 900) (h : ∀ f', PF n (ltr n u s).1 f' → FS f f' → Q (I (ltr n u s).2) (mm M a f')) : T_X7_letters Q 1582 (mm M a f) := by
  obtain ⟨b, p⟩ := s
  obtain ⟨h17, h18, h19⟩ := hP
  have hp : p < 900 := hs
  have h17' : f 17 = I p := h17
  have no : ltr n u (b, p) = ((false, p), 0) → T_X7_letters_31 Q 1582 (I 0) (I 0) (I 0) 1582 (mm M a f) := fun e => by
    rw [e] at h
    have g : PF n (false, p) (updI f 19 (I 0)) ∧ FS f (updI f 19 (I 0)) := ⟨⟨by rw [updI_n (by decide)]; exact h17', by rw [updI_n (by decide)]; exact h18, by rw [updI_s]; rfl⟩, fun j _ j2 => updI_n j2⟩
    unfold T_X7_letters_31
    simp (disch := omega) only [I_0, I_1, I_2, I_3, I_4, I_10, I_97, I_98, I_108, I_109, I_120, I_48, I_57, show (47 : Int32) = I 47 from rfl, show (58 : Int32) = I 58 from rfl, show (59 : Int32) = I 59 from rfl, show (64 : Int32) = I 64 from rfl, show (46 : Int32) = I 46 from rfl, negI1, kd7, rf77, kd77, ln77, rf7w, kd7w, ln7w, rf7n, kd7n, ln7n, mm_fa, mm_mf, updI_s, updI_n, o_1587, o_1590, o_1591, ms_1590, ms_1591, forall_eq, true_and, and_true, or_true, true_or, vp_I, tn_I, I_eq, I_le, I_lt, I_no, no_I, I_add, I_sub, I_mul, Nat.add_zero, if_true, if_false, Nat.reduceLT, Nat.reduceLeDiff, Nat.reduceEqDiff, Nat.reduceAdd, Nat.reduceMul, Nat.reduceSub]
    refine ⟨1, ?_⟩
    unfold T_X7_letters_34 T_X7_letters_116
    simp (disch := omega) only [I_0, I_1, I_2, I_3, I_4, I_10, I_97, I_98, I_108, I_109, I_120, I_48, I_57, show (47 : Int32) = I 47 from rfl, show (58 : Int32) = I 58 from rfl, show (59 : Int32) = I 59 from rfl, show (64 : Int32) = I 64 from rfl, show (46 : Int32) = I 46 from rfl, negI1, kd7, rf77, kd77, ln77, rf7w, kd7w, ln7w, rf7n, kd7n, ln7n, mm_fa, mm_mf, updI_s, updI_n, o_1587, o_1590, o_1591, ms_1590, ms_1591, forall_eq, true_and, and_true, or_true, true_or, vp_I, tn_I, I_eq, I_le, I_lt, I_no, no_I, I_add, I_sub, I_mul, Nat.add_zero, if_true, if_false, Nat.reduceLT, Nat.reduceLeDiff, Nat.reduceEqDiff, Nat.reduceAdd, Nat.reduceMul, Nat.reduceSub]
    exact h _ g.1 g.2
  unfold T_X7_letters T_X7_letters_30
  cases b with
  | false =>
    have e : ltr n u (false, p) = ((false, p), 0) := if_neg (fun z => by cases z.1)
    rw [if_neg (show ¬ ((false, p) : PSt).1 = true from Bool.false_ne_true)] at h19
    rw [mm_fa, h19, if_pos I_0.symm, I_0]
    exact ⟨by decide, no e⟩
  | true =>
    rw [if_pos rfl] at h19
    rw [mm_fa, h19, if_neg (by decide)]
    refine ⟨by decide, m_here hU h17' h18 (by omega) ?_⟩
    have inr : ∀ v : Nat, v < 65536 → (I 97 ≤ I v ∧ I v ≤ I 108) = (97 ≤ v ∧ v ≤ 108) := fun v hv => by rw [I_le (by decide) (by omega), I_le (by omega) (by decide)]
    by_cases cn : p < n
    · rw [if_pos cn]
      have hu := (hU.2 p cn).2
      rw [I_97, I_108, m_in]
      by_cases cc : 97 ≤ u p ∧ u p ≤ 108
      · have e : ltr n u (true, p) = lts n u 5 0 0 p := if_pos ⟨rfl, decide_eq_true ⟨cn, cc⟩⟩
        rw [e] at h
        rw [if_pos (by rw [inr _ hu]; exact cc), if_neg (by decide), I_0, I_1]
        have g : PF n (true, p) (updI f 19 (I 1)) ∧ FS f (updI f 19 (I 1)) := ⟨⟨by rw [updI_n (by decide)]; exact h17', by rw [updI_n (by decide)]; exact h18, by rw [updI_s]; rfl⟩, fun j _ j2 => updI_n j2⟩
        unfold T_X7_letters_31
        simp (disch := omega) only [I_0, I_1, I_2, I_3, I_4, I_10, I_97, I_98, I_108, I_109, I_120, I_48, I_57, show (47 : Int32) = I 47 from rfl, show (58 : Int32) = I 58 from rfl, show (59 : Int32) = I 59 from rfl, show (64 : Int32) = I 64 from rfl, show (46 : Int32) = I 46 from rfl, negI1, kd7, rf77, kd77, ln77, rf7w, kd7w, ln7w, rf7n, kd7n, ln7n, mm_fa, mm_mf, updI_s, updI_n, o_1587, o_1590, o_1591, ms_1590, ms_1591, forall_eq, true_and, and_true, or_true, true_or, vp_I, tn_I, I_eq, I_le, I_lt, I_no, no_I, I_add, I_sub, I_mul, Nat.add_zero, if_true, if_false, Nat.reduceLT, Nat.reduceLeDiff, Nat.reduceEqDiff, Nat.reduceAdd, Nat.reduceMul, Nat.reduceSub]
        exact ⟨_, m_lts hU 5 0 0 p _ g.1 rfl (by decide) (by decide) (by omega) (fun f' q1 q2 => h f' q1 (g.2.trans q2))⟩
      · rw [if_neg (by rw [inr _ hu]; exact cc), if_pos I_0.symm, I_0]
        exact no (if_neg (fun w => cc (of_decide_eq_true w.2).2))
    · rw [if_neg cn, I_97, I_108, m_in, if_neg (by rw [le_ti, ti_NO, ti_I (by decide)]; omega), if_pos I_0.symm, I_0]
      exact no (if_neg (fun w => cn (of_decide_eq_true w.2).1))
end Pa3

