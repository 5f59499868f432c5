/-! ===== THE REFERENCE reads commands ===== -/
section Pa2
variable {M : Mem} {a : Nat → Nat} {f : Nat → Int32} {n : Nat} {u : Nat → Nat} {Q : Int32 → Mem → Prop} {QP : Mem → Prop}
/-- the state of the reading: right, and the place -/
def PF (n : Nat) (s : PSt) (f : Nat → Int32) : Prop := f 17 = I s.2 ∧ f 18 = I n ∧ f 19 = (if s.1 = true then I 1 else I 0)
/-- the text -/
def UT (n : Nat) (u : Nat → Nat) (M : Mem) : Prop := n ≤ 80 ∧ ∀ k, k < n → M.1 1587 k = I (u k) ∧ u k < 65536
/-- only the place and the state of the reading change -/
def FS (f f' : Nat → Int32) : Prop := ∀ j, j ≠ 17 → j ≠ 19 → f' j = f j
theorem FS.rfl {f : Nat → Int32} : FS f f := fun _ _ _ => by trivial
theorem FS.trans {f f' f'' : Nat → Int32} (e : FS f f') (e2 : FS f' f'') : FS f f'' := fun j j1 j2 => (e2 j j1 j2).trans (e j j1 j2)
theorem m_here (hU : UT n u M) {p : Nat} (h17 : f 17 = I p) (h18 : f 18 = I n) (hp : p < 1000) (h : if p < n then Q (I (u p)) (mm M a f) else Q NO (mm M a f)) : T_X7_here Q 1582 (mm M a f) := by
  have hn := hU.1
  unfold T_X7_here T_X7_here_24
  by_cases c : p < n
  · rw [if_pos c] at h
    have e := (hU.2 p c).1
    simp (disch := omega) only [I_0, I_1, I_2, I_3, I_4, I_10, I_97, I_98, I_108, I_109, I_120, I_48, I_57, show (47 : Int32) = I 47 from rfl, show (58 : Int32) = I 58 from rfl, show (59 : Int32) = I 59 from rfl, show (64 : Int32) = I 64 from rfl, show (46 : Int32) = I 46 from rfl, negI1, kd7, rf77, kd77, ln77, rf7w, kd7w, ln7w, rf7n, kd7n, ln7n, mm_fa, mm_mf, updI_s, updI_n, o_1587, o_1590, o_1591, ms_1590, ms_1591, forall_eq, true_and, and_true, or_true, true_or, vp_I, tn_I, I_eq, I_le, I_lt, I_no, no_I, I_add, I_sub, I_mul, Nat.add_zero, if_true, if_false, Nat.reduceLT, Nat.reduceLeDiff, Nat.reduceEqDiff, Nat.reduceAdd, Nat.reduceMul, Nat.reduceSub, h17, h18, show ¬ n ≤ p by omega, show p < 80 by omega, e]
    exact h
  · rw [if_neg c] at h
    simp (disch := omega) only [I_0, I_1, I_2, I_3, I_4, I_10, I_97, I_98, I_108, I_109, I_120, I_48, I_57, show (47 : Int32) = I 47 from rfl, show (58 : Int32) = I 58 from rfl, show (59 : Int32) = I 59 from rfl, show (64 : Int32) = I 64 from rfl, show (46 : Int32) = I 46 from rfl, negI1, kd7, rf77, kd77, ln77, rf7w, kd7w, ln7w, rf7n, kd7n, ln7n, mm_fa, mm_mf, updI_s, updI_n, o_1587, o_1590, o_1591, ms_1590, ms_1591, forall_eq, true_and, and_true, or_true, true_or, vp_I, tn_I, I_eq, I_le, I_lt, I_no, no_I, I_add, I_sub, I_mul, Nat.add_zero, if_true, if_false, Nat.reduceLT, Nat.reduceLeDiff, Nat.reduceEqDiff, Nat.reduceAdd, Nat.reduceMul, Nat.reduceSub, h17, h18, show n ≤ p by omega]
    exact h
theorem pf_set {s : PSt} (h18 : f 18 = I n) (hs : s.2 < 1000) (b : Bool) (q : Nat) : PF n (b, q) (updI (updI f 19 (if b = true then I 1 else I 0)) 17 (I q)) ∧ FS f (updI (updI f 19 (if b = true then I 1 else I 0)) 17 (I q)) :=
  ⟨⟨updI_s, by rw [updI_n (by decide), updI_n (by decide)]; exact h18, by rw [updI_n (by decide), updI_s]⟩, fun j j1 j2 => by rw [updI_n j1, updI_n j2]⟩
theorem m_must (hU : UT n u M) {s : PSt} {c : Nat} (hc : c < 65536) (hP : PF n s f) (hs : s.2 < 1000) (h : ∀ f', PF n (mst n u c s) f' → FS f f' → QP (mm M a f')) : T_X7_must QP 1582 (I c) (mm M a f) := by
  obtain ⟨b, p⟩ := s
  obtain ⟨h17, h18, h19⟩ := hP
  have hp : p < 1000 := hs
  have h17' : f 17 = I p := h17
  have no : mst n u c (b, p) = (false, p) → T_X7_must_21 QP 1582 (I 0) 1582 (mm M a f) := fun e => by
    rw [e] at h
    have g := pf_set (n := n) (s := (b, p)) h18 hs false p
    rw [if_neg (by decide)] at g
    unfold T_X7_must_21 T_X7_must_41
    simp (disch := omega) only [I_0, I_1, I_2, I_3, I_4, I_10, I_97, I_98, I_108, I_109, I_120, I_48, I_57, show (47 : Int32) = I 47 from rfl, show (58 : Int32) = I 58 from rfl, show (59 : Int32) = I 59 from rfl, show (64 : Int32) = I 64 from rfl, show (46 : Int32) = I 46 from rfl, negI1, kd7, rf77, kd77, ln77, rf7w, kd7w, ln7w, rf7n, kd7n, ln7n, mm_fa, mm_mf, updI_s, updI_n, o_1587, o_1590, o_1591, ms_1590, ms_1591, forall_eq, true_and, and_true, or_true, true_or, vp_I, tn_I, I_eq, I_le, I_lt, I_no, no_I, I_add, I_sub, I_mul, Nat.add_zero, if_true, if_false, Nat.reduceLT, Nat.reduceLeDiff, Nat.reduceEqDiff, Nat.reduceAdd, Nat.reduceMul, Nat.reduceSub, h17']
    exact h _ g.1 g.2
  unfold T_X7_must T_X7_must_20
  cases b with
  | false =>
    have e : mst n u c (false, p) = (false, p) := if_neg (fun z => by cases z.1)
    rw [if_neg (show ¬ ((false, p) : PSt).1 = true from Bool.false_ne_true)] at h19
    rw [mm_fa, h19, if_pos I_0.symm, I_0]
    exact ⟨by decide, no e⟩
  | true =>
    rw [if_pos rfl] at h19
    rw [mm_fa, h19, if_neg (by decide)]
    refine ⟨by decide, m_here hU h17' h18 hp ?_⟩
    by_cases cn : p < n
    · rw [if_pos cn]
      have hu := (hU.2 p cn).2
      by_cases cc : u p = c
      · have e : mst n u c (true, p) = (true, p + 1) := if_pos ⟨rfl, decide_eq_true ⟨cn, cc⟩⟩
        rw [e] at h
        have g := pf_set (n := n) (s := (true, p)) h18 hs true (p + 1)
        rw [if_pos rfl] at g
        rw [if_pos (by rw [cc])]
        unfold T_X7_must_21 T_X7_must_41
        simp (disch := omega) only [I_0, I_1, I_2, I_3, I_4, I_10, I_97, I_98, I_108, I_109, I_120, I_48, I_57, show (47 : Int32) = I 47 from rfl, show (58 : Int32) = I 58 from rfl, show (59 : Int32) = I 59 from rfl, show (64 : Int32) = I 64 from rfl, show (46 : Int32) = I 46 from rfl, negI1, kd7, rf77, kd77, ln77, rf7w, kd7w, ln7w, rf7n, kd7n, ln7n, mm_fa, mm_mf, updI_s, updI_n, o_1587, o_1590, o_1591, ms_1590, ms_1591, forall_eq, true_and, and_true, or_true, true_or, vp_I, tn_I, I_eq, I_le, I_lt, I_no, no_I, I_add, I_sub, I_mul, Nat.add_zero, if_true, if_false, Nat.reduceLT, Nat.reduceLeDiff, Nat.reduceEqDiff, Nat.reduceAdd, Nat.reduceMul, Nat.reduceSub, h17']
        exact h _ g.1 g.2
      · rw [if_neg (by rw [I_eq (by omega) (by omega)]; exact cc), I_0]
        exact no (if_neg (fun z => cc (of_decide_eq_true z.2).2))
    · rw [if_neg cn, if_neg (by rw [no_I (by omega)]; exact id), I_0]
      exact no (if_neg (fun z => cn (of_decide_eq_true z.2).1))
theorem m_dig (hU : UT n u M) {s : PSt} (hP : PF n s f) (hs : s.2 < 1000) (h : ∀ f', PF n (dig n u s).1 f' → FS f f' → Q (I (dig n u s).2) (mm M a f')) : T_X7_digit Q 1582 (mm M a f) := by
  obtain ⟨b, p⟩ := s
  obtain ⟨h17, h18, h19⟩ := hP
  have hp : p < 1000 := hs
  have h17' : f 17 = I p := h17
  have no : dig n u (b, p) = ((false, p), 0) → T_X7_digit_27 Q 1582 (I 0) 1582 (mm M a f) := fun e => by
    rw [e] at h
    have g : PF n (false, p) (updI f 19 (I 0)) ∧ FS f (updI f 19 (I 0)) := ⟨⟨by rw [updI_n (by decide)]; exact h17', by rw [updI_n (by decide)]; exact h18, by rw [updI_s]; rfl⟩, fun j _ j2 => updI_n j2⟩
    unfold T_X7_digit_27
    simp (disch := omega) only [I_0, I_1, I_2, I_3, I_4, I_10, I_97, I_98, I_108, I_109, I_120, I_48, I_57, show (47 : Int32) = I 47 from rfl, show (58 : Int32) = I 58 from rfl, show (59 : Int32) = I 59 from rfl, show (64 : Int32) = I 64 from rfl, show (46 : Int32) = I 46 from rfl, negI1, kd7, rf77, kd77, ln77, rf7w, kd7w, ln7w, rf7n, kd7n, ln7n, mm_fa, mm_mf, updI_s, updI_n, o_1587, o_1590, o_1591, ms_1590, ms_1591, forall_eq, true_and, and_true, or_true, true_or, vp_I, tn_I, I_eq, I_le, I_lt, I_no, no_I, I_add, I_sub, I_mul, Nat.add_zero, if_true, if_false, Nat.reduceLT, Nat.reduceLeDiff, Nat.reduceEqDiff, Nat.reduceAdd, Nat.reduceMul, Nat.reduceSub, h17']
    exact h _ g.1 g.2
  unfold T_X7_digit T_X7_digit_26
  cases b with
  | false =>
    have e : dig n u (false, p) = ((false, p), 0) := if_neg (fun z => by cases z.1)
    rw [if_neg (show ¬ ((false, p) : PSt).1 = true from Bool.false_ne_true)] at h19
    rw [mm_fa, h19, if_pos I_0.symm, I_0]
    exact ⟨by decide, no e⟩
  | true =>
    rw [if_pos rfl] at h19
    rw [mm_fa, h19, if_neg (by decide)]
    refine ⟨by decide, m_here hU h17' h18 hp ?_⟩
    have inr : ∀ v : Nat, v < 65536 → (I 48 ≤ I v ∧ I v ≤ I 57) = (48 ≤ v ∧ v ≤ 57) := fun v hv => by rw [I_le (by decide) (by omega), I_le (by omega) (by decide)]
    by_cases cn : p < n
    · rw [if_pos cn]
      have hu := (hU.2 p cn).2
      have e1 := (hU.2 p cn).1
      have hn := hU.1
      rw [I_48, I_57, m_in]
      by_cases cc : 48 ≤ u p ∧ u p ≤ 57
      · have e : dig n u (true, p) = ((true, p + 1), u p - 48) := if_pos ⟨rfl, decide_eq_true ⟨cn, cc⟩⟩
        rw [e] at h
        have g := pf_set (n := n) (s := (true, p)) h18 hs true (p + 1)
        rw [if_pos rfl] at g
        rw [if_pos (by rw [inr _ hu]; exact cc), if_neg (by decide)]
        unfold T_X7_digit_27
        simp (disch := omega) only [I_0, I_1, I_2, I_3, I_4, I_10, I_97, I_98, I_108, I_109, I_120, I_48, I_57, show (47 : Int32) = I 47 from rfl, show (58 : Int32) = I 58 from rfl, show (59 : Int32) = I 59 from rfl, show (64 : Int32) = I 64 from rfl, show (46 : Int32) = I 46 from rfl, negI1, kd7, rf77, kd77, ln77, rf7w, kd7w, ln7w, rf7n, kd7n, ln7n, mm_fa, mm_mf, updI_s, updI_n, o_1587, o_1590, o_1591, ms_1590, ms_1591, forall_eq, true_and, and_true, or_true, true_or, vp_I, tn_I, I_eq, I_le, I_lt, I_no, no_I, I_add, I_sub, I_mul, Nat.add_zero, if_true, if_false, Nat.reduceLT, Nat.reduceLeDiff, Nat.reduceEqDiff, Nat.reduceAdd, Nat.reduceMul, Nat.reduceSub, h17', Nat.add_sub_cancel, show p < 80 by omega, e1]
        exact h _ g.1 g.2
      · rw [if_neg (by rw [inr _ hu]; exact cc), if_pos I_0.symm, I_0]
        exact no (if_neg (fun z => cc (of_decide_eq_true z.2).2))
    · rw [if_neg cn, I_48, I_57, m_in, if_neg (by rw [le_ti, ti_NO, ti_I (by decide)]; omega), if_pos I_0.symm, I_0]
      exact no (if_neg (fun z => cn (of_decide_eq_true z.2).1))
theorem m_num (hU : UT n u M) {s : PSt} (hP : PF n s f) (hs : s.2 < 900) (h : ∀ f', PF n (num n u s).1 f' → FS f f' → Q (I (num n u s).2) (mm M a f')) : T_X7_number Q 1582 (mm M a f) := by
  have d1 := dig_b (n := n) (u := u) (s := s)
  unfold T_X7_number
  refine ⟨by decide, m_dig hU hP (by omega) (fun f1 p1 s1 => ?_)⟩
  unfold T_X7_number_38 T_X7_number_39
  have stay : num n u s = dig n u s → Q (I (dig n u s).2) (mm M a f1) := fun e => by
    rw [e] at h
    exact h f1 p1 s1
  by_cases c1 : (dig n u s).1.1 = true
  · have h19 := p1.2.2
    rw [if_pos c1] at h19
    rw [mm_fa, h19, if_neg (by decide)]
    refine m_here hU p1.1 p1.2.1 (by omega) ?_
    have inr : ∀ v : Nat, v < 65536 → (I 48 ≤ I v ∧ I v ≤ I 57) = (48 ≤ v ∧ v ≤ 57) := fun v hv => by rw [I_le (by decide) (by omega), I_le (by omega) (by decide)]
    by_cases cn : (dig n u s).1.2 < n
    · rw [if_pos cn]
      have hu := (hU.2 _ cn).2
      rw [I_48, I_57, m_in]
      by_cases cc : 48 ≤ u (dig n u s).1.2 ∧ u (dig n u s).1.2 ≤ 57
      · have e : num n u s = ((dig n u (dig n u s).1).1, 10 * (dig n u s).2 + (dig n u (dig n u s).1).2) := if_pos ⟨c1, decide_eq_true ⟨cn, cc⟩⟩
        rw [e] at h
        rw [if_pos (by rw [inr _ hu]; exact cc), if_neg (by decide)]
        refine m_dig hU p1 (by omega) (fun f2 p2 s2 => ?_)
        rw [I_10, I_mul, I_add]
        exact h f2 p2 (s1.trans s2)
      · rw [if_neg (by rw [inr _ hu]; exact cc), if_pos I_0.symm]
        exact stay (if_neg (fun z => cc (of_decide_eq_true z.2).2))
    · rw [if_neg cn, I_48, I_57, m_in, if_neg (by rw [le_ti, ti_NO, ti_I (by decide)]; omega), if_pos I_0.symm]
      exact stay (if_neg (fun z => cn (of_decide_eq_true z.2).1))
  · have h19 := p1.2.2
    rw [if_neg c1] at h19
    rw [mm_fa, h19, if_pos I_0.symm]
    exact stay (if_neg (fun z => c1 z.1))
end Pa2

