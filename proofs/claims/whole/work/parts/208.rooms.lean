/-! ===== ROOMS in their order ===== -/
def keyR (a : Nat → Nat) (i r : Nat) : Nat := (ad (a (54 + r)) (a (12 + i)) * 4 + a (60 + r)) * 6 + r
theorem keyR_inj {a : Nat → Nat} {i : Nat} {x y : Nat} (hx : x < 6) (hy : y < 6) (h : keyR a i x = keyR a i y) : x = y := by unfold keyR at h; omega
theorem ahd_key {a : Nat → Nat} (hV : VA a) {i x y : Nat} (hx : x < a 3) (hy : y < a 3) : ahd a x y i = decide (keyR a i x < keyR a i y) := by
  have h3 := hV.2.1.2.2.2.1
  have hX := (hV.2.2.2.2.1 x hx).2.1
  have hY := (hV.2.2.2.2.1 y hy).2.1
  unfold ahd keyR
  by_cases c1 : ad (a (54 + x)) (a (12 + i)) = ad (a (54 + y)) (a (12 + i))
  · rw [if_pos c1]
    by_cases c2 : a (60 + x) = a (60 + y)
    · rw [if_pos c2]; apply decide_eq_decide.mpr; omega
    · rw [if_neg c2]; apply decide_eq_decide.mpr; omega
  · rw [if_neg c1]; apply decide_eq_decide.mpr; omega
theorem rnk_rk {a : Nat → Nat} (hV : VA a) {i r : Nat} (hr : r < a 3) : rnk a i r = rk (keyR a i) (a 3) r := by
  unfold rnk rk
  refine sm_cg (fun k hk => ?_)
  try dsimp only
  rw [ahd_key hV hk hr]
  by_cases c : keyR a i k < keyR a i r
  · rw [if_pos c, if_pos ⟨fun e => by subst e; omega, by simpa using c⟩]
  · rw [if_neg c, if_neg (fun q => c (by simpa using q.2))]
theorem inj6 {a : Nat → Nat} (hV : VA a) (i : Nat) : ∀ x y, x < a 3 → y < a 3 → keyR a i x = keyR a i y → x = y := fun x y hx hy h => keyR_inj (by have := hV.2.1.2.2.2.1; omega) (by have := hV.2.1.2.2.2.1; omega) h
theorem ordR_ex {a : Nat → Nat} (hV : VA a) {i p : Nat} (hp : p < a 3) : ∃ r, r < a 3 ∧ ordR a i p = some r ∧ rk (keyR a i) (a 3) r = p := by
  obtain ⟨r, hr, h⟩ := rk_ex (inj6 hV i) p hp
  refine ⟨r, hr, ?_, h⟩
  unfold ordR
  refine fnd_s (Nat.zero_le _) (by omega) (by rw [rnk_rk hV hr, h]; simp) (fun q _ hq => ?_)
  rw [rnk_rk hV (by omega)]
  by_cases c : rk (keyR a i) (a 3) q = p
  · have := rk_inj (inj6 hV i) (by omega) hr (c.trans h.symm); omega
  · simpa using c
/-- a room that can be had -/
def had (a : Nat → Nat) (i n d t : Nat) (r : Nat) : Bool := poss a r i n d t && decide (a (66 + r) = 1 ∨ (n : Int) ≤ lft a d t)
/-- the first room that can be had in the order -/
def rmB (a : Nat → Nat) (i n d t : Nat) : Option Nat := am (keyR a i) (had a i n d t) (a 3)
theorem rmL_is {a : Nat → Nat} (hV : VA a) {i n d t : Nat} : ∀ (m p : Nat) (any : Bool), p + m = a 3 → (∀ q, q < a 3 → rk (keyR a i) (a 3) q < p → had a i n d t q = false) → (any = true ↔ ∃ q, q < a 3 ∧ rk (keyR a i) (a 3) q < p ∧ poss a q i n d t = true) →
    rmL a i n d t any m p = (match rmB a i n d t with | some r => I r | none => if anyB (fun r => poss a r i n d t) (a 3) = true then -(I 2) else NO) := by
  intro m
  induction m with
  | zero =>
    intro p any hp h1 h2
    have hN : rmB a i n d t = none := by
      cases e : rmB a i n d t with
      | none => rfl
      | some b =>
        obtain ⟨g1, g2, -⟩ := am_s e
        rw [h1 b g1 (by have := rk_bd (key := keyR a i) g1; omega)] at g2; cases g2
    rw [hN]
    unfold rmL
    dsimp only
    by_cases c : any = true
    · obtain ⟨q, q1, -, q3⟩ := h2.mp c
      rw [if_pos c, if_pos (anyB_t.mpr ⟨q, q1, q3⟩)]
    · rw [if_neg c, if_neg]
      intro z
      obtain ⟨q, q1, q3⟩ := anyB_t.mp z
      exact c (h2.mpr ⟨q, q1, by have := rk_bd (key := keyR a i) q1; omega, q3⟩)
  | succ m ih =>
    intro p any hp h1 h2
    obtain ⟨r, hr, ho, hrk⟩ := ordR_ex hV (i := i) (p := p) (by omega)
    have key : ∀ q, q < a 3 → rk (keyR a i) (a 3) q < p + 1 → q = r ∨ rk (keyR a i) (a 3) q < p := fun q hq hq2 => by
      by_cases c : rk (keyR a i) (a 3) q = p
      · exact Or.inl (rk_inj (inj6 hV i) hq hr (c.trans hrk.symm))
      · exact Or.inr (by omega)
    unfold rmL
    rw [ho]
    dsimp only
    by_cases c1 : poss a r i n d t = true
    · rw [if_pos c1]
      by_cases c2 : a (66 + r) = 1 ∨ (n : Int) ≤ lft a d t
      · rw [if_pos c2]
        have hS : rmB a i n d t = some r := am_is (inj6 hV i) hr (by unfold had; rw [c1, decide_eq_true c2]; rfl) (fun q hq hh => by
          by_cases c : keyR a i q < keyR a i r
          · have := rk_lt (n := a 3) hq c
            rw [h1 q hq (by omega)] at hh; cases hh
          · omega)
        rw [hS]
      · rw [if_neg c2]
        refine ih (p + 1) true (by omega) (fun q hq hq2 => ?_) ⟨fun _ => ⟨r, hr, by omega, c1⟩, fun _ => rfl⟩
        rcases key q hq hq2 with e | e
        · subst e; unfold had; rw [decide_eq_false c2, Bool.and_false]
        · exact h1 q hq e
    · rw [if_neg c1]
      refine ih (p + 1) any (by omega) (fun q hq hq2 => ?_) ⟨fun z => ?_, fun z => ?_⟩
      · rcases key q hq hq2 with e | e
        · subst e; unfold had; rw [show poss a q i n d t = false by simpa using c1, Bool.false_and]
        · exact h1 q hq e
      · obtain ⟨q, q1, q2, q3⟩ := h2.mp z
        exact ⟨q, q1, by omega, q3⟩
      · obtain ⟨q, q1, q2, q3⟩ := z
        rcases key q q1 q2 with e | e
        · subst e; exact absurd q3 c1
        · exact h2.mpr ⟨q, q1, e, q3⟩
theorem rmF_is {a : Nat → Nat} (hV : VA a) {i n d t : Nat} : rmF a i n d t = (match rmB a i n d t with | some r => I r | none => if anyB (fun r => poss a r i n d t) (a 3) = true then -(I 2) else NO) :=
  rmL_is hV (a 3) 0 false (by omega) (fun q _ h => by omega) ⟨fun h => (by cases h), fun ⟨q, _, h, _⟩ => by omega⟩
section Md6
variable {M : Mem} {a : Nat → Nat} {f : Nat → Int32} {Q : Int32 → Mem → Prop}
theorem lft_bd (hV : VA a) (d t : Nat) : -1000 ≤ lft a d t ∧ lft a d t < 10000 := lft_b hV.2.1.2.2.2.2.2.2.2.2.2.2.2 d t hV.2.1.2.2.2.2.1
theorem l_rm (hV : VA a) {i n d t : Nat} (hi : i < 100) (hn : n < 100) (hd : d < 4096) (ht : t < 4096) : ∀ m k (any : Bool), k + m = a 3 → Q (rmL a i n d t any m k) (mm M a f) → T_X7_roomFor_6 Q (m + 1) 1582 (I i) (I n) (I d) (I t) (bI any) (I k) (mm M a f) := by
  have hb := hV.1
  have h3 := hV.2.1.2.2.2.1
  intro m
  induction m with
  | zero =>
    intro k any hk h
    unfold T_X7_roomFor_6 T_X7_roomFor_88
    unfold rmL at h
    cases any
    · simp (disch := first | exact lt4 (hb _) | exact hb _ | omega) only [I_0, I_1, I_2, I_3, I_4, I_5, I_6, I_7, I_8, I_9, I_10, I_11, I_12, I_20, I_22, I_27, I_31, I_32, I_38, I_42, I_48, I_54, I_55, I_56, I_57, I_60, I_66, I_72, I_78, I_80, I_97, I_98, I_99, I_100, I_108, I_109, I_116, I_120, I_438, I_488, I_512, I_552, I_3864, oN_s, oN_n, bI_t, bI_f, Nat.add_zero, I_bt1, I_bt0, Nat.reduceLT, Nat.reduceLeDiff, Nat.reduceEqDiff, Nat.reduceAdd, Nat.reduceMul, Nat.reduceSub, tn_I, I_add, I_mul, I_div, vp_I, I_eq, I_le, I_lt, I_no, no_I, negI1, kd7, rf71, kdS, lnS, mm_sa, mm_fa, mm_ms, mm_mf, true_and, and_true, false_and, and_false, if_true, if_false, ite_true, ite_false, forall_eq, true_or, or_true, show a 3 ≤ k by omega, bI_f]
      exact h
    · simp (disch := first | exact lt4 (hb _) | exact hb _ | omega) only [I_0, I_1, I_2, I_3, I_4, I_5, I_6, I_7, I_8, I_9, I_10, I_11, I_12, I_20, I_22, I_27, I_31, I_32, I_38, I_42, I_48, I_54, I_55, I_56, I_57, I_60, I_66, I_72, I_78, I_80, I_97, I_98, I_99, I_100, I_108, I_109, I_116, I_120, I_438, I_488, I_512, I_552, I_3864, oN_s, oN_n, bI_t, bI_f, Nat.add_zero, I_bt1, I_bt0, Nat.reduceLT, Nat.reduceLeDiff, Nat.reduceEqDiff, Nat.reduceAdd, Nat.reduceMul, Nat.reduceSub, tn_I, I_add, I_mul, I_div, vp_I, I_eq, I_le, I_lt, I_no, no_I, negI1, kd7, rf71, kdS, lnS, mm_sa, mm_fa, mm_ms, mm_mf, true_and, and_true, false_and, and_false, if_true, if_false, ite_true, ite_false, forall_eq, true_or, or_true, show a 3 ≤ k by omega, bI_t]
      exact h
  | succ m ih =>
    intro k any hk h
    obtain ⟨r, hr, ho, -⟩ := ordR_ex hV (i := i) (p := k) (by omega)
    unfold rmL at h
    rw [ho] at h
    dsimp only at h
    unfold T_X7_roomFor_6
    simp (disch := first | exact lt4 (hb _) | exact hb _ | omega) only [I_0, I_1, I_2, I_3, I_4, I_5, I_6, I_7, I_8, I_9, I_10, I_11, I_12, I_20, I_22, I_27, I_31, I_32, I_38, I_42, I_48, I_54, I_55, I_56, I_57, I_60, I_66, I_72, I_78, I_80, I_97, I_98, I_99, I_100, I_108, I_109, I_116, I_120, I_438, I_488, I_512, I_552, I_3864, oN_s, oN_n, bI_t, bI_f, Nat.add_zero, I_bt1, I_bt0, Nat.reduceLT, Nat.reduceLeDiff, Nat.reduceEqDiff, Nat.reduceAdd, Nat.reduceMul, Nat.reduceSub, tn_I, I_add, I_mul, I_div, vp_I, I_eq, I_le, I_lt, I_no, no_I, negI1, kd7, rf71, kdS, lnS, mm_sa, mm_fa, mm_ms, mm_mf, true_and, and_true, false_and, and_false, if_true, if_false, ite_true, ite_false, forall_eq, true_or, or_true, show ¬ a 3 ≤ k by omega]
    refine m_ordR hb h3 hi (by omega) ?_
    rw [ho]
    show T_X7_isPossible _ _ (I r) _ _ _ _ _
    refine m_poss hV (by omega) hi hn hd ht ?_
    by_cases c1 : poss a r i n d t = true
    · rw [if_pos c1] at h
      rw [c1, bI_t]
      simp (disch := first | exact lt4 (hb _) | exact hb _ | omega) only [I_0, I_1, I_2, I_3, I_4, I_5, I_6, I_7, I_8, I_9, I_10, I_11, I_12, I_20, I_22, I_27, I_31, I_32, I_38, I_42, I_48, I_54, I_55, I_56, I_57, I_60, I_66, I_72, I_78, I_80, I_97, I_98, I_99, I_100, I_108, I_109, I_116, I_120, I_438, I_488, I_512, I_552, I_3864, oN_s, oN_n, bI_t, bI_f, Nat.add_zero, I_bt1, I_bt0, Nat.reduceLT, Nat.reduceLeDiff, Nat.reduceEqDiff, Nat.reduceAdd, Nat.reduceMul, Nat.reduceSub, tn_I, I_add, I_mul, I_div, vp_I, I_eq, I_le, I_lt, I_no, no_I, negI1, kd7, rf71, kdS, lnS, mm_sa, mm_fa, mm_ms, mm_mf, true_and, and_true, false_and, and_false, if_true, if_false, ite_true, ite_false, forall_eq, true_or, or_true, show 66 + r < 552 by omega]
      unfold T_X7_roomFor_68
      by_cases c2 : a (66 + r) = 1
      · rw [if_pos c2]
        rw [if_pos (Or.inl c2)] at h
        exact h
      · rw [if_neg c2]
        refine m_left hV hd ht ?_
        simp only [J_lt (lft_bd hV d t).1 (lft_bd hV d t).2 (show n < 2147483648 by omega)]
        by_cases c3 : (n : Int) ≤ lft a d t
        · rw [if_pos (Or.inr c3)] at h
          rw [if_neg (by omega)]
          exact h
        · rw [if_neg (by rintro (q | q); exact c2 q; exact c3 q)] at h
          rw [if_pos (by omega)]
          unfold T_X7_roomFor_71
          simp (disch := first | exact lt4 (hb _) | exact hb _ | omega) only [I_0, I_1, I_2, I_3, I_4, I_5, I_6, I_7, I_8, I_9, I_10, I_11, I_12, I_20, I_22, I_27, I_31, I_32, I_38, I_42, I_48, I_54, I_55, I_56, I_57, I_60, I_66, I_72, I_78, I_80, I_97, I_98, I_99, I_100, I_108, I_109, I_116, I_120, I_438, I_488, I_512, I_552, I_3864, oN_s, oN_n, bI_t, bI_f, Nat.add_zero, I_bt1, I_bt0, Nat.reduceLT, Nat.reduceLeDiff, Nat.reduceEqDiff, Nat.reduceAdd, Nat.reduceMul, Nat.reduceSub, tn_I, I_add, I_mul, I_div, vp_I, I_eq, I_le, I_lt, I_no, no_I, negI1, kd7, rf71, kdS, lnS, mm_sa, mm_fa, mm_ms, mm_mf, true_and, and_true, false_and, and_false, if_true, if_false, ite_true, ite_false, forall_eq, true_or, or_true]
          exact ih (k + 1) true (by omega) h
    · rw [if_neg c1] at h
      rw [show poss a r i n d t = false by simpa using c1, bI_f]
      simp (disch := first | exact lt4 (hb _) | exact hb _ | omega) only [I_0, I_1, I_2, I_3, I_4, I_5, I_6, I_7, I_8, I_9, I_10, I_11, I_12, I_20, I_22, I_27, I_31, I_32, I_38, I_42, I_48, I_54, I_55, I_56, I_57, I_60, I_66, I_72, I_78, I_80, I_97, I_98, I_99, I_100, I_108, I_109, I_116, I_120, I_438, I_488, I_512, I_552, I_3864, oN_s, oN_n, bI_t, bI_f, Nat.add_zero, I_bt1, I_bt0, Nat.reduceLT, Nat.reduceLeDiff, Nat.reduceEqDiff, Nat.reduceAdd, Nat.reduceMul, Nat.reduceSub, tn_I, I_add, I_mul, I_div, vp_I, I_eq, I_le, I_lt, I_no, no_I, negI1, kd7, rf71, kdS, lnS, mm_sa, mm_fa, mm_ms, mm_mf, true_and, and_true, false_and, and_false, if_true, if_false, ite_true, ite_false, forall_eq, true_or, or_true]
      unfold T_X7_roomFor_71
      simp (disch := first | exact lt4 (hb _) | exact hb _ | omega) only [I_0, I_1, I_2, I_3, I_4, I_5, I_6, I_7, I_8, I_9, I_10, I_11, I_12, I_20, I_22, I_27, I_31, I_32, I_38, I_42, I_48, I_54, I_55, I_56, I_57, I_60, I_66, I_72, I_78, I_80, I_97, I_98, I_99, I_100, I_108, I_109, I_116, I_120, I_438, I_488, I_512, I_552, I_3864, oN_s, oN_n, bI_t, bI_f, Nat.add_zero, I_bt1, I_bt0, Nat.reduceLT, Nat.reduceLeDiff, Nat.reduceEqDiff, Nat.reduceAdd, Nat.reduceMul, Nat.reduceSub, tn_I, I_add, I_mul, I_div, vp_I, I_eq, I_le, I_lt, I_no, no_I, negI1, kd7, rf71, kdS, lnS, mm_sa, mm_fa, mm_ms, mm_mf, true_and, and_true, false_and, and_false, if_true, if_false, ite_true, ite_false, forall_eq, true_or, or_true]
      exact ih (k + 1) any (by omega) h
theorem m_rmF (hV : VA a) {i n d t : Nat} (hi : i < 100) (hn : n < 100) (hd : d < 4096) (ht : t < 4096) (h : Q (rmF a i n d t) (mm M a f)) : T_X7_roomFor Q 1582 (I i) (I n) (I d) (I t) (mm M a f) := by
  unfold T_X7_roomFor
  rw [I_0]
  exact ⟨a 3 + 1, l_rm hV hi hn hd ht (a 3) 0 false (by omega) h⟩
end Md6

