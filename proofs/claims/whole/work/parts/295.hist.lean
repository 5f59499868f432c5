/-! ===== THE REFERENCE's history ===== -/
section Hi1
variable {M : Mem} {a : Nat → Nat} {f : Nat → Int32}
theorem mm_mo {i k : Nat} {v : Int32} (h1 : i ≠ 1582) (h2 : i ≠ 1583) : mset (mm M a f) i k v = mm (mset M i k v) a f := by
  refine mem_ext (fun j => ?_) rfl
  by_cases q : j = 1583
  · subst q; rw [mset_ne (Ne.symm h2)]; rfl
  · by_cases q2 : j = 1582
    · subst q2; rw [mset_ne (Ne.symm h1)]; rfl
    · rw [mm_o q2 q]
      by_cases q3 : j = i
      · subst q3
        rw [mset_at, mset_at, mm_o q2 q]
      · rw [mset_ne q3, mset_ne q3, mm_o q2 q]
theorem rf72 : rf 1582 2 = 1584 := by decide
theorem rf73 : rf 1582 3 = 1585 := by decide
theorem rf74 : rf 1582 4 = 1586 := by decide
theorem rf77 : rf 1582 7 = 1587 := by decide
theorem rf79 : rf 1582 9 = 1588 := by decide
theorem rf7a : rf 1582 10 = 1589 := by decide
theorem rf7w : rf 1582 20 = 1590 := by decide
theorem rf7n : rf 1582 21 = 1591 := by decide
theorem kd72 : (kd 1584 = 9) = True := by decide
theorem kd73 : (kd 1585 = 9) = True := by decide
theorem kd74 : (kd 1586 = 9) = True := by decide
theorem kd77 : (kd 1587 = 9) = True := by decide
theorem kd79 : (kd 1588 = 9) = True := by decide
theorem kd7a : (kd 1589 = 9) = True := by decide
theorem kd7w : (kd 1590 = 9) = True := by decide
theorem kd7n : (kd 1591 = 9) = True := by decide
theorem ln72 : ln 1584 = 552 := by decide
theorem ln73 : ln 1585 = 552 := by decide
theorem ln74 : ln 1586 = 4416 := by decide
theorem ln77 : ln 1587 = 80 := by decide
theorem ln79 : ln 1588 = 3 := by decide
theorem ln7a : ln 1589 = 3 := by decide
theorem ln7w : ln 1590 = 42 := by decide
theorem ln7n : ln 1591 = 168 := by decide
theorem o_1584 : (mm M a f).1 1584 = M.1 1584 := mm_o (by decide) (by decide)
theorem o_1585 : (mm M a f).1 1585 = M.1 1585 := mm_o (by decide) (by decide)
theorem o_1586 : (mm M a f).1 1586 = M.1 1586 := mm_o (by decide) (by decide)
theorem o_1587 : (mm M a f).1 1587 = M.1 1587 := mm_o (by decide) (by decide)
theorem o_1588 : (mm M a f).1 1588 = M.1 1588 := mm_o (by decide) (by decide)
theorem o_1589 : (mm M a f).1 1589 = M.1 1589 := mm_o (by decide) (by decide)
theorem o_1590 : (mm M a f).1 1590 = M.1 1590 := mm_o (by decide) (by decide)
theorem o_1591 : (mm M a f).1 1591 = M.1 1591 := mm_o (by decide) (by decide)
theorem ms_1584 {k : Nat} {v : Int32} : mset (mm M a f) 1584 k v = mm (mset M 1584 k v) a f := mm_mo (by decide) (by decide)
theorem ms_1585 {k : Nat} {v : Int32} : mset (mm M a f) 1585 k v = mm (mset M 1585 k v) a f := mm_mo (by decide) (by decide)
theorem ms_1586 {k : Nat} {v : Int32} : mset (mm M a f) 1586 k v = mm (mset M 1586 k v) a f := mm_mo (by decide) (by decide)
theorem ms_1587 {k : Nat} {v : Int32} : mset (mm M a f) 1587 k v = mm (mset M 1587 k v) a f := mm_mo (by decide) (by decide)
theorem ms_1588 {k : Nat} {v : Int32} : mset (mm M a f) 1588 k v = mm (mset M 1588 k v) a f := mm_mo (by decide) (by decide)
theorem ms_1589 {k : Nat} {v : Int32} : mset (mm M a f) 1589 k v = mm (mset M 1589 k v) a f := mm_mo (by decide) (by decide)
theorem ms_1590 {k : Nat} {v : Int32} : mset (mm M a f) 1590 k v = mm (mset M 1590 k v) a f := mm_mo (by decide) (by decide)
theorem ms_1591 {k : Nat} {v : Int32} : mset (mm M a f) 1591 k v = mm (mset M 1591 k v) a f := mm_mo (by decide) (by decide)
/-- only the row at i changes -/
def Ro (i : Nat) (M M' : Mem) : Prop := M'.2 = M.2 ∧ ∀ j, j ≠ i → M'.1 j = M.1 j
theorem Ro.rfl {i : Nat} {M : Mem} : Ro i M M := ⟨by trivial, fun _ _ => by trivial⟩
theorem Ro.set {i k : Nat} {v : Int32} {M M' : Mem} (h : Ro i M M') : Ro i M (mset M' i k v) := ⟨h.1, fun j hj => (mset_ne hj).trans (h.2 j hj)⟩
theorem m_rem_l {Q : Mem → Prop} (hb : ∀ k, a k < 4096) (h : ∀ M', Ro 1585 M M' → (∀ k, k < 552 → M'.1 1585 k = I (a k)) → Q (mm M' a f)) :
    ∀ m k M1, k + m = 552 → Ro 1585 M M1 → (∀ j, j < k → M1.1 1585 j = I (a j)) → T_X7_remembers_2 Q (m + 1) 1582 (I k) (mm M1 a f) := by
  intro m
  induction m with
  | zero =>
    intro k M1 hk hR hv
    obtain rfl : k = 552 := by omega
    unfold T_X7_remembers_2
    simp (disch := first | exact lt4 (hb _) | exact hb _ | omega) only [I_0, I_1, I_2, I_3, I_4, I_5, I_6, I_7, I_8, I_9, I_10, I_11, I_12, I_20, I_22, I_27, I_31, I_32, I_38, I_42, I_48, I_54, I_55, I_56, I_57, I_60, I_66, I_72, I_78, I_80, I_97, I_98, I_99, I_100, I_108, I_109, I_116, I_120, I_438, I_488, I_512, I_552, I_3864, oN_s, oN_n, bI_t, bI_f, Nat.add_zero, I_bt1, I_bt0, Nat.reduceLT, Nat.reduceLeDiff, Nat.reduceEqDiff, Nat.reduceAdd, Nat.reduceMul, Nat.reduceSub, tn_I, I_add, I_mul, I_div, vp_I, I_eq, I_le, I_lt, I_no, no_I, negI1, kd7, rf71, kdS, lnS, mm_sa, mm_fa, mm_ms, mm_mf, true_and, and_true, false_and, and_false, if_true, if_false, ite_true, ite_false, forall_eq, true_or, or_true, show (552 : Nat) ≤ 552 from Nat.le_refl _]
    exact h M1 hR hv
  | succ m ih =>
    intro k M1 hk hR hv
    unfold T_X7_remembers_2
    simp (disch := first | exact lt4 (hb _) | exact hb _ | omega) only [I_0, I_1, I_2, I_3, I_4, I_5, I_6, I_7, I_8, I_9, I_10, I_11, I_12, I_20, I_22, I_27, I_31, I_32, I_38, I_42, I_48, I_54, I_55, I_56, I_57, I_60, I_66, I_72, I_78, I_80, I_97, I_98, I_99, I_100, I_108, I_109, I_116, I_120, I_438, I_488, I_512, I_552, I_3864, oN_s, oN_n, bI_t, bI_f, Nat.add_zero, I_bt1, I_bt0, Nat.reduceLT, Nat.reduceLeDiff, Nat.reduceEqDiff, Nat.reduceAdd, Nat.reduceMul, Nat.reduceSub, tn_I, I_add, I_mul, I_div, vp_I, I_eq, I_le, I_lt, I_no, no_I, negI1, kd7, rf71, kdS, lnS, mm_sa, mm_fa, mm_ms, mm_mf, true_and, and_true, false_and, and_false, if_true, if_false, ite_true, ite_false, forall_eq, true_or, or_true, show ¬ 552 ≤ k by omega, rf73, kd73, ln73, show k < 552 by omega, ms_1585]
    refine ih (k + 1) _ (by omega) hR.set (fun j hj => ?_)
    rw [mset_v]
    by_cases c : j = k
    · subst c; rw [if_pos rfl]
    · rw [if_neg c]; exact hv j (by omega)
theorem m_rem {Q : Mem → Prop} (hb : ∀ k, a k < 4096) (h : ∀ M', Ro 1585 M M' → (∀ k, k < 552 → M'.1 1585 k = I (a k)) → Q (mm M' a f)) : T_X7_remembers Q 1582 (mm M a f) := by
  unfold T_X7_remembers
  rw [I_0]
  exact ⟨_, m_rem_l hb h 552 0 M rfl Ro.rfl (fun j hj => by omega)⟩
def pkn (kp : Nat) : Nat := if kp = 8 then 8 else kp + 1
def phh (kp : Nat) (h : Nat → Nat → Nat) (a : Nat → Nat) (j : Nat) : Nat → Nat := if kp = 8 then (if j = 7 then a else h (j + 1)) else if j = kp then a else h j
/-- the reference's history holds h -/
def HR (kp : Nat) (h : Nat → Nat → Nat) (M : Mem) (f : Nat → Int32) : Prop := kp ≤ 8 ∧ f 5 = I kp ∧ ∀ j, j < kp → ∀ k, k < 552 → M.1 1586 (552 * j + k) = I (h j k)
theorem m_keeps_f {Q : Mem → Prop} {n : Nat} {h0 : Nat → Nat} (hn : n < 8) (hf : f 5 = I (n + 1)) (h : ∀ M', Ro 1586 M M' → (∀ k, k < 552 → M'.1 1586 (552 * n + k) = I (h0 k)) → (∀ j, ¬ (552 * n ≤ j ∧ j < 552 * n + 552) → M'.1 1586 j = M.1 1586 j) → Q (mm M' a f)) (hF : ∀ k, k < 552 → M.1 1585 k = I (h0 k)) :
    ∀ m k M1, k + m = 552 → Ro 1586 M M1 → (∀ j, j < k → M1.1 1586 (552 * n + j) = I (h0 j)) → (∀ j, ¬ (552 * n ≤ j ∧ j < 552 * n + 552) → M1.1 1586 j = M.1 1586 j) → T_X7_keeps_55 Q (m + 1) 1582 (I k) (mm M1 a f) := by
  intro m
  induction m with
  | zero =>
    intro k M1 hk hR hv hO
    obtain rfl : k = 552 := by omega
    unfold T_X7_keeps_55
    rw [I_552, if_pos (by rw [I_le (by decide) (by decide)]; omega)]
    exact h M1 hR hv hO
  | succ m ih =>
    intro k M1 hk hR hv hO
    have e1 : M1.1 1585 k = I (h0 k) := by rw [hR.2 1585 (by decide)]; exact hF k (by omega)
    have e0 : I (n + 1) - I 1 = I n := by rw [I_sub (by omega)]; rfl
    unfold T_X7_keeps_55
    simp (disch := omega) only [I_1, I_552, rf73, rf74, kd73, kd74, ln73, ln74, mm_fa, hf, e0, I_mul, I_add, I_le, show ¬ 552 ≤ k by omega, if_false, vp_I, tn_I, show k < 552 by omega, show 552 * n + k < 4416 by omega, o_1585, e1, ms_1586, kd7, true_and, forall_eq]
    refine ih (k + 1) _ (by omega) hR.set (fun j hj => ?_) (fun j hj => ?_)
    · rw [mset_v]
      by_cases c : j = k
      · subst c; rw [if_pos rfl]
      · rw [if_neg (by omega)]; exact hv j (by omega)
    · rw [mset_v, if_neg (by omega)]; exact hO j hj
theorem m_keeps_s {Q : Mem → Prop} (h : ∀ M', Ro 1586 M M' → (∀ k, k < 3864 → M'.1 1586 k = M.1 1586 (k + 552)) → T_X7_keeps_53 Q 1582 (mm M' a f)) :
    ∀ m k M1, k + m = 3864 → Ro 1586 M M1 → (∀ j, j < k → M1.1 1586 j = M.1 1586 (j + 552)) → (∀ j, k ≤ j → M1.1 1586 j = M.1 1586 j) → T_X7_keeps_11 Q (m + 1) 1582 (I k) (mm M1 a f) := by
  intro m
  induction m with
  | zero =>
    intro k M1 hk hR hv hO
    obtain rfl : k = 3864 := by omega
    unfold T_X7_keeps_11
    rw [I_3864, if_pos (by rw [I_le (by decide) (by decide)]; omega)]
    exact h M1 hR hv
  | succ m ih =>
    intro k M1 hk hR hv hO
    unfold T_X7_keeps_11
    simp (disch := omega) only [I_1, I_552, I_3864, rf74, kd74, ln74, I_add, I_le, show ¬ 3864 ≤ k by omega, if_false, vp_I, tn_I, show k < 4416 by omega, show k + 552 < 4416 by omega, o_1586, hO (k + 552) (by omega), ms_1586, kd7, true_and, forall_eq]
    refine ih (k + 1) _ (by omega) hR.set (fun j hj => ?_) (fun j hj => ?_)
    · rw [mset_v]
      by_cases c : j = k
      · subst c; rw [if_pos rfl]
      · rw [if_neg c]; exact hv j (by omega)
    · rw [mset_v, if_neg (by omega)]; exact hO j (by omega)
theorem m_keeps {Q : Mem → Prop} {kp : Nat} {h : Nat → Nat → Nat} {h0 : Nat → Nat} (hH : HR kp h M f) (hF : ∀ k, k < 552 → M.1 1585 k = I (h0 k))
    (hq : ∀ M' f', Ro 1586 M M' → HR (pkn kp) (phh kp h h0) M' f' → (∀ j, j ≠ 5 → f' j = f j) → Q (mm M' a f')) : T_X7_keeps Q 1582 (mm M a f) := by
  obtain ⟨hk, h5, hh⟩ := hH
  unfold T_X7_keeps
  by_cases c : kp = 8
  · subst c
    rw [show (8 : Int32) = I 8 from rfl, mm_fa, h5, if_pos rfl, I_0]
    refine ⟨by decide, _, m_keeps_s (fun M1 hR1 hs => ?_) 3864 0 M rfl Ro.rfl (fun j hj => by omega) (fun j _ => rfl)⟩
    unfold T_X7_keeps_53
    rw [I_0]
    refine ⟨_, m_keeps_f (M := M1) (n := 7) (h0 := h0) (by decide) h5 (fun M2 hR2 hv hO => ?_) (fun k hk2 => by rw [hR1.2 1585 (by decide)]; exact hF k hk2) 552 0 M1 rfl Ro.rfl (fun j hj => by omega) (fun j _ => rfl)⟩
    refine hq M2 f ⟨hR2.1.trans hR1.1, fun j hj => (hR2.2 j hj).trans (hR1.2 j hj)⟩ ⟨by decide, h5, fun j hj k hk2 => ?_⟩ (fun _ _ => rfl)
    have hj8 : j < 8 := hj
    unfold phh
    rw [if_pos rfl]
    by_cases c7 : j = 7
    · subst c7; rw [if_pos rfl]; exact hv k hk2
    · rw [if_neg c7, hO _ (by omega), hs _ (by omega), show 552 * j + k + 552 = 552 * (j + 1) + k by omega]
      exact hh (j + 1) (by omega) k hk2
  · rw [show (8 : Int32) = I 8 from rfl, mm_fa, h5, if_neg (by rw [I_eq (by omega) (by decide)]; exact c)]
    refine ⟨by decide, ?_⟩
    rintro M2 rfl
    rw [I_1, I_add, mm_mf]
    unfold T_X7_keeps_53
    rw [I_0]
    refine ⟨_, m_keeps_f (M := M) (n := kp) (h0 := h0) (by omega) updI_s (fun M2 hR2 hv hO => ?_) hF 552 0 M rfl Ro.rfl (fun j hj => by omega) (fun j _ => rfl)⟩
    refine hq M2 _ hR2 ⟨?_, ?_, fun j hj k hk2 => ?_⟩ (fun j hj => updI_n hj)
    · unfold pkn; rw [if_neg c]; omega
    · unfold pkn; rw [if_neg c, updI_s]
    · unfold pkn at hj
      rw [if_neg c] at hj
      unfold phh
      rw [if_neg c]
      by_cases cj : j = kp
      · subst cj; rw [if_pos rfl]; exact hv k hk2
      · rw [if_neg cj, hO _ (by omega)]
        exact hh j (by omega) k hk2
end Hi1

