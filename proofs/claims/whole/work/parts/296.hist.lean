/-! ===== THE REFERENCE: undo, save, restore ===== -/
section Hi2
variable {M : Mem} {a : Nat → Nat} {f : Nat → Int32}
def ctn (n : Nat) (h a : Nat → Nat) (j : Nat) : Nat := if j < n then h j else a j
theorem ctn_0 {h : Nat → Nat} : ctn 0 h a = a := funext fun j => if_neg (Nat.not_lt_zero j)
theorem ctn_s {n : Nat} {h : Nat → Nat} : updN (ctn n h a) n (h n) = ctn (n + 1) h a := by
  funext j
  unfold ctn
  by_cases c : j = n
  · subst c; rw [updN_s, if_pos (by omega)]
  · rw [updN_n c]
    by_cases c2 : j < n
    · rw [if_pos c2, if_pos (by omega)]
    · rw [if_neg c2, if_neg (by omega)]
theorem ctn_lt {n k : Nat} {h : Nat → Nat} (hk : k < n) : ctn n h a k = h k := if_pos hk
theorem GS_cut {h : Nat → Nat} (hG : GS h) (hA : GS a) : GS (ctn 552 h a) := by
  refine GS_lo hG (fun k => ?_) ?_ (fun k hk _ => ctn_lt (by omega))
  · unfold ctn
    split
    · exact hG.1.1 k
    · exact hA.1.1 k
  · rw [ctn_lt (by decide)]
    exact hG.1.2.1.2.2.2.2.2.2.2.1
theorem St_cg {b : Nat} {h h' : Nat → Nat} (hS : St b h M) (hV : VA h) (e : ∀ k, k < 552 → h' k = h k) : St b h' M :=
  hS.up_d hV (fun _ _ _ _ => rfl) (fun k hk _ => e k hk) (by rw [e 0 (by decide)]; exact hS.1)
theorem Cz_cg {h h' : Nat → Nat} (hC : Cz h M) (hV : VA h) (e : ∀ k, k < 552 → h' k = h k) : Cz h' M := ⟨St_cg hC.1 hV e, hC.2⟩
theorem m_undo {Q : Int32 → Mem → Prop} {kp : Nat} {h : Nat → Nat → Nat} (hH : HR kp h M f)
    (h1 : kp = 0 → ∀ f' : Nat → Int32, f' 0 = I 1 → (∀ j, j ≠ 0 → f' j = f j) → Q (I 0) (mm M a f'))
    (h0 : kp ≠ 0 → ∀ f' : Nat → Int32, f' 0 = I 0 → f' 5 = I (kp - 1) → (∀ j, j ≠ 0 → j ≠ 5 → f' j = f j) → Q (I (kp - 1)) (mm M (ctn 552 (h (kp - 1)) a) f')) : T_X7_undo Q 1582 (mm M a f) := by
  obtain ⟨hk, h5, hh⟩ := hH
  unfold T_X7_undo
  refine ⟨by decide, ?_⟩
  rintro M2 rfl
  rw [I_0, mm_mf, mm_fa, updI_n (by decide), h5]
  by_cases c : kp = 0
  · subst c
    rw [if_pos rfl, I_1, m_fails]
    exact h1 rfl _ updI_s (fun j hj => by rw [updI_n hj, updI_n hj])
  · rw [if_neg (by rw [I_eq (by omega) (by decide)]; exact c)]
    rintro M3 rfl
    rw [I_1, I_sub (by omega), mm_mf]
    have key : ∀ m k, k + m = 552 → T_X7_undo_30 Q (m + 1) 1582 (I k) (mm M (ctn k (h (kp - 1)) a) (updI (updI f 0 (I 0)) 5 (I (kp - 1)))) := by
      intro m
      induction m with
      | zero =>
        intro k hk
        obtain rfl : k = 552 := by omega
        unfold T_X7_undo_30
        rw [I_552, if_pos (by rw [I_le (by decide) (by decide)]; omega), mm_fa, updI_s]
        exact ⟨by decide, h0 c _ (by rw [updI_n (by decide), updI_s]) updI_s (fun j j0 j5 => by rw [updI_n j5, updI_n j0])⟩
      | succ m ih =>
        intro k hk
        have e1 := hh (kp - 1) (by omega) k (by omega)
        unfold T_X7_undo_30
        simp (disch := omega) only [I_1, I_552, rf74, kd74, ln74, rf71, kdS, lnS, mm_fa, updI_s, I_mul, I_add, I_le, show ¬ 552 ≤ k by omega, if_false, vp_I, tn_I, show k < 552 by omega, show 552 * (kp - 1) + k < 4416 by omega, o_1586, e1, mm_ms, kd7, true_and, forall_eq, ctn_s]
        exact ih (k + 1) (by omega)
    have := key 552 0 rfl
    rw [ctn_0] at this
    exact ⟨_, this⟩
theorem m_save {Q : Int32 → Mem → Prop} (hV : VA a)
    (h : ∀ M' f', Ro 1584 M M' → (∀ k, k < 552 → M'.1 1584 k = I (a k)) → f' 0 = I 0 → f' 6 = I 1 → (∀ j, j ≠ 0 → j ≠ 6 → f' j = f j) → Q (I (inS a 0)) (mm M' a f')) : T_X7_save Q 1582 (mm M a f) := by
  have hb := hV.1
  unfold T_X7_save
  refine ⟨by decide, ?_⟩
  rintro M2 rfl
  rw [I_0, mm_mf]
  have key : ∀ m k M1, k + m = 552 → Ro 1584 M M1 → (∀ j, j < k → M1.1 1584 j = I (a j)) → T_X7_save_7 Q (m + 1) 1582 (I k) (mm M1 a (updI f 0 (I 0))) := by
    intro m
    induction m with
    | zero =>
      intro k M1 hk hR hv
      obtain rfl : k = 552 := by omega
      unfold T_X7_save_7
      rw [I_552, if_pos (by rw [I_le (by decide) (by decide)]; omega)]
      refine ⟨by decide, by decide, ?_⟩
      rintro M3 rfl
      rw [I_1, I_0, mm_mf]
      exact m_inS (x := 0) hV (by decide) (h M1 _ hR hv (by rw [updI_n (by decide), updI_s]) updI_s (fun j j0 j6 => by rw [updI_n j6, updI_n j0]))
    | succ m ih =>
      intro k M1 hk hR hv
      unfold T_X7_save_7
      simp (disch := first | exact lt4 (hb _) | exact hb _ | omega) only [I_0, I_1, I_2, I_3, I_4, I_5, I_6, I_7, I_8, I_9, I_10, I_11, I_12, I_20, I_22, I_27, I_31, I_32, I_38, I_42, I_48, I_54, I_55, I_56, I_57, I_60, I_66, I_72, I_78, I_80, I_97, I_98, I_99, I_100, I_108, I_109, I_116, I_120, I_438, I_488, I_512, I_552, I_3864, oN_s, oN_n, bI_t, bI_f, Nat.add_zero, I_bt1, I_bt0, Nat.reduceLT, Nat.reduceLeDiff, Nat.reduceEqDiff, Nat.reduceAdd, Nat.reduceMul, Nat.reduceSub, tn_I, I_add, I_mul, I_div, vp_I, I_eq, I_le, I_lt, I_no, no_I, negI1, kd7, rf71, kdS, lnS, mm_sa, mm_fa, mm_ms, mm_mf, true_and, and_true, false_and, and_false, if_true, if_false, ite_true, ite_false, forall_eq, true_or, or_true, show ¬ 552 ≤ k by omega, rf72, kd72, ln72, show k < 552 by omega, ms_1584]
      refine ih (k + 1) _ (by omega) hR.set (fun j hj => ?_)
      rw [mset_v]
      by_cases c : j = k
      · subst c; rw [if_pos rfl]
      · rw [if_neg c]; exact hv j (by omega)
  exact ⟨_, key 552 0 M rfl Ro.rfl (fun j hj => by omega)⟩
theorem m_restore {Q : Int32 → Mem → Prop} {s : Nat → Nat} (hG : GS a) (hf : f 6 = I 0 ∨ (f 6 = I 1 ∧ GS s ∧ ∀ k, k < 552 → M.1 1584 k = I (s k)))
    (h1 : f 6 = I 0 → ∀ f' : Nat → Int32, f' 0 = I 1 → (∀ j, j ≠ 0 → f' j = f j) → Q (I 0) (mm M a f'))
    (h0 : f 6 = I 1 → ∀ f' : Nat → Int32, f' 0 = I 0 → f' 5 = I 0 → (∀ j, j ≠ 0 → j ≠ 5 → f' j = f j) → Q (I (inS (ctn 552 s a) 0)) (mm M (ctn 552 s a) f')) : T_X7_restore Q 1582 (mm M a f) := by
  unfold T_X7_restore
  refine ⟨by decide, ?_⟩
  rintro M2 rfl
  rw [I_0, mm_mf, mm_fa, updI_n (by decide)]
  rcases hf with h6 | ⟨h6, hs, hv⟩
  · rw [h6, if_pos rfl, I_1, m_fails]
    exact h1 h6 _ updI_s (fun j hj => by rw [updI_n hj, updI_n hj])
  · rw [h6, if_neg (by decide)]
    have hV' := (GS_cut hs hG).1
    have key : ∀ m k, k + m = 552 → T_X7_restore_20 Q (m + 1) 1582 (I k) (mm M (ctn k s a) (updI f 0 (I 0))) := by
      intro m
      induction m with
      | zero =>
        intro k hk
        obtain rfl : k = 552 := by omega
        unfold T_X7_restore_20
        rw [I_552, if_pos (by rw [I_le (by decide) (by decide)]; omega)]
        refine ⟨by decide, ?_⟩
        rintro M3 rfl
        rw [I_0, mm_mf]
        exact m_inS (x := 0) hV' (by decide) (h0 h6 _ (by rw [updI_n (by decide), updI_s]) updI_s (fun j j0 j5 => by rw [updI_n j5, updI_n j0]))
      | succ m ih =>
        intro k hk
        have e1 := hv k (by omega)
        unfold T_X7_restore_20
        simp (disch := omega) only [I_1, I_552, rf72, kd72, ln72, rf71, kdS, lnS, I_add, I_le, show ¬ 552 ≤ k by omega, if_false, vp_I, tn_I, show k < 552 by omega, o_1584, e1, mm_ms, kd7, true_and, forall_eq, ctn_s]
        exact ih (k + 1) (by omega)
    have := key 552 0 rfl
    rw [ctn_0] at this
    exact ⟨_, this⟩
end Hi2

