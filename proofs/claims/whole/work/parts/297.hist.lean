/-! ===== THE CLASS's history ===== -/
section Hi3
variable {M : Mem} {a : Nat → Nat} {f : Nat → Int32}
/-- the class's history holds h -/
def HC (kp sp : Nat) (h : Nat → Nat → Nat) (M : Mem) : Prop := kp ≤ 8 ∧ sp < 9 ∧ M.1 281 2 = I kp ∧ M.1 281 1 = I sp ∧ (∀ p, p < 9 → Wd (283 + 140 * p) M) ∧ ∀ j, j < kp → St (283 + 140 * ((sp + 9 - kp + j) % 9)) (h j) M
/-- only the history changes -/
def Ho (M M' : Mem) : Prop := M'.2 = M.2 ∧ ∀ i, i ≠ 281 → ¬ (283 ≤ i ∧ i < 1543) → M'.1 i = M.1 i
theorem rf282 (k : Nat) : rf 282 k = 283 + 140 * k := by
  have h4 : kd 282 = 10 := by decide
  unfold rf
  rw [h4]
  simp
theorem kd283 {k : Nat} (h : k < 9) : kd (283 + 140 * k) = 3 := SB_3 (Or.inr (Or.inr ⟨k, h, rfl⟩))
theorem mod9 (n : Nat) : n - n / 9 * 9 = n % 9 := by omega
theorem k_draft {Q : Mem → Prop} {kp sp : Nat} {h : Nat → Nat → Nat} (hV : VA a) (hS : St 1 a M) (hH : HC kp sp h M) (hh : ∀ j, j < kp → VA (h j))
    (hq : ∀ M', Ho M M' → M'.1 281 = M.1 281 → HC kp sp h M' → St (283 + 140 * sp) a M' → Q M') : T_X1_draft Q 281 1 M := by
  obtain ⟨h1, h2, h3, h4, h5, h6⟩ := hH
  unfold T_X1_draft
  rw [rn_281_0, h4, vp_I (by omega), tn_I (by omega), rf282, lnn_282]
  refine ⟨kn_281, Or.inl kn_282, h2, kd283 h2, ?_⟩
  refine X3_copy (Or.inr (Or.inr ⟨sp, h2, rfl⟩)) (Or.inl rfl) (Or.inr (by omega)) hV hS (h5 sp h2) (fun M' q1 q2 q3 q4 => ?_)
  refine hq M' ⟨q2, fun i i1 i2 => q1 i (by omega)⟩ (q1 281 (by omega)) ⟨h1, h2, by rw [q1 281 (by omega)]; exact h3, by rw [q1 281 (by omega)]; exact h4, fun p hp => ?_, fun j hj => ?_⟩ q3
  · by_cases c : p = sp
    · subst c; exact q4
    · exact (h5 p hp).fr (fun i i1 i2 => by rw [q1 i (by omega)])
  · exact (h6 j hj).fr (fun i i1 i2 => q1 i (by omega)) (hh j hj)
theorem k_keepD {Q : Mem → Prop} {kp sp : Nat} {h : Nat → Nat → Nat} {h0 : Nat → Nat} (hH : HC kp sp h M) (hh : ∀ j, j < kp → VA (h j)) (hS : St (283 + 140 * sp) h0 M) (hV : VA h0)
    (hq : ∀ M', Ho M M' → HC (pkn kp) ((sp + 1) % 9) (phh kp h h0) M' → Q M') : T_X1_keepDraft Q 281 M := by
  obtain ⟨h1, h2, h3, h4, h5, h6⟩ := hH
  unfold T_X1_keepDraft T_X1_keepDraft_32
  refine ⟨kn_281, ?_⟩
  rintro M2 rfl
  have es : I sp + 1 - (I sp + 1) / 9 * 9 = I ((sp + 1) % 9) := by
    rw [I_1, I_9, I_add, I_div (by omega) (by decide), I_mul, I_sub (by omega), mod9]
  have e2 : (mset M 281 1 (I ((sp + 1) % 9))).1 281 2 = I kp := by rw [mset_v, if_neg (by decide), h3]
  rw [h4, es, e2, I_8]
  have ho : ∀ (k : Nat) (v : Int32), Ho M (mset (mset M 281 1 (I ((sp + 1) % 9))) 281 k v) := fun k v => ⟨rfl, fun i i1 i2 => by rw [mset_ne i1, mset_ne i1]⟩
  have ho1 : Ho M (mset M 281 1 (I ((sp + 1) % 9))) := ⟨rfl, fun i i1 i2 => by rw [mset_ne i1]⟩
  by_cases c : kp = 8
  · subst c
    rw [if_pos (by rw [I_le (by decide) (by decide)]; omega)]
    refine hq _ ho1 ⟨by decide, by omega, by rw [mset_v, if_neg (by decide), h3]; rfl, by rw [mset_v, if_pos rfl], fun p hp => (h5 p hp).fr (fun i i1 i2 => by rw [mset_ne (by omega)]), fun j hj => ?_⟩
    have hj8 : j < 8 := hj
    unfold pkn phh
    rw [if_pos rfl, if_pos rfl]
    by_cases c7 : j = 7
    · subst c7
      rw [if_pos rfl, show ((sp + 1) % 9 + 9 - 8 + 7) % 9 = sp by omega]
      exact hS.fr (fun i i1 i2 => mset_ne (by omega)) hV
    · rw [if_neg c7, show ((sp + 1) % 9 + 9 - 8 + j) % 9 = (sp + 9 - 8 + (j + 1)) % 9 by omega]
      exact (h6 (j + 1) (by omega)).fr (fun i i1 i2 => mset_ne (by omega)) (hh (j + 1) (by omega))
  · rw [if_neg (by rw [I_le (by decide) (by omega)]; omega), I_1, I_add]
    rintro M3 rfl
    have ep : pkn kp = kp + 1 := if_neg c
    rw [ep] at hq
    refine hq _ (ho 2 _) ⟨by omega, by omega, by rw [mset_v, if_pos rfl], by rw [mset_v, if_neg (by decide), mset_v, if_pos rfl], fun p hp => (h5 p hp).fr (fun i i1 i2 => by rw [mset_ne (by omega), mset_ne (by omega)]), fun j hj => ?_⟩
    unfold phh
    rw [if_neg c]
    by_cases cj : j = kp
    · subst cj
      rw [if_pos rfl, show ((sp + 1) % 9 + 9 - (j + 1) + j) % 9 = sp by omega]
      exact hS.fr (fun i i1 i2 => by rw [mset_ne (by omega), mset_ne (by omega)]) hV
    · rw [if_neg cj, show ((sp + 1) % 9 + 9 - (kp + 1) + j) % 9 = (sp + 9 - kp + j) % 9 by omega]
      exact (h6 j (by omega)).fr (fun i i1 i2 => by rw [mset_ne (by omega), mset_ne (by omega)]) (hh j (by omega))
theorem Ho.rfl {M : Mem} : Ho M M := ⟨by trivial, fun _ _ _ => by trivial⟩
theorem Ho.trans {M M' M'' : Mem} (h : Ho M M') (h2 : Ho M' M'') : Ho M M'' := ⟨h2.1.trans h.1, fun i q1 q2 => (h2.2 i q1 q2).trans (h.2 i q1 q2)⟩
theorem k_keep {Q : Mem → Prop} {kp sp : Nat} {h : Nat → Nat → Nat} (hV : VA a) (hS : St 1 a M) (hH : HC kp sp h M) (hh : ∀ j, j < kp → VA (h j))
    (hq : ∀ M', Ho M M' → HC (pkn kp) ((sp + 1) % 9) (phh kp h a) M' → Q M') : T_X1_keep Q 281 1 M := by
  unfold T_X1_keep
  refine ⟨kn_281, k_draft hV hS hH hh (fun M1 a1 a2 a3 a4 => ?_)⟩
  exact k_keepD a3 hh a4 hV (fun M2 b1 b2 => hq M2 (a1.trans b1) b2)
theorem Ho.cz {M' : Mem} (h : Ho M M') (hC : Cz a M) (hV : VA a) : Cz a M' := hC.fr hV (fun i i1 i2 => h.2 i (by omega) (by omega))
/-- the class returns to what it put down -/
theorem k_return {Q : Mem → Prop} {kp sp : Nat} {h : Nat → Nat → Nat} {h0 : Nat → Nat} (hW : Wd 1 M) (hH : HC kp sp h M) (hh : ∀ j, j < kp → VA (h j)) (hS : St (283 + 140 * sp) h0 M) (hV : VA h0)
    (hq : ∀ M', (M'.2 = M.2 ∧ ∀ i, ¬ (1 ≤ i ∧ i < 141) → M'.1 i = M.1 i) → Cz h0 M' → Q M') : T_X1_returnToDraft Q 281 1 M := by
  obtain ⟨h1, h2, h3, h4, h5, h6⟩ := hH
  unfold T_X1_returnToDraft
  rw [rn_281_0, h4, vp_I (by omega), tn_I (by omega), rf282, lnn_282]
  refine ⟨kn_281, Or.inl kn_282, h2, kn_1, ?_⟩
  refine X3_copy (Or.inl rfl) (Or.inr (Or.inr ⟨sp, h2, rfl⟩)) (Or.inl (by omega)) hV hS hW (fun M' q1 q2 q3 q4 => ?_)
  exact hq M' ⟨q2, fun i hi => q1 i (by omega)⟩ ⟨q3, q4⟩
theorem HC.fr {kp sp : Nat} {h : Nat → Nat → Nat} {M' : Mem} (hH : HC kp sp h M) (hh : ∀ j, j < kp → VA (h j)) (e : ∀ i, 281 ≤ i → i < 1543 → M'.1 i = M.1 i) : HC kp sp h M' := by
  obtain ⟨h1, h2, h3, h4, h5, h6⟩ := hH
  refine ⟨h1, h2, by rw [e 281 (by omega) (by omega)]; exact h3, by rw [e 281 (by omega) (by omega)]; exact h4, fun p hp => (h5 p hp).fr (fun i i1 i2 => by rw [e i (by omega) (by omega)]), fun j hj => (h6 j hj).fr (fun i i1 i2 => e i (by omega) (by omega)) (hh j hj)⟩
theorem k_takeBack {Q : Mem → Prop} {kp sp : Nat} {h : Nat → Nat → Nat} (hW : Wd 1 M) (hH : HC kp sp h M) (hh : ∀ j, j < kp → VA (h j)) (hk : kp ≠ 0)
    (hq : ∀ M', (M'.2 = M.2 ∧ ∀ i, ¬ (1 ≤ i ∧ i < 141) → i ≠ 281 → M'.1 i = M.1 i) → Cz (h (kp - 1)) M' → HC (kp - 1) ((sp + 8) % 9) h M' → Q M') : T_X1_takeBack Q 281 1 M := by
  have hH' := hH
  obtain ⟨h1, h2, h3, h4, h5, h6⟩ := hH
  unfold T_X1_takeBack T_X1_takeBack_38
  rw [h3, I_0, if_neg (by rw [I_le (by omega) (by decide)]; omega)]
  refine ⟨kn_281, ?_⟩
  rintro M2 rfl
  have es : I sp + 9 - 1 - (I sp + 9 - 1) / 9 * 9 = I ((sp + 8) % 9) := by
    rw [I_1, I_9, I_add, I_sub (by omega), I_div (by omega) (by decide), I_mul, I_sub (by omega), mod9]
    congr 1
  rw [h4, es]
  rintro M3 rfl
  rw [mset_v, if_neg (by decide), h3, I_1, I_sub (by omega)]
  have hH2 : HC (kp - 1) ((sp + 8) % 9) h (mset (mset M 281 1 (I ((sp + 8) % 9))) 281 2 (I (kp - 1))) := by
    refine ⟨by omega, by omega, by rw [mset_v, if_pos rfl], by rw [mset_v, if_neg (by decide), mset_v, if_pos rfl], fun p hp => (h5 p hp).fr (fun i i1 i2 => by rw [mset_ne (by omega), mset_ne (by omega)]), fun j hj => ?_⟩
    rw [show ((sp + 8) % 9 + 9 - (kp - 1) + j) % 9 = (sp + 9 - kp + j) % 9 by omega]
    exact (h6 j (by omega)).fr (fun i i1 i2 => by rw [mset_ne (by omega), mset_ne (by omega)]) (hh j (by omega))
  have hS2 : St (283 + 140 * ((sp + 8) % 9)) (h (kp - 1)) (mset (mset M 281 1 (I ((sp + 8) % 9))) 281 2 (I (kp - 1))) := by
    have := (h6 (kp - 1) (by omega)).fr (M' := mset (mset M 281 1 (I ((sp + 8) % 9))) 281 2 (I (kp - 1))) (fun i i1 i2 => by rw [mset_ne (by omega), mset_ne (by omega)]) (hh (kp - 1) (by omega))
    rw [show (sp + 9 - kp + (kp - 1)) % 9 = (sp + 8) % 9 by omega] at this
    exact this
  refine k_return (hW.fr (fun i i1 i2 => by rw [mset_ne (by omega), mset_ne (by omega)])) hH2 (fun j hj => hh j (by omega)) hS2 (hh _ (by omega)) (fun M' q1 q2 => ?_)
  exact hq M' ⟨q1.1, fun i i1 i2 => by rw [q1.2 i i1, mset_ne i2, mset_ne i2]⟩ q2 (hH2.fr (fun j hj => hh j (by omega)) (fun i i1 i2 => q1.2 i (by omega)))
theorem k_forget {Q : Mem → Prop} (hq : Q (mset M 281 2 (I 0))) : T_X1_forget Q 281 M := by
  unfold T_X1_forget
  refine ⟨kn_281, ?_⟩
  rintro M2 rfl
  exact hq
end Hi3

