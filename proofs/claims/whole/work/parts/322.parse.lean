/-! ===== THE CLASS reads signs, digits, numbers ===== -/
section Pb1
variable {M M' M1 : Mem} {n : Nat} {u : Nat → Nat} {Q : Int32 → Mem → Prop} {QP : Mem → Prop}
/-- the class's text -/
def UC (n : Nat) (u : Nat → Nat) (M : Mem) : Prop := n ≤ 80 ∧ M.1 1551 1 = I n ∧ ∀ k, k < n → M.1 1552 k = I (u k) ∧ u k < 65536
/-- only the place, and number i of row r, change -/
def Fc (r i : Nat) (M M' : Mem) : Prop := M'.2 = M.2 ∧ (∀ j, j ≠ 1551 → j ≠ r → M'.1 j = M.1 j) ∧ (∀ k, k ≠ 2 → M'.1 1551 k = M.1 1551 k) ∧ (∀ k, k ≠ i → M'.1 r k = M.1 r k)
theorem Fc.rfl {r i : Nat} : Fc r i M M := ⟨by trivial, fun _ _ _ => by trivial, fun _ _ => by trivial, fun _ _ => by trivial⟩
theorem Fc.trans {r i : Nat} (e : Fc r i M M1) (e2 : Fc r i M1 M') : Fc r i M M' := ⟨e2.1.trans e.1, fun j j1 j2 => (e2.2.1 j j1 j2).trans (e.2.1 j j1 j2), fun k hk => (e2.2.2.1 k hk).trans (e.2.2.1 k hk), fun k hk => (e2.2.2.2 k hk).trans (e.2.2.2 k hk)⟩
theorem Fc.pl {r i : Nat} (hr : r ≠ 1551) {v : Int32} : Fc r i M (mset M 1551 2 v) := ⟨by trivial, fun j j1 j2 => mset_ne j1, fun k hk => by rw [mset_v, if_neg hk], fun k hk => by rw [mset_ne hr]⟩
theorem Fc.rw {r i : Nat} (hr : r ≠ 1551) {v : Int32} : Fc r i M (mset M r i v) := ⟨by trivial, fun j j1 j2 => mset_ne j2, fun k hk => by rw [mset_ne hr.symm], fun k hk => by rw [mset_v, if_neg hk]⟩
theorem UC.fc {r i : Nat} (hU : UC n u M) (hr : r ≠ 1551 ∧ r ≠ 1552) (e : Fc r i M M') : UC n u M' := ⟨hU.1, (e.2.2.1 1 (by decide)).trans hU.2.1, fun k hk => by rw [e.2.1 1552 (by decide) (fun z => hr.2 z.symm)]; exact hU.2.2 k hk⟩
theorem k_sign (hU : UC n u M) {p c : Nat} (hp : M.1 1551 2 = I p) (hpp : p < 1000) (hc : c < 65536) (h1 : sgn n u c p = true → Q (I 1) (mset M 1551 2 (I (p + 1)))) (h0 : ¬ sgn n u c p = true → Q (I 0) M) : T_X5_hasSign Q 1551 (I c) M := by
  obtain ⟨hn, hl, hu⟩ := hU
  unfold T_X5_hasSign T_X5_hasSign_24
  rw [hl, hp, rn_1551_0, lnn_1552]
  refine ⟨kn_1551, ?_⟩
  by_cases c1 : p < n
  · rw [if_neg (by rw [I_le (by omega) (by omega)]; omega), vp_I (by omega), tn_I (by omega), (hu p c1).1]
    refine ⟨kn_1552, by omega, ?_⟩
    by_cases c2 : u p = c
    · rw [if_pos (by rw [c2])]
      rintro M4 rfl
      rw [I_1, I_add]
      exact ⟨Or.inr rfl, h1 (decide_eq_true ⟨c1, c2⟩)⟩
    · have := (hu p c1).2
      rw [if_neg (by rw [I_eq (by omega) (by omega)]; exact c2)]
      exact ⟨Or.inl rfl, h0 (fun z => c2 (of_decide_eq_true z).2)⟩
  · rw [if_pos (by rw [I_le (by omega) (by omega)]; omega)]
    exact ⟨Or.inl rfl, h0 (fun z => c1 (of_decide_eq_true z).1)⟩
theorem k_digit (hU : UC n u M) {p r i : Nat} (hr : r ≠ 1551 ∧ r ≠ 1552) (hk : kd r = 9) (hi : i < ln r) (hi2 : i < 100) (hp : M.1 1551 2 = I p) (hpp : p < 1000) (h1 : dgn n u p = true → Q (I 1) (mset (mset M r i (I (u p - 48))) 1551 2 (I (p + 1)))) (h0 : ¬ dgn n u p = true → Q (I 0) M) : T_X5_hasDigit Q 1551 r (I i) M := by
  obtain ⟨hn, hl, hu⟩ := hU
  unfold T_X5_hasDigit T_X5_hasDigit_39
  rw [hl, hp, rn_1551_0, lnn_1552]
  refine ⟨kn_1551, ?_⟩
  by_cases c1 : p < n
  · have hu2 := (hu p c1).2
    rw [if_neg (by rw [I_le (by omega) (by omega)]; omega), vp_I (by omega), tn_I (by omega), (hu p c1).1]
    refine ⟨kn_1552, by omega, ?_⟩
    rw [I_48, I_57]
    by_cases c2 : u p < 48
    · rw [if_pos (by rw [I_lt (by omega) (by omega)]; exact c2)]
      exact ⟨Or.inl rfl, h0 (fun z => by have := (of_decide_eq_true z).2.1; omega)⟩
    · rw [if_neg (by rw [I_lt (by omega) (by omega)]; exact c2)]
      by_cases c3 : u p ≤ 57
      · rw [if_pos (by rw [I_le (by omega) (by omega)]; exact c3), vp_I (by omega), tn_I (by omega), I_sub (by omega)]
        refine ⟨hk, hi, ?_⟩
        rintro M6 rfl
        rintro M7 rfl
        rw [mset_ne hr.1.symm, hp, I_1, I_add]
        exact ⟨Or.inr rfl, h1 (decide_eq_true ⟨c1, by omega, c3⟩)⟩
      · rw [if_neg (by rw [I_le (by omega) (by omega)]; exact c3)]
        exact ⟨Or.inl rfl, h0 (fun z => c3 (of_decide_eq_true z).2.2)⟩
  · rw [if_pos (by rw [I_le (by omega) (by omega)]; omega)]
    exact ⟨Or.inl rfl, h0 (fun z => c1 (of_decide_eq_true z).1)⟩
theorem dig_t {p : Nat} (h : dgn n u p = true) : dig n u (true, p) = ((true, p + 1), u p - 48) := if_pos ⟨rfl, h⟩
theorem dig_f {p : Nat} (h : ¬ dgn n u p = true) : dig n u (true, p) = ((false, p), 0) := if_neg (fun z => h z.2)
theorem mst_t {p c : Nat} (h : sgn n u c p = true) : mst n u c (true, p) = (true, p + 1) := if_pos ⟨rfl, h⟩
theorem mst_f {p c : Nat} (h : ¬ sgn n u c p = true) : mst n u c (true, p) = (false, p) := if_neg (fun z => h z.2)
theorem mst_ff {p c : Nat} : mst n u c (false, p) = (false, p) := if_neg (fun z => by cases z.1)
theorem dig_ff {p : Nat} : dig n u (false, p) = ((false, p), 0) := if_neg (fun z => by cases z.1)
theorem ltr_ff {p : Nat} : ltr n u (false, p) = ((false, p), 0) := if_neg (fun z => by cases z.1)
theorem num_ff {p : Nat} : num n u (false, p) = ((false, p), 0) := by
  unfold num
  rw [dig_ff, if_neg (fun z => by cases z.1)]
theorem num_f {p : Nat} (h : ¬ dgn n u p = true) : num n u (true, p) = ((false, p), 0) := by
  unfold num
  rw [dig_f h, if_neg (fun z => by cases z.1)]
theorem num_t1 {p : Nat} (h : dgn n u p = true) (h2 : ¬ dgn n u (p + 1) = true) : num n u (true, p) = ((true, p + 1), u p - 48) := by
  unfold num
  rw [dig_t h, if_neg (fun z => h2 z.2)]
theorem num_t2 {p : Nat} (h : dgn n u p = true) (h2 : dgn n u (p + 1) = true) : num n u (true, p) = ((true, p + 1 + 1), 10 * (u p - 48) + (u (p + 1) - 48)) := by
  unfold num
  rw [dig_t h, dig_t h2, if_pos ⟨rfl, h2⟩]
theorem k_num (hU : UC n u M) {p r i : Nat} (hr : r ≠ 1551 ∧ r ≠ 1552) (hk : kd r = 9) (hi : i < ln r) (hi2 : i < 100) (hp : M.1 1551 2 = I p) (hpp : p < 900) (h1 : (num n u (true, p)).1.1 = true → ∀ M', Fc r i M M' → M'.1 1551 2 = I (num n u (true, p)).1.2 → M'.1 r i = I (num n u (true, p)).2 → Q (I 1) M') (h0 : num n u (true, p) = ((false, p), 0) → Q (I 0) M) : T_X5_hasNumber Q 1551 r (I i) M := by
  unfold T_X5_hasNumber T_X5_hasNumber_34
  refine ⟨kn_1551, k_digit hU hr hk hi hi2 hp (by omega) (fun c1 => ?_) (fun c1 => ?_)⟩
  · try dsimp only
    rw [if_neg (by decide), vp_I (by omega), tn_I (by omega)]
    refine ⟨hk, hi, ?_⟩
    rintro x6 rfl
    have e1 : Fc r i M (mset (mset M r i (I (u p - 48))) 1551 2 (I (p + 1))) := (Fc.rw hr.1).trans (Fc.pl hr.1)
    have v1 : (mset (mset M r i (I (u p - 48))) 1551 2 (I (p + 1))).1 r i = I (u p - 48) := by rw [mset_ne hr.1, mset_v, if_pos rfl]
    have p1 : (mset (mset M r i (I (u p - 48))) 1551 2 (I (p + 1))).1 1551 2 = I (p + 1) := by rw [mset_v, if_pos rfl]
    generalize mset (mset M r i (I (u p - 48))) 1551 2 (I (p + 1)) = M1 at e1 v1 p1 ⊢
    have d1 := (of_decide_eq_true c1).2
    refine k_digit (hU.fc hr e1) hr hk hi hi2 p1 (by omega) (fun c2 => ?_) (fun c2 => ?_)
    · try dsimp only
      have d2 := (of_decide_eq_true c2).2
      rw [if_neg (by decide)]
      rintro M9 rfl
      rw [num_t2 c1 c2] at h1
      refine ⟨Or.inr rfl, h1 rfl _ (e1.trans ((Fc.rw hr.1).trans ((Fc.pl hr.1).trans (Fc.rw hr.1)))) ?_ ?_⟩
      · rw [mset_ne hr.1.symm, mset_v, if_pos rfl]
      · rw [mset_v, if_pos rfl, mset_ne hr.1, mset_v, if_pos rfl, v1, I_10, I_mul, I_add]
        congr 1
        omega
    · try dsimp only
      rw [if_pos (show I 0 = 0 from rfl)]
      rw [num_t1 c1 c2] at h1
      exact ⟨Or.inr rfl, h1 rfl _ e1 p1 v1⟩
  · try dsimp only
    rw [if_pos (show I 0 = 0 from rfl)]
    exact ⟨Or.inl rfl, h0 (num_f c1)⟩
end Pb1

