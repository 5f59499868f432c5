/-! ===== THE CLASS's tables ===== -/
/-- the table at t has n rows of width w -/
def TB (t n w : Nat) : Prop := kd t = 4 ∧ rf t 0 = t + 1 ∧ kd (t + 1) = 11 ∧ ln (t + 1) = n ∧ n < 100 ∧ w < 100 ∧ ∀ i, i < n → rf (t + 1) i = t + 2 + i ∧ kd (t + 2 + i) = 9 ∧ ln (t + 2 + i) = w
section Tb1
variable {Q : Mem → Prop} {M : Mem} {t n w m : Nat}
theorem ile (a b : Nat) (ha : a < 1000) (hb : b < 1000) (h : a ≤ b) : I a ≤ I b := (I_le (show a < 2147483648 by omega) (show b < 2147483648 by omega)).symm ▸ h
theorem nle (a b : Nat) (ha : a < 1000) (hb : b < 1000) (h : b < a) : ¬ I a ≤ I b := fun q => by rw [I_le (by omega) (by omega)] at q; omega
theorem ilt (a b : Nat) (ha : a < 1000) (hb : b < 1000) (h : a < b) : I a < I b := (I_lt (show a < 2147483648 by omega) (show b < 2147483648 by omega)).symm ▸ h
theorem nlt (a b : Nat) (ha : a < 1000) (hb : b < 1000) (h : b ≤ a) : ¬ I a < I b := fun q => by rw [I_lt (by omega) (by omega)] at q; omega
theorem t_isFull {Q : Int32 → Mem → Prop} (hT : TB t n w) (hm : M.1 t 2 = I m) (hmn : m ≤ n) (h : Q (if m < n then I 0 else I 1) M) : T_X4_isFull Q t M := by
  obtain ⟨t1, t2, t3, t4, t5, t6, t7⟩ := hT
  unfold T_X4_isFull T_X4_isFull_17
  rw [t2, t3, t4, hm]
  refine ⟨t1, by decide, by decide, ?_⟩
  rw [show Int32.ofNat n = I n from rfl]
  by_cases c : m < n
  · rw [if_pos c] at h; rw [if_pos (ilt m n (by omega) (by omega) c)]; exact ⟨Or.inl rfl, h⟩
  · rw [if_neg c] at h; rw [if_neg (nlt m n (by omega) (by omega) (by omega))]; exact ⟨Or.inr rfl, h⟩
theorem t_addRow {Q : Nat → Mem → Prop} (hT : TB t n w) (hm : M.1 t 2 = I m) (hmn : m < n) (h : Q (t + 2 + m) (mset M t 2 (I (m + 1)))) : T_X4_addRow Q t M := by
  obtain ⟨t1, t2, t3, t4, t5, t6, t7⟩ := hT
  unfold T_X4_addRow T_X4_addRow_22
  rw [t2, t3, t4, hm]
  refine ⟨t1, by decide, by decide, ?_⟩
  rw [show Int32.ofNat n = I n from rfl, if_neg (nle n m (by omega) (by omega) hmn), I_1, I_add]
  rintro M4 rfl
  rw [mset_v, if_pos rfl, I_sub (by omega), show m + 1 - 1 = m by omega, vp_I (by omega), tn_I (by omega), (t7 m hmn).1]
  exact ⟨t1, Or.inr rfl, hmn, h⟩
theorem mcpy_v {M : Mem} {i j n : Nat} {a k : Nat} : (mcpy M i j 0 0 n).1 a k = if a = j ∧ k < n then M.1 i k else M.1 a k := by
  by_cases h : a = j
  · subst h
    rw [mcpy_at]
    unfold va_cpy
    by_cases c : k < n
    · rw [if_pos ⟨Nat.zero_le _, by omega⟩, if_pos ⟨rfl, c⟩, show 0 + (k - 0) = k by omega]
    · rw [if_neg (by omega), if_neg (fun q => c q.2)]
  · rw [mcpy_ne h, if_neg (fun q => h q.1)]
/-- a memory that differs at the table's counts and rows alone -/
def Tz (t n : Nat) (M M' : Mem) : Prop := M'.2 = M.2 ∧ (∀ k, k ≠ 2 → M'.1 t k = M.1 t k) ∧ ∀ j, j ≠ t → ¬ (t + 2 ≤ j ∧ j < t + 2 + n) → M'.1 j = M.1 j
theorem Tz.rfl {t n : Nat} {M : Mem} : Tz t n M M := ⟨by trivial, fun _ _ => by trivial, fun _ _ _ => by trivial⟩
theorem t_rm_l (hT : TB t n w) (hw : M.1 t 1 = I w) (hmn : m ≤ n) (r : Nat) (hm : M.1 t 2 = I m) (hr : r < m)
    (h : ∀ M', Tz t n M M' → M'.1 t 2 = I (m - 1) → (∀ i c, i < r → M'.1 (t + 2 + i) c = M.1 (t + 2 + i) c) → (∀ i c, r ≤ i → i + 1 < m → c < w → M'.1 (t + 2 + i) c = M.1 (t + 2 + (i + 1)) c) → Q M') :
    ∀ j k M1, k + j = m → r + 1 ≤ k → M1.1 t 2 = I m → Tz t n M M1 → (∀ i c, i < r → M1.1 (t + 2 + i) c = M.1 (t + 2 + i) c) → (∀ i c, r ≤ i → i + 1 < k → c < w → M1.1 (t + 2 + i) c = M.1 (t + 2 + (i + 1)) c) → (∀ i c, k ≤ i → M1.1 (t + 2 + i) c = M.1 (t + 2 + i) c) → T_X4_removeRow_17 Q (j + 1) t (I k) M1 := by
  have hT' := hT
  obtain ⟨t1, t2, t3, t4, t5, t6, t7⟩ := hT'
  intro j
  induction j with
  | zero =>
    intro k M1 hk hrk h2 hz ha hb hc
    obtain rfl : k = m := by omega
    unfold T_X4_removeRow_17
    rw [h2, if_pos (ile k k (by omega) (by omega) (Nat.le_refl _)), I_1, I_sub (by omega)]
    refine ⟨t1, ?_⟩
    rintro M2 rfl
    refine h _ ⟨hz.1, fun q hq => by rw [mset_v, if_neg hq]; exact hz.2.1 q hq, fun q hq hq2 => by rw [mset_ne hq]; exact hz.2.2 q hq hq2⟩ (by rw [mset_v, if_pos rfl]) (fun i c hi => ?_) (fun i c h1 h3 h4 => ?_)
    · rw [mset_ne (by omega)]; exact ha i c hi
    · rw [mset_ne (by omega)]; exact hb i c h1 h3 h4
  | succ j ih =>
    intro k M1 hk hrk h2 hz ha hb hc
    have e1 : M1.1 t 1 = I w := by rw [hz.2.1 1 (by decide)]; exact hw
    unfold T_X4_removeRow_17
    rw [h2, if_neg (nle m k (by omega) (by omega) (by omega)), t2, t3, t4, e1, I_1, I_0, I_sub (by omega), vp_I (by omega), vp_I (by omega), tn_I (by omega), tn_I (by omega), tn_I (by omega), tn_I (by omega), (t7 k (by omega)).1, (t7 (k - 1) (by omega)).1, (t7 k (by omega)).2.1, (t7 (k - 1) (by omega)).2.1, (t7 k (by omega)).2.2, (t7 (k - 1) (by omega)).2.2]
    refine ⟨t1, Or.inr rfl, by omega, by omega, rfl, rfl, by rw [I_lt (by omega) (by omega)]; omega, by rw [I_lt (by omega) (by omega)]; omega, by omega, by omega, ?_⟩
    rintro M12 rfl x13 rfl
    rw [I_add]
    refine ih (k + 1) _ (by omega) (by omega) (by rw [mcpy_ne (by omega)]; exact h2) ⟨hz.1, fun q hq => by rw [mcpy_ne (by omega)]; exact hz.2.1 q hq, fun q hq hq2 => by rw [mcpy_ne (by omega)]; exact hz.2.2 q hq hq2⟩ (fun i c hi => ?_) (fun i c h1 h3 h4 => ?_) (fun i c h1 => ?_)
    · rw [mcpy_ne (by omega)]; exact ha i c hi
    · rw [mcpy_v]
      by_cases q : i + 1 = k
      · rw [if_pos ⟨by omega, h4⟩, hc k c (Nat.le_refl _), q]
      · rw [if_neg (by omega)]; exact hb i c h1 (by omega) h4
    · rw [mcpy_ne (by omega)]; exact hc i c (by omega)
theorem t_removeRow (hT : TB t n w) (hw : M.1 t 1 = I w) (hmn : m ≤ n) (r : Nat) (hm : M.1 t 2 = I m) (hr : r < m)
    (h : ∀ M', Tz t n M M' → M'.1 t 2 = I (m - 1) → (∀ i c, i < r → M'.1 (t + 2 + i) c = M.1 (t + 2 + i) c) → (∀ i c, r ≤ i → i + 1 < m → c < w → M'.1 (t + 2 + i) c = M.1 (t + 2 + (i + 1)) c) → Q M') : T_X4_removeRow Q t (I r) M := by
  have h5 := hT.2.2.2.2.1
  unfold T_X4_removeRow
  rw [I_0, if_neg (nlt r 0 (by omega) (by omega) (by omega)), hm, if_pos (ilt r m (by omega) (by omega) hr), I_1, I_add]
  refine ⟨hT.1, ?_⟩
  rintro x2 rfl
  exact ⟨m - (r + 1) + 1, t_rm_l hT hw hmn r hm hr h (m - (r + 1)) (r + 1) M (by omega) (Nat.le_refl _) hm Tz.rfl (fun _ _ _ => rfl) (fun i c h1 h2 _ => by omega) (fun _ _ _ => rfl)⟩
theorem t_cp_l {t' : Nat} (hT : TB t n w) (hT' : TB t' n w) (hd : t + 2 + n ≤ t' ∨ t' + 2 + n ≤ t) (hw : M.1 t 1 = I w) (hmn : m ≤ n) (hm : M.1 t' 2 = I m)
    (h : ∀ M', Tz t n M M' → M'.1 t 2 = I m → (∀ i c, i < m → c < w → M'.1 (t + 2 + i) c = M.1 (t' + 2 + i) c) → Q M') :
    ∀ j k M1, k + j = m → Tz t n M M1 → M1.1 t 2 = M.1 t 2 → (∀ i c, i < k → c < w → M1.1 (t + 2 + i) c = M.1 (t' + 2 + i) c) → T_X4_copyFrom_2 Q (j + 1) t t' (I k) M1 := by
  have hT1 := hT
  have hT2 := hT'
  obtain ⟨t1, t2, t3, t4, t5, t6, t7⟩ := hT1
  obtain ⟨u1, u2, u3, u4, -, -, u7⟩ := hT2
  intro j
  induction j with
  | zero =>
    intro k M1 hk hz h2 ha
    obtain rfl : k = m := by omega
    unfold T_X4_copyFrom_2
    have e : M1.1 t' 2 = I k := by rw [hz.2.2 t' (by omega) (by omega)]; exact hm
    rw [e, if_pos (ile k k (by omega) (by omega) (Nat.le_refl _))]
    refine ⟨u1, t1, ?_⟩
    rintro M2 rfl
    exact h _ ⟨hz.1, fun q hq => by rw [mset_v, if_neg hq]; exact hz.2.1 q hq, fun q hq hq2 => by rw [mset_ne hq]; exact hz.2.2 q hq hq2⟩ (by rw [mset_v, if_pos rfl]) (fun i c hi hc => by rw [mset_ne (by omega)]; exact ha i c hi hc)
  | succ j ih =>
    intro k M1 hk hz h2 ha
    have e1 : M1.1 t 1 = I w := by rw [hz.2.1 1 (by decide)]; exact hw
    have e : M1.1 t' 2 = I m := by rw [hz.2.2 t' (by omega) (by omega)]; exact hm
    unfold T_X4_copyFrom_2
    rw [e, if_neg (nle m k (by omega) (by omega) (by omega)), t2, t3, t4, u2, u3, u4, e1, I_0, vp_I (by omega), tn_I (by omega), tn_I (by omega), tn_I (by omega), (t7 k (by omega)).1, (u7 k (by omega)).1, (t7 k (by omega)).2.1, (u7 k (by omega)).2.1, (t7 k (by omega)).2.2, (u7 k (by omega)).2.2]
    refine ⟨u1, Or.inr rfl, by omega, t1, Or.inr rfl, by omega, rfl, rfl, by rw [I_lt (by omega) (by omega)]; omega, by rw [I_lt (by omega) (by omega)]; omega, by omega, by omega, ?_⟩
    rintro M12 rfl x13 rfl
    rw [I_1, I_add]
    refine ih (k + 1) _ (by omega) ⟨hz.1, fun q hq => by rw [mcpy_ne (by omega)]; exact hz.2.1 q hq, fun q hq hq2 => by rw [mcpy_ne (by omega)]; exact hz.2.2 q hq hq2⟩ (by rw [mcpy_ne (by omega)]; exact h2) (fun i c hi hc => ?_)
    rw [mcpy_v]
    by_cases q : i = k
    · subst q; rw [if_pos ⟨rfl, hc⟩, hz.2.2 _ (by omega) (by omega)]
    · rw [if_neg (by omega)]; exact ha i c (by omega) hc
theorem t_copyFrom {t' : Nat} (hT : TB t n w) (hT' : TB t' n w) (hd : t + 2 + n ≤ t' ∨ t' + 2 + n ≤ t) (hw : M.1 t 1 = I w) (hmn : m ≤ n) (hm : M.1 t' 2 = I m)
    (h : ∀ M', Tz t n M M' → M'.1 t 2 = I m → (∀ i c, i < m → c < w → M'.1 (t + 2 + i) c = M.1 (t' + 2 + i) c) → Q M') : T_X4_copyFrom Q t t' M := by
  unfold T_X4_copyFrom
  rw [I_0]
  exact ⟨m + 1, t_cp_l hT hT' hd hw hmn hm h m 0 M (by omega) Tz.rfl rfl (fun i c h1 _ => by omega)⟩
end Tb1

