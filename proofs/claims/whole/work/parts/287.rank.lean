/-! ===== PLACES IN AN ORDER: among those asked for; the rooms in their order ===== -/
section Rk1
def kyP (key : Nat → Nat) (p : Nat → Bool) (w : Nat) : Nat := if p w = true then key w else 1000000 + w
def cnP (p : Nat → Bool) (n : Nat) : Nat := sm (fun v => if p v = true then 1 else 0) n
theorem kyP_t {key : Nat → Nat} {p : Nat → Bool} {w : Nat} (h : p w = true) : kyP key p w = key w := if_pos h
theorem kyP_f {key : Nat → Nat} {p : Nat → Bool} {w : Nat} (h : ¬ p w = true) : kyP key p w = 1000000 + w := if_neg h
theorem kyP_inj {key : Nat → Nat} {p : Nat → Bool} {n : Nat} (hk : ∀ x y, x < n → y < n → p x = true → p y = true → key x = key y → x = y) (hb : ∀ x, key x < 1000000) : ∀ x y, x < n → y < n → kyP key p x = kyP key p y → x = y := by
  intro x y hx hy h
  have b1 := hb x
  have b2 := hb y
  by_cases c : p x = true
  · by_cases c2 : p y = true
    · rw [kyP_t c, kyP_t c2] at h; exact hk x y hx hy c c2 h
    · rw [kyP_t c, kyP_f c2] at h; omega
  · by_cases c2 : p y = true
    · rw [kyP_f c, kyP_t c2] at h; omega
    · rw [kyP_f c, kyP_f c2] at h; omega
theorem rkP_lt {key : Nat → Nat} {p : Nat → Bool} {n r : Nat} (hb : ∀ x, key x < 1000000) (hp : p r = true) (hr : r < n) : rk (kyP key p) n r < cnP p n := by
  have h1 := sm_mono (f := fun q => (if kyP key p q < kyP key p r then 1 else 0) + (if q = r then 1 else 0)) (g := fun q => if p q = true then 1 else 0) (n := n) (fun k _ => by
    try dsimp only
    have b1 := hb r
    by_cases c : k = r
    · subst c; rw [if_neg (by omega), if_pos rfl, if_pos hp]; omega
    · rw [if_neg c]
      by_cases c2 : p k = true
      · rw [if_pos c2]; split <;> omega
      · rw [if_neg c2, kyP_f c2, kyP_t hp, if_neg (by omega)]; omega)
  rw [sm_add, sm_one hr] at h1
  unfold rk cnP
  omega
theorem rkP_ge {key : Nat → Nat} {p : Nat → Bool} {n r : Nat} (hb : ∀ x, key x < 1000000) (hp : ¬ p r = true) : cnP p n ≤ rk (kyP key p) n r := by
  refine sm_mono (fun k _ => ?_)
  try dsimp only
  have b1 := hb k
  by_cases c : p k = true
  · rw [if_pos c, kyP_t c, kyP_f hp, if_pos (by omega)]; omega
  · rw [if_neg c]; omega
theorem am_rk {key : Nat → Nat} {p : Nat → Bool} {n r j : Nat} (hk : ∀ x y, x < n → y < n → p x = true → p y = true → key x = key y → x = y) (hr : r < n) (hp : p r = true) (hj : rk (kyP key p) n r = j) :
    am key (fun u => p u && decide (j ≤ rk (kyP key p) n u)) n = some r := by
  obtain ⟨b, hb⟩ := am_ex (key := key) (p := fun u => p u && decide (j ≤ rk (kyP key p) n u)) hr (by show (p r && decide (j ≤ rk (kyP key p) n r)) = true; rw [hp, decide_eq_true (by omega)]; rfl)
  have q := am_s hb
  have q2 := q.2.1
  simp only [Bool.and_eq_true, decide_eq_true_eq] at q2
  have q3 := q.2.2 r hr (by show (p r && decide (j ≤ rk (kyP key p) n r)) = true; rw [hp, decide_eq_true (by omega)]; rfl)
  rw [hb]
  by_cases c : key b < key r
  · exfalso
    have := rk_lt (key := kyP key p) (n := n) q.1 (show kyP key p b < kyP key p r by rw [kyP_t q2.1, kyP_t hp]; exact c)
    omega
  · rw [hk b r q.1 hr q2.1 hp (by omega)]
theorem kyP_all {key : Nat → Nat} : kyP key (fun _ => true) = key := funext fun _ => if_pos rfl
end Rk1
section Rk2
variable {M : Mem} {a : Nat → Nat} {f : Nat → Int32} {Q : Int32 → Mem → Prop} {X : String → Mem → Prop}
theorem k_ord_l (hV : VA a) (hS : St 1 a M) {i p : Nat} (hi : i < a 1) (hp : p < a 3) (h : ∀ r, r < a 3 → rk (keyR a i) (a 3) r = p → Q (I r) M) :
    ∀ m k S r, k + m = p → S < 64 → (∀ q, q < a 3 → S.testBit q = decide (k ≤ rk (keyR a i) (a 3) q)) → r < a 3 → rk (keyR a i) (a 3) r = k → T_X6_ordered_83 Q X (m + 1) 0 (I i) (I p) (I S) (I r) (I k) M := by
  have h3 := hV.2.1.2.2.2.1
  have inj := inj6 hV i
  intro m
  induction m with
  | zero =>
    intro k S r hk hS6 hb hr hrk
    obtain rfl : k = p := by omega
    unfold T_X6_ordered_83
    rw [if_pos (ile k k (by omega) (by omega) (Nat.le_refl _))]
    exact h r hr hrk
  | succ m ih =>
    intro k S r hk hS6 hb hr hrk
    obtain ⟨r', hr', hrk'⟩ := rk_ex inj (k + 1) (by omega)
    have hlt : S ^^^ (S &&& 2 ^ r) < 64 := Nat.xor_lt_two_pow (n := 6) hS6 (Nat.lt_of_le_of_lt Nat.and_le_left hS6)
    have e1 : I S &&& ((1 <<< (I r &&& 31)) ^^^ (-1)) = I (S ^^^ (S &&& 2 ^ r)) := by
      have e := I_shl (k := r) (by omega)
      rw [I_1, I_31, e, show (-(I 1) : Int32) = NO from rfl, I_dif (by omega) (by have := Nat.pow_lt_pow_right (a := 2) (by decide) (show r < 6 by omega); omega)]
    have hbit : ∀ q, q < a 3 → (S ^^^ (S &&& 2 ^ r)).testBit q = decide (k + 1 ≤ rk (keyR a i) (a 3) q) := fun q hq => by
      rw [Nat.testBit_xor, Nat.testBit_and, Nat.testBit_two_pow, hb q hq]
      by_cases c : r = q
      · subst c
        rw [decide_eq_true (show k ≤ rk (keyR a i) (a 3) r by omega), decide_eq_true rfl, decide_eq_false (show ¬ k + 1 ≤ rk (keyR a i) (a 3) r by omega)]; rfl
      · rw [decide_eq_false c]
        have hne : rk (keyR a i) (a 3) q ≠ k := fun z => c (rk_inj inj hr hq (by omega))
        by_cases c2 : k ≤ rk (keyR a i) (a 3) q
        · rw [decide_eq_true c2, decide_eq_true (show k + 1 ≤ rk (keyR a i) (a 3) q by omega)]; rfl
        · rw [decide_eq_false c2, decide_eq_false (show ¬ k + 1 ≤ rk (keyR a i) (a 3) q by omega)]; rfl
    have ham : am (keyR a i) (fun x => (S ^^^ (S &&& 2 ^ r)).testBit x) (a 3) = some r' := by
      have := am_rk (key := keyR a i) (p := fun _ => true) (n := a 3) (r := r') (j := k + 1) (fun x y hx hy _ _ e => inj x y hx hy e) hr' rfl (by rw [kyP_all]; exact hrk')
      rw [kyP_all] at this
      rw [← this]
      exact am_cg (fun _ _ _ _ => Iff.rfl) (fun x hx => by rw [hbit x hx]; rfl)
    unfold T_X6_ordered_83
    rw [if_neg (nle p k (by omega) (by omega) (by omega)), e1]
    rintro x1 rfl
    refine ⟨kn_0, by rw [rn_0_0]; exact kn_1, ?_⟩
    rw [rn_0_0]
    refine k_fr hV hS hi (by omega) ?_
    rw [ham]
    rintro x6 rfl
    rw [I_1, I_add]
    exact ih (k + 1) _ r' (by omega) hlt hbit hr' hrk'
/-- what ordered answers -/
def rs_ordered (a : Nat → Nat) (p q : Int32) : Nat × Int32 := if isN p (a 1) then (if isN q (a 3) then (0, oN (ordR a p.toNatClampNeg q.toNatClampNeg)) else (2, I 0)) else (1, I 0)
theorem m_ordered (hV : VA a) {p q : Int32} (h : ∀ f' : Nat → Int32, f' 0 = I (rs_ordered a p q).1 → (∀ j, j ≠ 0 → f' j = f j) → Q (rs_ordered a p q).2 (mm M a f')) : T_X7_ordered Q 1582 p q (mm M a f) := by
  have hb := hV.1
  have h3 := hV.2.1.2.2.2.1
  have h1 := hV.2.1.2.1
  unfold T_X7_ordered T_X7_ordered_49
  simp (disch := first | exact lt4 (hb _) | exact hb _ | omega) only [I_0, I_1, I_2, I_3, I_4, I_5, I_6, I_7, I_8, I_9, I_10, I_11, I_12, I_20, I_22, I_27, I_31, I_32, I_38, I_42, I_48, I_54, I_55, I_56, I_57, I_60, I_66, I_72, I_78, I_80, I_97, I_98, I_99, I_100, I_108, I_109, I_116, I_120, I_438, I_488, I_512, I_552, I_3864, oN_s, oN_n, bI_t, bI_f, Nat.add_zero, I_bt1, I_bt0, Nat.reduceLT, Nat.reduceLeDiff, Nat.reduceEqDiff, Nat.reduceAdd, Nat.reduceMul, Nat.reduceSub, tn_I, I_add, I_mul, I_div, vp_I, I_eq, I_le, I_lt, I_no, no_I, negI1, kd7, rf71, kdS, lnS, mm_sa, mm_fa, mm_ms, mm_mf, true_and, and_true, false_and, and_false, if_true, if_false, ite_true, ite_false, forall_eq, true_or, or_true]
  rw [m_isInmate hb]
  unfold rs_ordered at h
  by_cases c1 : isN p (a 1)
  · rw [if_pos c1] at h ⊢
    obtain ⟨i, hi, rfl⟩ := isN_el c1
    simp (disch := first | exact lt4 (hb _) | exact hb _ | omega) only [I_0, I_1, I_2, I_3, I_4, I_5, I_6, I_7, I_8, I_9, I_10, I_11, I_12, I_20, I_22, I_27, I_31, I_32, I_38, I_42, I_48, I_54, I_55, I_56, I_57, I_60, I_66, I_72, I_78, I_80, I_97, I_98, I_99, I_100, I_108, I_109, I_116, I_120, I_438, I_488, I_512, I_552, I_3864, oN_s, oN_n, bI_t, bI_f, Nat.add_zero, I_bt1, I_bt0, Nat.reduceLT, Nat.reduceLeDiff, Nat.reduceEqDiff, Nat.reduceAdd, Nat.reduceMul, Nat.reduceSub, tn_I, I_add, I_mul, I_div, vp_I, I_eq, I_le, I_lt, I_no, no_I, negI1, kd7, rf71, kdS, lnS, mm_sa, mm_fa, mm_ms, mm_mf, true_and, and_true, false_and, and_false, if_true, if_false, ite_true, ite_false, forall_eq, true_or, or_true, m_in, in_cnt (hb 3)]
    by_cases c2 : isN q (a 3)
    · rw [if_pos c2] at h ⊢
      obtain ⟨r, hr, rfl⟩ := isN_el c2
      rw [tn_I (by omega), tn_I (by omega)] at h
      try (simp (disch := first | exact lt4 (hb _) | exact hb _ | omega) only [I_0, I_1, I_2, I_3, I_4, I_5, I_6, I_7, I_8, I_9, I_10, I_11, I_12, I_20, I_22, I_27, I_31, I_32, I_38, I_42, I_48, I_54, I_55, I_56, I_57, I_60, I_66, I_72, I_78, I_80, I_97, I_98, I_99, I_100, I_108, I_109, I_116, I_120, I_438, I_488, I_512, I_552, I_3864, oN_s, oN_n, bI_t, bI_f, Nat.add_zero, I_bt1, I_bt0, Nat.reduceLT, Nat.reduceLeDiff, Nat.reduceEqDiff, Nat.reduceAdd, Nat.reduceMul, Nat.reduceSub, tn_I, I_add, I_mul, I_div, vp_I, I_eq, I_le, I_lt, I_no, no_I, negI1, kd7, rf71, kdS, lnS, mm_sa, mm_fa, mm_ms, mm_mf, true_and, and_true, false_and, and_false, if_true, if_false, ite_true, ite_false, forall_eq, true_or, or_true])
      refine m_ordR hb h3 (by omega) (by omega) ?_
      exact h _ updI_s (fun j hj => updI_n hj)
    · rw [if_neg c2] at h ⊢
      simp (disch := first | exact lt4 (hb _) | exact hb _ | omega) only [I_0, I_1, I_2, I_3, I_4, I_5, I_6, I_7, I_8, I_9, I_10, I_11, I_12, I_20, I_22, I_27, I_31, I_32, I_38, I_42, I_48, I_54, I_55, I_56, I_57, I_60, I_66, I_72, I_78, I_80, I_97, I_98, I_99, I_100, I_108, I_109, I_116, I_120, I_438, I_488, I_512, I_552, I_3864, oN_s, oN_n, bI_t, bI_f, Nat.add_zero, I_bt1, I_bt0, Nat.reduceLT, Nat.reduceLeDiff, Nat.reduceEqDiff, Nat.reduceAdd, Nat.reduceMul, Nat.reduceSub, tn_I, I_add, I_mul, I_div, vp_I, I_eq, I_le, I_lt, I_no, no_I, negI1, kd7, rf71, kdS, lnS, mm_sa, mm_fa, mm_ms, mm_mf, true_and, and_true, false_and, and_false, if_true, if_false, ite_true, ite_false, forall_eq, true_or, or_true, m_fails]
      exact h _ updI_s (fun j hj => by rw [updI_n hj, updI_n hj])
  · rw [if_neg c1] at h ⊢
    simp (disch := first | exact lt4 (hb _) | exact hb _ | omega) only [I_0, I_1, I_2, I_3, I_4, I_5, I_6, I_7, I_8, I_9, I_10, I_11, I_12, I_20, I_22, I_27, I_31, I_32, I_38, I_42, I_48, I_54, I_55, I_56, I_57, I_60, I_66, I_72, I_78, I_80, I_97, I_98, I_99, I_100, I_108, I_109, I_116, I_120, I_438, I_488, I_512, I_552, I_3864, oN_s, oN_n, bI_t, bI_f, Nat.add_zero, I_bt1, I_bt0, Nat.reduceLT, Nat.reduceLeDiff, Nat.reduceEqDiff, Nat.reduceAdd, Nat.reduceMul, Nat.reduceSub, tn_I, I_add, I_mul, I_div, vp_I, I_eq, I_le, I_lt, I_no, no_I, negI1, kd7, rf71, kdS, lnS, mm_sa, mm_fa, mm_ms, mm_mf, true_and, and_true, false_and, and_false, if_true, if_false, ite_true, ite_false, forall_eq, true_or, or_true, m_fails]
    exact h _ updI_s (fun j hj => by rw [updI_n hj, updI_n hj])
theorem k_ordered (hV : VA a) (hC : Cz a M) {p q : Int32} (h0 : ∀ v, rs_ordered a p q = (0, v) → Q v M) (h1 : (rs_ordered a p q).1 = 1 → X "java/lang/IndexOutOfBoundsException" M) (h2 : (rs_ordered a p q).1 = 2 → X "java/util/NoSuchElementException" M) : T_X6_ordered Q X 0 p q M := by
  have hb := hV.1
  have hS := hC.1
  have h3 := hV.2.1.2.2.2.1
  have h1' := hV.2.1.2.1
  unfold rs_ordered at h0 h1 h2
  unfold T_X6_ordered
  simp (disch := first | exact lt4 (hb _) | exact hb _ | omega) only [I_0, I_1, I_2, I_3, I_4, I_5, I_6, I_7, I_8, I_9, I_10, I_11, I_12, I_20, I_22, I_27, I_31, I_32, I_38, I_42, I_48, I_54, I_55, I_56, I_57, I_60, I_66, I_72, I_78, I_80, I_97, I_98, I_99, I_100, I_108, I_109, I_116, I_120, I_438, I_488, I_512, I_552, I_3864, oN_s, oN_n, bI_t, bI_f, Nat.add_zero, I_bt1, I_bt0, Nat.reduceLT, Nat.reduceLeDiff, Nat.reduceEqDiff, Nat.reduceAdd, Nat.reduceMul, Nat.reduceSub, tn_I, I_add, I_mul, I_div, vp_I, I_eq, I_le, I_lt, I_no, no_I, negI1, true_and, and_true, false_and, and_false, if_true, if_false, ite_true, ite_false, forall_eq, true_or, or_true, kn_0, kn_1, kn_2, kn_3, kn_4, kn_15, kn_16, kn_29, kn_30, kn_37, kn_38, kn_99, kn_100, kn_111, kn_112, kn_119, kn_120, kn_281, kn_282, kn_1543, kn_1544, kn_1545, kn_1546, kn_1547, kn_1551, kn_1552, kn_1553, kn_1554, lnn_2, lnn_4, lnn_16, lnn_30, lnn_38, lnn_100, lnn_112, lnn_120, lnn_282, lnn_1544, lnn_1547, lnn_1552, lnn_1554, rn_1_1, rn_1_2, rn_1_3, rn_1_4, rn_1_5, rn_1_6, rn_1_7, rn_1_8, rn_3_0, rn_15_0, rn_29_0, rn_37_0, rn_99_0, rn_111_0, rn_119_0, rn_1543_0, rn_1543_1, rn_1545_0, rn_1545_1, rn_0_0, rn_0_1, rn_0_3, rn_0_4, rn_0_5, rn_0_6, rn_0_7, rn_1546_0, rn_1551_0, rn_1551_3, rn_1553_0, rn_281_0, rr_4, rr_16, rr_30, rr_38, rr_100, rr_112, rr_120, rr_1547, rr_1554, kr_4, kr_16, kr_30, kr_38, kr_100, kr_112, kr_120, kr_1547, kr_1554, lr_4, lr_16, lr_30, lr_38, lr_100, lr_112, lr_120, lr_1547, lr_1554, s_d hS, s_q hS, s_ni hS, s_nk hS, s_nr hS, s_nv hS, s_nb hS, s_nw hS, s_nn hS, s_i0 hS, s_i1 hS, s_i2 hS, s_k hS, s_r0 hS, s_r1 hS, s_r2 hS, s_r3 hS, s_v0 hS, s_v1 hS, s_v2 hS, s_v3 hS, s_v4 hS, s_v5 hS, s_b0 hS, s_b1 hS, s_b2 hS, s_b3 hS, s_b4 hS, s_w0 hS, s_w1 hS, s_w2 hS, s_w3 hS, s_n0 hS, s_n1 hS]
  rw [k_below (by omega)]
  by_cases c1 : isN p (a 1)
  · rw [if_pos c1] at h0 h1 h2 ⊢
    obtain ⟨i, hi, rfl⟩ := isN_el c1
    simp (disch := first | exact lt4 (hb _) | exact hb _ | omega) only [I_0, I_1, I_2, I_3, I_4, I_5, I_6, I_7, I_8, I_9, I_10, I_11, I_12, I_20, I_22, I_27, I_31, I_32, I_38, I_42, I_48, I_54, I_55, I_56, I_57, I_60, I_66, I_72, I_78, I_80, I_97, I_98, I_99, I_100, I_108, I_109, I_116, I_120, I_438, I_488, I_512, I_552, I_3864, oN_s, oN_n, bI_t, bI_f, Nat.add_zero, I_bt1, I_bt0, Nat.reduceLT, Nat.reduceLeDiff, Nat.reduceEqDiff, Nat.reduceAdd, Nat.reduceMul, Nat.reduceSub, tn_I, I_add, I_mul, I_div, vp_I, I_eq, I_le, I_lt, I_no, no_I, negI1, true_and, and_true, false_and, and_false, if_true, if_false, ite_true, ite_false, forall_eq, true_or, or_true, kn_0, kn_1, kn_2, kn_3, kn_4, kn_15, kn_16, kn_29, kn_30, kn_37, kn_38, kn_99, kn_100, kn_111, kn_112, kn_119, kn_120, kn_281, kn_282, kn_1543, kn_1544, kn_1545, kn_1546, kn_1547, kn_1551, kn_1552, kn_1553, kn_1554, lnn_2, lnn_4, lnn_16, lnn_30, lnn_38, lnn_100, lnn_112, lnn_120, lnn_282, lnn_1544, lnn_1547, lnn_1552, lnn_1554, rn_1_1, rn_1_2, rn_1_3, rn_1_4, rn_1_5, rn_1_6, rn_1_7, rn_1_8, rn_3_0, rn_15_0, rn_29_0, rn_37_0, rn_99_0, rn_111_0, rn_119_0, rn_1543_0, rn_1543_1, rn_1545_0, rn_1545_1, rn_0_0, rn_0_1, rn_0_3, rn_0_4, rn_0_5, rn_0_6, rn_0_7, rn_1546_0, rn_1551_0, rn_1551_3, rn_1553_0, rn_281_0, rr_4, rr_16, rr_30, rr_38, rr_100, rr_112, rr_120, rr_1547, rr_1554, kr_4, kr_16, kr_30, kr_38, kr_100, kr_112, kr_120, kr_1547, kr_1554, lr_4, lr_16, lr_30, lr_38, lr_100, lr_112, lr_120, lr_1547, lr_1554, s_d hS, s_q hS, s_ni hS, s_nk hS, s_nr hS, s_nv hS, s_nb hS, s_nw hS, s_nn hS, s_i0 hS, s_i1 hS, s_i2 hS, s_k hS, s_r0 hS, s_r1 hS, s_r2 hS, s_r3 hS, s_v0 hS, s_v1 hS, s_v2 hS, s_v3 hS, s_v4 hS, s_v5 hS, s_b0 hS, s_b1 hS, s_b2 hS, s_b3 hS, s_b4 hS, s_w0 hS, s_w1 hS, s_w2 hS, s_w3 hS, s_n0 hS, s_n1 hS]
    rw [k_below (by omega)]
    by_cases c2 : isN q (a 3)
    · rw [if_pos c2] at h0 h1 h2 ⊢
      obtain ⟨r, hr, rfl⟩ := isN_el c2
      rw [tn_I (by omega), tn_I (by omega)] at h0
      obtain ⟨r0, e1, e2, e3⟩ := ordR_ex (i := i) hV hr
      have hpow : 2 ^ a 3 ≤ 64 := Nat.pow_le_pow_right (n := 2) (by decide) (show a 3 ≤ 6 from h3)
      have hpos : 0 < 2 ^ a 3 := Nat.two_pow_pos _
      have es := I_shl (k := a 3) (by omega)
      simp (disch := first | exact lt4 (hb _) | exact hb _ | omega) only [I_0, I_1, I_2, I_3, I_4, I_5, I_6, I_7, I_8, I_9, I_10, I_11, I_12, I_20, I_22, I_27, I_31, I_32, I_38, I_42, I_48, I_54, I_55, I_56, I_57, I_60, I_66, I_72, I_78, I_80, I_97, I_98, I_99, I_100, I_108, I_109, I_116, I_120, I_438, I_488, I_512, I_552, I_3864, oN_s, oN_n, bI_t, bI_f, Nat.add_zero, I_bt1, I_bt0, Nat.reduceLT, Nat.reduceLeDiff, Nat.reduceEqDiff, Nat.reduceAdd, Nat.reduceMul, Nat.reduceSub, tn_I, I_add, I_mul, I_div, vp_I, I_eq, I_le, I_lt, I_no, no_I, negI1, true_and, and_true, false_and, and_false, if_true, if_false, ite_true, ite_false, forall_eq, true_or, or_true, kn_0, kn_1, kn_2, kn_3, kn_4, kn_15, kn_16, kn_29, kn_30, kn_37, kn_38, kn_99, kn_100, kn_111, kn_112, kn_119, kn_120, kn_281, kn_282, kn_1543, kn_1544, kn_1545, kn_1546, kn_1547, kn_1551, kn_1552, kn_1553, kn_1554, lnn_2, lnn_4, lnn_16, lnn_30, lnn_38, lnn_100, lnn_112, lnn_120, lnn_282, lnn_1544, lnn_1547, lnn_1552, lnn_1554, rn_1_1, rn_1_2, rn_1_3, rn_1_4, rn_1_5, rn_1_6, rn_1_7, rn_1_8, rn_3_0, rn_15_0, rn_29_0, rn_37_0, rn_99_0, rn_111_0, rn_119_0, rn_1543_0, rn_1543_1, rn_1545_0, rn_1545_1, rn_0_0, rn_0_1, rn_0_3, rn_0_4, rn_0_5, rn_0_6, rn_0_7, rn_1546_0, rn_1551_0, rn_1551_3, rn_1553_0, rn_281_0, rr_4, rr_16, rr_30, rr_38, rr_100, rr_112, rr_120, rr_1547, rr_1554, kr_4, kr_16, kr_30, kr_38, kr_100, kr_112, kr_120, kr_1547, kr_1554, lr_4, lr_16, lr_30, lr_38, lr_100, lr_112, lr_120, lr_1547, lr_1554, s_d hS, s_q hS, s_ni hS, s_nk hS, s_nr hS, s_nv hS, s_nb hS, s_nw hS, s_nn hS, s_i0 hS, s_i1 hS, s_i2 hS, s_k hS, s_r0 hS, s_r1 hS, s_r2 hS, s_r3 hS, s_v0 hS, s_v1 hS, s_v2 hS, s_v3 hS, s_v4 hS, s_v5 hS, s_b0 hS, s_b1 hS, s_b2 hS, s_b3 hS, s_b4 hS, s_w0 hS, s_w1 hS, s_w2 hS, s_w3 hS, s_n0 hS, s_n1 hS, es, I_sub]
      have inj := inj6 hV i
      obtain ⟨r1, g1, g2⟩ := rk_ex inj 0 (by omega)
      refine k_fr hV hS hi (by omega) ?_
      have ham : am (keyR a i) (fun x => (2 ^ a 3 - 1).testBit x) (a 3) = some r1 := by
        have := am_rk (key := keyR a i) (p := fun _ => true) (n := a 3) (r := r1) (j := 0) (fun x y hx hy _ _ e => inj x y hx hy e) g1 rfl (by rw [kyP_all]; exact g2)
        rw [← this]
        exact am_cg (fun _ _ _ _ => Iff.rfl) (fun x hx => by rw [Nat.testBit_two_pow_sub_one, decide_eq_true hx, decide_eq_true (Nat.zero_le _)]; rfl)
      rw [ham]
      refine ⟨_, k_ord_l hV hS hi hr (fun r2 q1 q2 => ?_) r 0 _ r1 (by omega) (by omega) (fun x hx => by rw [Nat.testBit_two_pow_sub_one, decide_eq_true hx, decide_eq_true (Nat.zero_le _)]) g1 g2⟩
      obtain rfl : r2 = r0 := rk_inj inj q1 e1 (by omega)
      exact h0 _ (by rw [e2]; rfl)
    · rw [if_neg c2] at h0 h1 h2 ⊢
      simp (disch := first | exact lt4 (hb _) | exact hb _ | omega) only [I_0, I_1, I_2, I_3, I_4, I_5, I_6, I_7, I_8, I_9, I_10, I_11, I_12, I_20, I_22, I_27, I_31, I_32, I_38, I_42, I_48, I_54, I_55, I_56, I_57, I_60, I_66, I_72, I_78, I_80, I_97, I_98, I_99, I_100, I_108, I_109, I_116, I_120, I_438, I_488, I_512, I_552, I_3864, oN_s, oN_n, bI_t, bI_f, Nat.add_zero, I_bt1, I_bt0, Nat.reduceLT, Nat.reduceLeDiff, Nat.reduceEqDiff, Nat.reduceAdd, Nat.reduceMul, Nat.reduceSub, tn_I, I_add, I_mul, I_div, vp_I, I_eq, I_le, I_lt, I_no, no_I, negI1, true_and, and_true, false_and, and_false, if_true, if_false, ite_true, ite_false, forall_eq, true_or, or_true, kn_0, kn_1, kn_2, kn_3, kn_4, kn_15, kn_16, kn_29, kn_30, kn_37, kn_38, kn_99, kn_100, kn_111, kn_112, kn_119, kn_120, kn_281, kn_282, kn_1543, kn_1544, kn_1545, kn_1546, kn_1547, kn_1551, kn_1552, kn_1553, kn_1554, lnn_2, lnn_4, lnn_16, lnn_30, lnn_38, lnn_100, lnn_112, lnn_120, lnn_282, lnn_1544, lnn_1547, lnn_1552, lnn_1554, rn_1_1, rn_1_2, rn_1_3, rn_1_4, rn_1_5, rn_1_6, rn_1_7, rn_1_8, rn_3_0, rn_15_0, rn_29_0, rn_37_0, rn_99_0, rn_111_0, rn_119_0, rn_1543_0, rn_1543_1, rn_1545_0, rn_1545_1, rn_0_0, rn_0_1, rn_0_3, rn_0_4, rn_0_5, rn_0_6, rn_0_7, rn_1546_0, rn_1551_0, rn_1551_3, rn_1553_0, rn_281_0, rr_4, rr_16, rr_30, rr_38, rr_100, rr_112, rr_120, rr_1547, rr_1554, kr_4, kr_16, kr_30, kr_38, kr_100, kr_112, kr_120, kr_1547, kr_1554, lr_4, lr_16, lr_30, lr_38, lr_100, lr_112, lr_120, lr_1547, lr_1554]
      exact h2 rfl
  · rw [if_neg c1] at h0 h1 h2 ⊢
    simp (disch := first | exact lt4 (hb _) | exact hb _ | omega) only [I_0, I_1, I_2, I_3, I_4, I_5, I_6, I_7, I_8, I_9, I_10, I_11, I_12, I_20, I_22, I_27, I_31, I_32, I_38, I_42, I_48, I_54, I_55, I_56, I_57, I_60, I_66, I_72, I_78, I_80, I_97, I_98, I_99, I_100, I_108, I_109, I_116, I_120, I_438, I_488, I_512, I_552, I_3864, oN_s, oN_n, bI_t, bI_f, Nat.add_zero, I_bt1, I_bt0, Nat.reduceLT, Nat.reduceLeDiff, Nat.reduceEqDiff, Nat.reduceAdd, Nat.reduceMul, Nat.reduceSub, tn_I, I_add, I_mul, I_div, vp_I, I_eq, I_le, I_lt, I_no, no_I, negI1, true_and, and_true, false_and, and_false, if_true, if_false, ite_true, ite_false, forall_eq, true_or, or_true, kn_0, kn_1, kn_2, kn_3, kn_4, kn_15, kn_16, kn_29, kn_30, kn_37, kn_38, kn_99, kn_100, kn_111, kn_112, kn_119, kn_120, kn_281, kn_282, kn_1543, kn_1544, kn_1545, kn_1546, kn_1547, kn_1551, kn_1552, kn_1553, kn_1554, lnn_2, lnn_4, lnn_16, lnn_30, lnn_38, lnn_100, lnn_112, lnn_120, lnn_282, lnn_1544, lnn_1547, lnn_1552, lnn_1554, rn_1_1, rn_1_2, rn_1_3, rn_1_4, rn_1_5, rn_1_6, rn_1_7, rn_1_8, rn_3_0, rn_15_0, rn_29_0, rn_37_0, rn_99_0, rn_111_0, rn_119_0, rn_1543_0, rn_1543_1, rn_1545_0, rn_1545_1, rn_0_0, rn_0_1, rn_0_3, rn_0_4, rn_0_5, rn_0_6, rn_0_7, rn_1546_0, rn_1551_0, rn_1551_3, rn_1553_0, rn_281_0, rr_4, rr_16, rr_30, rr_38, rr_100, rr_112, rr_120, rr_1547, rr_1554, kr_4, kr_16, kr_30, kr_38, kr_100, kr_112, kr_120, kr_1547, kr_1554, lr_4, lr_16, lr_30, lr_38, lr_100, lr_112, lr_120, lr_1547, lr_1554]
    exact h1 rfl
end Rk2

