/-! ===== THE CLASS's judge: rooms as sets ===== -/
theorem am_cg {key key2 : Nat → Nat} {p p2 : Nat → Bool} : ∀ {n : Nat}, (∀ x y, x < y → y < n → (key y < key x ↔ key2 y < key2 x)) → (∀ x, x < n → p x = p2 x) → am key p n = am key2 p2 n
  | 0, _, _ => rfl
  | n + 1, h, hp => by
    unfold am
    rw [am_cg (n := n) (key2 := key2) (p2 := p2) (fun x y h1 h2 => h x y h1 (by omega)) (fun x hx => hp x (by omega)), hp n (by omega)]
    cases e : am key2 p2 n with
    | none => rfl
    | some b =>
      have hb := (am_s e).1
      dsimp only
      have e9 := h b n hb (by omega)
      by_cases c : p2 n = true ∧ key2 n < key2 b
      · rw [if_pos c, if_pos ⟨c.1, e9.mpr c.2⟩]
      · rw [if_neg c, if_neg (fun z => c ⟨z.1, e9.mp z.2⟩)]
section Jd2
variable {M : Mem} {a : Nat → Nat} {g w : Nat → Int32} {Q : Int32 → Mem → Prop}
/-- distance and seats -/
def kR (a : Nat → Nat) (i r : Nat) : Nat := ad (a (12 + i)) (a (54 + r)) * 4 + a (60 + r)
theorem kR_lt (hV : VA a) {i r : Nat} (hi : i < a 1) (hr : r < a 3) : kR a i r < 100 := by
  have h1 := (hV.2.2.1 i hi).1
  have h2 := hV.2.2.2.2.1 r hr
  unfold kR ad; omega
theorem ad_c (x y : Nat) : ad x y = ad y x := by unfold ad; omega
theorem kR_key (hV : VA a) {i : Nat} : ∀ x y, x < y → y < a 3 → (kR a i y < kR a i x ↔ keyR a i y < keyR a i x) := fun x y h1 h2 => by
  have h3 := hV.2.1.2.2.2.1
  unfold keyR
  rw [ad_c (a (54 + y)), ad_c (a (54 + x))]
  show _ ↔ kR a i y * 6 + y < kR a i x * 6 + x
  omega
def oM (key : Nat → Nat) : Option Nat → Int32
  | none => 2147483647
  | some b => I (key b)
theorem MAXI : (2147483647 : Int32) = I 2147483647 := rfl
theorem k_fr_l (hV : VA a) (hS : St 1 a M) {i s : Nat} (hi : i < a 1) (hs : s < 2147483648) (h : Q (oN (am (kR a i) (fun r => s.testBit r) (a 3))) M) : ∀ m k, k + m = a 3 → T_X3_firstRoom_9 Q (m + 1) 1 (I i) (I s) (oN (am (kR a i) (fun r => s.testBit r) k)) (oM (kR a i) (am (kR a i) (fun r => s.testBit r) k)) (I k) M := by
  have hb := hV.1
  have h3 := hV.2.1.2.2.2.1
  intro m
  induction m with
  | zero =>
    intro k hk
    obtain rfl : k = a 3 := by omega
    unfold T_X3_firstRoom_9
    simp (disch := first | exact lt4 (hb _) | exact hb _ | omega) only [I_0, I_1, I_2, I_3, I_4, I_5, I_6, I_7, I_8, I_9, I_10, I_11, I_12, I_20, I_22, I_27, I_31, I_32, I_38, I_42, I_48, I_54, I_55, I_56, I_57, I_60, I_66, I_72, I_78, I_80, I_97, I_98, I_99, I_100, I_108, I_109, I_116, I_120, I_438, I_488, I_512, I_552, I_3864, oN_s, oN_n, bI_t, bI_f, Nat.add_zero, I_bt1, I_bt0, Nat.reduceLT, Nat.reduceLeDiff, Nat.reduceEqDiff, Nat.reduceAdd, Nat.reduceMul, Nat.reduceSub, tn_I, I_add, I_mul, I_div, vp_I, I_eq, I_le, I_lt, I_no, no_I, negI1, true_and, and_true, false_and, and_false, if_true, if_false, ite_true, ite_false, forall_eq, true_or, or_true, kn_0, kn_1, kn_2, kn_3, kn_4, kn_15, kn_16, kn_29, kn_30, kn_37, kn_38, kn_99, kn_100, kn_111, kn_112, kn_119, kn_120, kn_281, kn_282, kn_1543, kn_1544, kn_1545, kn_1546, kn_1547, kn_1551, kn_1552, kn_1553, kn_1554, lnn_2, lnn_4, lnn_16, lnn_30, lnn_38, lnn_100, lnn_112, lnn_120, lnn_282, lnn_1544, lnn_1547, lnn_1552, lnn_1554, rn_1_1, rn_1_2, rn_1_3, rn_1_4, rn_1_5, rn_1_6, rn_1_7, rn_1_8, rn_3_0, rn_15_0, rn_29_0, rn_37_0, rn_99_0, rn_111_0, rn_119_0, rn_1543_0, rn_1543_1, rn_1545_0, rn_1545_1, rn_0_0, rn_0_1, rn_0_3, rn_0_4, rn_0_5, rn_0_6, rn_0_7, rn_1546_0, rn_1551_0, rn_1551_3, rn_1553_0, rn_281_0, rr_4, rr_16, rr_30, rr_38, rr_100, rr_112, rr_120, rr_1547, rr_1554, kr_4, kr_16, kr_30, kr_38, kr_100, kr_112, kr_120, kr_1547, kr_1554, lr_4, lr_16, lr_30, lr_38, lr_100, lr_112, lr_120, lr_1547, lr_1554, s_d hS, s_q hS, s_ni hS, s_nk hS, s_nr hS, s_nv hS, s_nb hS, s_nw hS, s_nn hS, s_i0 hS, s_i1 hS, s_i2 hS, s_k hS, s_r0 hS, s_r1 hS, s_r2 hS, s_r3 hS, s_v0 hS, s_v1 hS, s_v2 hS, s_v3 hS, s_v4 hS, s_v5 hS, s_b0 hS, s_b1 hS, s_b2 hS, s_b3 hS, s_b4 hS, s_w0 hS, s_w1 hS, s_w2 hS, s_w3 hS, s_n0 hS, s_n1 hS, Nat.le_refl]
    exact h
  | succ m ih =>
    intro k hk
    have h9 := ih (k + 1) (by omega)
    have hk1 := kR_lt hV hi (show k < a 3 by omega)
    unfold T_X3_firstRoom_9 T_X3_firstRoom_68
    have hadl : ad (a (12 + i)) (a (54 + k)) * 4 + a (60 + k) < 100 := hk1
    rw [show am (kR a i) (fun r => s.testBit r) (k + 1) = (match am (kR a i) (fun r => s.testBit r) k with | none => if s.testBit k = true then some k else none | some b => if s.testBit k = true ∧ kR a i k < kR a i b then some k else some b) from rfl] at h9
    simp (disch := first | exact lt4 (hb _) | exact hb _ | omega) only [I_0, I_1, I_2, I_3, I_4, I_5, I_6, I_7, I_8, I_9, I_10, I_11, I_12, I_20, I_22, I_27, I_31, I_32, I_38, I_42, I_48, I_54, I_55, I_56, I_57, I_60, I_66, I_72, I_78, I_80, I_97, I_98, I_99, I_100, I_108, I_109, I_116, I_120, I_438, I_488, I_512, I_552, I_3864, oN_s, oN_n, bI_t, bI_f, Nat.add_zero, I_bt1, I_bt0, Nat.reduceLT, Nat.reduceLeDiff, Nat.reduceEqDiff, Nat.reduceAdd, Nat.reduceMul, Nat.reduceSub, tn_I, I_add, I_mul, I_div, vp_I, I_eq, I_le, I_lt, I_no, no_I, negI1, true_and, and_true, false_and, and_false, if_true, if_false, ite_true, ite_false, forall_eq, true_or, or_true, kn_0, kn_1, kn_2, kn_3, kn_4, kn_15, kn_16, kn_29, kn_30, kn_37, kn_38, kn_99, kn_100, kn_111, kn_112, kn_119, kn_120, kn_281, kn_282, kn_1543, kn_1544, kn_1545, kn_1546, kn_1547, kn_1551, kn_1552, kn_1553, kn_1554, lnn_2, lnn_4, lnn_16, lnn_30, lnn_38, lnn_100, lnn_112, lnn_120, lnn_282, lnn_1544, lnn_1547, lnn_1552, lnn_1554, rn_1_1, rn_1_2, rn_1_3, rn_1_4, rn_1_5, rn_1_6, rn_1_7, rn_1_8, rn_3_0, rn_15_0, rn_29_0, rn_37_0, rn_99_0, rn_111_0, rn_119_0, rn_1543_0, rn_1543_1, rn_1545_0, rn_1545_1, rn_0_0, rn_0_1, rn_0_3, rn_0_4, rn_0_5, rn_0_6, rn_0_7, rn_1546_0, rn_1551_0, rn_1551_3, rn_1553_0, rn_281_0, rr_4, rr_16, rr_30, rr_38, rr_100, rr_112, rr_120, rr_1547, rr_1554, kr_4, kr_16, kr_30, kr_38, kr_100, kr_112, kr_120, kr_1547, kr_1554, lr_4, lr_16, lr_30, lr_38, lr_100, lr_112, lr_120, lr_1547, lr_1554, s_d hS, s_q hS, s_ni hS, s_nk hS, s_nr hS, s_nv hS, s_nb hS, s_nw hS, s_nn hS, s_i0 hS, s_i1 hS, s_i2 hS, s_k hS, s_r0 hS, s_r1 hS, s_r2 hS, s_r3 hS, s_v0 hS, s_v1 hS, s_v2 hS, s_v3 hS, s_v4 hS, s_v5 hS, s_b0 hS, s_b1 hS, s_b2 hS, s_b3 hS, s_b4 hS, s_w0 hS, s_w1 hS, s_w2 hS, s_w3 hS, s_n0 hS, s_n1 hS, show ¬ a 3 ≤ k by omega, k_dist hV hS hi (show k < a 3 by omega), show k < 6 by omega, I_ubit hs (show k < 31 by omega)]
    by_cases c1 : s.testBit k = false
    · rw [if_pos c1]
      have c2 : ¬ s.testBit k = true := by rw [c1]; decide
      cases e : am (kR a i) (fun r => s.testBit r) k with
      | none =>
        rw [e] at h9; dsimp only at h9; rw [if_neg c2] at h9; exact h9
      | some b =>
        rw [e] at h9; dsimp only at h9; rw [if_neg (fun z => c2 z.1)] at h9; exact h9
    · rw [if_neg c1]
      have c2 : s.testBit k = true := by simpa using c1
      cases e : am (kR a i) (fun r => s.testBit r) k with
      | none =>
        rw [e] at h9; dsimp only at h9; rw [if_pos c2] at h9
        have n1 : ¬ oM (kR a i) none ≤ I (ad (a (12 + i)) (a (54 + k)) * 4 + a (60 + k)) := by
          show ¬ (2147483647 : Int32) ≤ _
          rw [MAXI, I_le (by omega) (by omega)]; omega
        rw [if_neg n1]
        exact h9
      | some b =>
        rw [e] at h9; dsimp only at h9
        have hbn := (am_s e).1
        have hk2 := kR_lt hV hi (show b < a 3 by omega)
        by_cases c3 : kR a i b ≤ ad (a (12 + i)) (a (54 + k)) * 4 + a (60 + k)
        · have n1 : oM (kR a i) (some b) ≤ I (ad (a (12 + i)) (a (54 + k)) * 4 + a (60 + k)) := by
            show I (kR a i b) ≤ _
            rw [I_le (by omega) (by omega)]; exact c3
          rw [if_pos n1]
          rw [if_neg (fun z => by have := z.2; unfold kR at this c3; omega)] at h9
          exact h9
        · have n1 : ¬ oM (kR a i) (some b) ≤ I (ad (a (12 + i)) (a (54 + k)) * 4 + a (60 + k)) := by
            show ¬ I (kR a i b) ≤ _
            rw [I_le (by omega) (by omega)]; exact c3
          rw [if_neg n1]
          rw [if_pos ⟨c2, by unfold kR at c3 ⊢; omega⟩] at h9
          exact h9
/-- the first room of a set -/
theorem k_fr (hV : VA a) (hS : St 1 a M) {i s : Nat} (hi : i < a 1) (hs : s < 2147483648) (h : Q (oN (am (keyR a i) (fun r => s.testBit r) (a 3))) M) : T_X3_firstRoom Q 1 (I i) (I s) M := by
  rw [← am_cg (key := kR a i) (p := fun r => s.testBit r) (kR_key hV) (fun _ _ => rfl)] at h
  unfold T_X3_firstRoom
  rw [I_0, I_1]
  exact ⟨a 3 + 1, k_fr_l hV hS hi hs h (a 3) 0 (by omega)⟩
/-- rooms of a kind as a set -/
def rset (a : Nat → Nat) (p : Nat → Bool) : Nat := ors (fun r => if p r = true then 2 ^ r else 0) (a 3)
theorem rset_bit {p : Nat → Bool} {r : Nat} : (rset a p).testBit r = (decide (r < a 3) && p r) := by
  unfold rset
  rw [ors_bit]
  by_cases h : r < a 3 ∧ p r = true
  · rw [decide_eq_true h.1, h.2]
    refine anyB_t.mpr ⟨r, h.1, ?_⟩
    rw [if_pos h.2]
    simp
  · have : (decide (r < a 3) && p r) = false := by
      cases q : p r
      · simp
      · simp only [Bool.and_true]; exact decide_eq_false (fun z => h ⟨z, q⟩)
    rw [this]
    refine anyB_f.mpr (fun k hk => ?_)
    by_cases c : p k = true
    · rw [if_pos c, Nat.testBit_two_pow]
      refine decide_eq_false (fun e => h ?_)
      subst e; exact ⟨hk, c⟩
    · rw [if_neg c]; simp
theorem rset_lt (hV : VA a) (p : Nat → Bool) : rset a p < 64 := by
  have h3 := hV.2.1.2.2.2.1
  have : rset a p < 2 ^ 6 := ors_lt (fun k hk => by
    split
    · exact Nat.pow_lt_pow_right (by decide) (by omega)
    · decide)
  exact this
theorem k_gl_l (hV : VA a) (hS : St 1 a M) {s : Nat} (hs : s < 4096) (h : Q (I (rset a (fun r => decide (a (66 + r) = 1)) &&& s)) (jm M g w)) : ∀ m k, k + m = a 3 → T_X2_glassRooms_4 Q (m + 1) 1543 (I s) (I (ors (fun r => if decide (a (66 + r) = 1) = true then 2 ^ r else 0) k)) (I k) (jm M g w) := by
  have hb := hV.1
  have h3 := hV.2.1.2.2.2.1
  have hS := jm_St hV hS g w
  intro m
  induction m with
  | zero =>
    intro k hk
    obtain rfl : k = a 3 := by omega
    unfold T_X2_glassRooms_4
    simp (disch := first | exact lt4 (hb _) | exact hb _ | omega) only [I_0, I_1, I_2, I_3, I_4, I_5, I_6, I_7, I_8, I_9, I_10, I_11, I_12, I_20, I_22, I_27, I_31, I_32, I_38, I_42, I_48, I_54, I_55, I_56, I_57, I_60, I_66, I_72, I_78, I_80, I_97, I_98, I_99, I_100, I_108, I_109, I_116, I_120, I_438, I_488, I_512, I_552, I_3864, oN_s, oN_n, bI_t, bI_f, Nat.add_zero, I_bt1, I_bt0, Nat.reduceLT, Nat.reduceLeDiff, Nat.reduceEqDiff, Nat.reduceAdd, Nat.reduceMul, Nat.reduceSub, tn_I, I_add, I_mul, I_div, vp_I, I_eq, I_le, I_lt, I_no, no_I, negI1, true_and, and_true, false_and, and_false, if_true, if_false, ite_true, ite_false, forall_eq, true_or, or_true, kn_0, kn_1, kn_2, kn_3, kn_4, kn_15, kn_16, kn_29, kn_30, kn_37, kn_38, kn_99, kn_100, kn_111, kn_112, kn_119, kn_120, kn_281, kn_282, kn_1543, kn_1544, kn_1545, kn_1546, kn_1547, kn_1551, kn_1552, kn_1553, kn_1554, lnn_2, lnn_4, lnn_16, lnn_30, lnn_38, lnn_100, lnn_112, lnn_120, lnn_282, lnn_1544, lnn_1547, lnn_1552, lnn_1554, rn_1_1, rn_1_2, rn_1_3, rn_1_4, rn_1_5, rn_1_6, rn_1_7, rn_1_8, rn_3_0, rn_15_0, rn_29_0, rn_37_0, rn_99_0, rn_111_0, rn_119_0, rn_1543_0, rn_1543_1, rn_1545_0, rn_1545_1, rn_0_0, rn_0_1, rn_0_3, rn_0_4, rn_0_5, rn_0_6, rn_0_7, rn_1546_0, rn_1551_0, rn_1551_3, rn_1553_0, rn_281_0, rr_4, rr_16, rr_30, rr_38, rr_100, rr_112, rr_120, rr_1547, rr_1554, kr_4, kr_16, kr_30, kr_38, kr_100, kr_112, kr_120, kr_1547, kr_1554, lr_4, lr_16, lr_30, lr_38, lr_100, lr_112, lr_120, lr_1547, lr_1554, s_d hS, s_q hS, s_ni hS, s_nk hS, s_nr hS, s_nv hS, s_nb hS, s_nw hS, s_nn hS, s_i0 hS, s_i1 hS, s_i2 hS, s_k hS, s_r0 hS, s_r1 hS, s_r2 hS, s_r3 hS, s_v0 hS, s_v1 hS, s_v2 hS, s_v3 hS, s_v4 hS, s_v5 hS, s_b0 hS, s_b1 hS, s_b2 hS, s_b3 hS, s_b4 hS, s_w0 hS, s_w1 hS, s_w2 hS, s_w3 hS, s_n0 hS, s_n1 hS, Nat.le_refl, I_and]
    exact h
  | succ m ih =>
    intro k hk
    have h9 := ih (k + 1) (by omega)
    rw [ors_s] at h9
    unfold T_X2_glassRooms_4 T_X2_glassRooms_42
    by_cases c : a (66 + k) = 1
    · rw [if_pos (decide_eq_true c)] at h9
      simp (disch := first | exact lt4 (hb _) | exact hb _ | omega) only [I_0, I_1, I_2, I_3, I_4, I_5, I_6, I_7, I_8, I_9, I_10, I_11, I_12, I_20, I_22, I_27, I_31, I_32, I_38, I_42, I_48, I_54, I_55, I_56, I_57, I_60, I_66, I_72, I_78, I_80, I_97, I_98, I_99, I_100, I_108, I_109, I_116, I_120, I_438, I_488, I_512, I_552, I_3864, oN_s, oN_n, bI_t, bI_f, Nat.add_zero, I_bt1, I_bt0, Nat.reduceLT, Nat.reduceLeDiff, Nat.reduceEqDiff, Nat.reduceAdd, Nat.reduceMul, Nat.reduceSub, tn_I, I_add, I_mul, I_div, vp_I, I_eq, I_le, I_lt, I_no, no_I, negI1, true_and, and_true, false_and, and_false, if_true, if_false, ite_true, ite_false, forall_eq, true_or, or_true, kn_0, kn_1, kn_2, kn_3, kn_4, kn_15, kn_16, kn_29, kn_30, kn_37, kn_38, kn_99, kn_100, kn_111, kn_112, kn_119, kn_120, kn_281, kn_282, kn_1543, kn_1544, kn_1545, kn_1546, kn_1547, kn_1551, kn_1552, kn_1553, kn_1554, lnn_2, lnn_4, lnn_16, lnn_30, lnn_38, lnn_100, lnn_112, lnn_120, lnn_282, lnn_1544, lnn_1547, lnn_1552, lnn_1554, rn_1_1, rn_1_2, rn_1_3, rn_1_4, rn_1_5, rn_1_6, rn_1_7, rn_1_8, rn_3_0, rn_15_0, rn_29_0, rn_37_0, rn_99_0, rn_111_0, rn_119_0, rn_1543_0, rn_1543_1, rn_1545_0, rn_1545_1, rn_0_0, rn_0_1, rn_0_3, rn_0_4, rn_0_5, rn_0_6, rn_0_7, rn_1546_0, rn_1551_0, rn_1551_3, rn_1553_0, rn_281_0, rr_4, rr_16, rr_30, rr_38, rr_100, rr_112, rr_120, rr_1547, rr_1554, kr_4, kr_16, kr_30, kr_38, kr_100, kr_112, kr_120, kr_1547, kr_1554, lr_4, lr_16, lr_30, lr_38, lr_100, lr_112, lr_120, lr_1547, lr_1554, s_d hS, s_q hS, s_ni hS, s_nk hS, s_nr hS, s_nv hS, s_nb hS, s_nw hS, s_nn hS, s_i0 hS, s_i1 hS, s_i2 hS, s_k hS, s_r0 hS, s_r1 hS, s_r2 hS, s_r3 hS, s_v0 hS, s_v1 hS, s_v2 hS, s_v3 hS, s_v4 hS, s_v5 hS, s_b0 hS, s_b1 hS, s_b2 hS, s_b3 hS, s_b4 hS, s_w0 hS, s_w1 hS, s_w2 hS, s_w3 hS, s_n0 hS, s_n1 hS, show ¬ a 3 ≤ k by omega, show k < 6 by omega, c, I_shl (show k < 31 by omega), I_or]
      exact h9
    · rw [if_neg (by simpa using c), Nat.or_zero] at h9
      simp (disch := first | exact lt4 (hb _) | exact hb _ | omega) only [I_0, I_1, I_2, I_3, I_4, I_5, I_6, I_7, I_8, I_9, I_10, I_11, I_12, I_20, I_22, I_27, I_31, I_32, I_38, I_42, I_48, I_54, I_55, I_56, I_57, I_60, I_66, I_72, I_78, I_80, I_97, I_98, I_99, I_100, I_108, I_109, I_116, I_120, I_438, I_488, I_512, I_552, I_3864, oN_s, oN_n, bI_t, bI_f, Nat.add_zero, I_bt1, I_bt0, Nat.reduceLT, Nat.reduceLeDiff, Nat.reduceEqDiff, Nat.reduceAdd, Nat.reduceMul, Nat.reduceSub, tn_I, I_add, I_mul, I_div, vp_I, I_eq, I_le, I_lt, I_no, no_I, negI1, true_and, and_true, false_and, and_false, if_true, if_false, ite_true, ite_false, forall_eq, true_or, or_true, kn_0, kn_1, kn_2, kn_3, kn_4, kn_15, kn_16, kn_29, kn_30, kn_37, kn_38, kn_99, kn_100, kn_111, kn_112, kn_119, kn_120, kn_281, kn_282, kn_1543, kn_1544, kn_1545, kn_1546, kn_1547, kn_1551, kn_1552, kn_1553, kn_1554, lnn_2, lnn_4, lnn_16, lnn_30, lnn_38, lnn_100, lnn_112, lnn_120, lnn_282, lnn_1544, lnn_1547, lnn_1552, lnn_1554, rn_1_1, rn_1_2, rn_1_3, rn_1_4, rn_1_5, rn_1_6, rn_1_7, rn_1_8, rn_3_0, rn_15_0, rn_29_0, rn_37_0, rn_99_0, rn_111_0, rn_119_0, rn_1543_0, rn_1543_1, rn_1545_0, rn_1545_1, rn_0_0, rn_0_1, rn_0_3, rn_0_4, rn_0_5, rn_0_6, rn_0_7, rn_1546_0, rn_1551_0, rn_1551_3, rn_1553_0, rn_281_0, rr_4, rr_16, rr_30, rr_38, rr_100, rr_112, rr_120, rr_1547, rr_1554, kr_4, kr_16, kr_30, kr_38, kr_100, kr_112, kr_120, kr_1547, kr_1554, lr_4, lr_16, lr_30, lr_38, lr_100, lr_112, lr_120, lr_1547, lr_1554, s_d hS, s_q hS, s_ni hS, s_nk hS, s_nr hS, s_nv hS, s_nb hS, s_nw hS, s_nn hS, s_i0 hS, s_i1 hS, s_i2 hS, s_k hS, s_r0 hS, s_r1 hS, s_r2 hS, s_r3 hS, s_v0 hS, s_v1 hS, s_v2 hS, s_v3 hS, s_v4 hS, s_v5 hS, s_b0 hS, s_b1 hS, s_b2 hS, s_b3 hS, s_b4 hS, s_w0 hS, s_w1 hS, s_w2 hS, s_w3 hS, s_n0 hS, s_n1 hS, show ¬ a 3 ≤ k by omega, show k < 6 by omega, c]
      exact h9
theorem k_gl (hV : VA a) (hS : St 1 a M) {s : Nat} (hs : s < 4096) (h : Q (I (rset a (fun r => decide (a (66 + r) = 1)) &&& s)) (jm M g w)) : T_X2_glassRooms Q 1543 (I s) (jm M g w) := by
  unfold T_X2_glassRooms
  rw [I_0]
  exact ⟨a 3 + 1, k_gl_l hV hS hs h (a 3) 0 (by omega)⟩
theorem k_free_l (hV : VA a) (hS : St 1 a M) {u : Nat} (hu : u < 4096) (hg : g 3 = I u) (h : Q (I (rset a (fun r => decide (a (72 + r) = 1)) ^^^ (rset a (fun r => decide (a (72 + r) = 1)) &&& u))) (jm M g w)) : ∀ m k, k + m = a 3 → T_X2_freeRooms_4 Q (m + 1) 1543 (I (ors (fun r => if decide (a (72 + r) = 1) = true then 2 ^ r else 0) k)) (I k) (jm M g w) := by
  have hb := hV.1
  have h3 := hV.2.1.2.2.2.1
  have hr9 := rset_lt hV (fun r => decide (a (72 + r) = 1))
  have hS := jm_St hV hS g w
  intro m
  induction m with
  | zero =>
    intro k hk
    obtain rfl : k = a 3 := by omega
    have hr8 : ors (fun r => if decide (a (72 + r) = 1) = true then 2 ^ r else 0) (a 3) < 64 := hr9
    unfold T_X2_freeRooms_4
    simp (disch := first | exact lt4 (hb _) | exact hb _ | omega) only [I_0, I_1, I_2, I_3, I_4, I_5, I_6, I_7, I_8, I_9, I_10, I_11, I_12, I_20, I_22, I_27, I_31, I_32, I_38, I_42, I_48, I_54, I_55, I_56, I_57, I_60, I_66, I_72, I_78, I_80, I_97, I_98, I_99, I_100, I_108, I_109, I_116, I_120, I_438, I_488, I_512, I_552, I_3864, oN_s, oN_n, bI_t, bI_f, Nat.add_zero, I_bt1, I_bt0, Nat.reduceLT, Nat.reduceLeDiff, Nat.reduceEqDiff, Nat.reduceAdd, Nat.reduceMul, Nat.reduceSub, tn_I, I_add, I_mul, I_div, vp_I, I_eq, I_le, I_lt, I_no, no_I, negI1, true_and, and_true, false_and, and_false, if_true, if_false, ite_true, ite_false, forall_eq, true_or, or_true, kn_0, kn_1, kn_2, kn_3, kn_4, kn_15, kn_16, kn_29, kn_30, kn_37, kn_38, kn_99, kn_100, kn_111, kn_112, kn_119, kn_120, kn_281, kn_282, kn_1543, kn_1544, kn_1545, kn_1546, kn_1547, kn_1551, kn_1552, kn_1553, kn_1554, lnn_2, lnn_4, lnn_16, lnn_30, lnn_38, lnn_100, lnn_112, lnn_120, lnn_282, lnn_1544, lnn_1547, lnn_1552, lnn_1554, rn_1_1, rn_1_2, rn_1_3, rn_1_4, rn_1_5, rn_1_6, rn_1_7, rn_1_8, rn_3_0, rn_15_0, rn_29_0, rn_37_0, rn_99_0, rn_111_0, rn_119_0, rn_1543_0, rn_1543_1, rn_1545_0, rn_1545_1, rn_0_0, rn_0_1, rn_0_3, rn_0_4, rn_0_5, rn_0_6, rn_0_7, rn_1546_0, rn_1551_0, rn_1551_3, rn_1553_0, rn_281_0, rr_4, rr_16, rr_30, rr_38, rr_100, rr_112, rr_120, rr_1547, rr_1554, kr_4, kr_16, kr_30, kr_38, kr_100, kr_112, kr_120, kr_1547, kr_1554, lr_4, lr_16, lr_30, lr_38, lr_100, lr_112, lr_120, lr_1547, lr_1554, s_d hS, s_q hS, s_ni hS, s_nk hS, s_nr hS, s_nv hS, s_nb hS, s_nw hS, s_nn hS, s_i0 hS, s_i1 hS, s_i2 hS, s_k hS, s_r0 hS, s_r1 hS, s_r2 hS, s_r3 hS, s_v0 hS, s_v1 hS, s_v2 hS, s_v3 hS, s_v4 hS, s_v5 hS, s_b0 hS, s_b1 hS, s_b2 hS, s_b3 hS, s_b4 hS, s_w0 hS, s_w1 hS, s_w2 hS, s_w3 hS, s_n0 hS, s_n1 hS, Nat.le_refl, jm_g, hg]
    rw [I_dif (by omega) (by omega)]
    exact h
  | succ m ih =>
    intro k hk
    have h9 := ih (k + 1) (by omega)
    rw [ors_s] at h9
    unfold T_X2_freeRooms_4 T_X2_freeRooms_42
    by_cases c : a (72 + k) = 1
    · rw [if_pos (decide_eq_true c)] at h9
      simp (disch := first | exact lt4 (hb _) | exact hb _ | omega) only [I_0, I_1, I_2, I_3, I_4, I_5, I_6, I_7, I_8, I_9, I_10, I_11, I_12, I_20, I_22, I_27, I_31, I_32, I_38, I_42, I_48, I_54, I_55, I_56, I_57, I_60, I_66, I_72, I_78, I_80, I_97, I_98, I_99, I_100, I_108, I_109, I_116, I_120, I_438, I_488, I_512, I_552, I_3864, oN_s, oN_n, bI_t, bI_f, Nat.add_zero, I_bt1, I_bt0, Nat.reduceLT, Nat.reduceLeDiff, Nat.reduceEqDiff, Nat.reduceAdd, Nat.reduceMul, Nat.reduceSub, tn_I, I_add, I_mul, I_div, vp_I, I_eq, I_le, I_lt, I_no, no_I, negI1, true_and, and_true, false_and, and_false, if_true, if_false, ite_true, ite_false, forall_eq, true_or, or_true, kn_0, kn_1, kn_2, kn_3, kn_4, kn_15, kn_16, kn_29, kn_30, kn_37, kn_38, kn_99, kn_100, kn_111, kn_112, kn_119, kn_120, kn_281, kn_282, kn_1543, kn_1544, kn_1545, kn_1546, kn_1547, kn_1551, kn_1552, kn_1553, kn_1554, lnn_2, lnn_4, lnn_16, lnn_30, lnn_38, lnn_100, lnn_112, lnn_120, lnn_282, lnn_1544, lnn_1547, lnn_1552, lnn_1554, rn_1_1, rn_1_2, rn_1_3, rn_1_4, rn_1_5, rn_1_6, rn_1_7, rn_1_8, rn_3_0, rn_15_0, rn_29_0, rn_37_0, rn_99_0, rn_111_0, rn_119_0, rn_1543_0, rn_1543_1, rn_1545_0, rn_1545_1, rn_0_0, rn_0_1, rn_0_3, rn_0_4, rn_0_5, rn_0_6, rn_0_7, rn_1546_0, rn_1551_0, rn_1551_3, rn_1553_0, rn_281_0, rr_4, rr_16, rr_30, rr_38, rr_100, rr_112, rr_120, rr_1547, rr_1554, kr_4, kr_16, kr_30, kr_38, kr_100, kr_112, kr_120, kr_1547, kr_1554, lr_4, lr_16, lr_30, lr_38, lr_100, lr_112, lr_120, lr_1547, lr_1554, s_d hS, s_q hS, s_ni hS, s_nk hS, s_nr hS, s_nv hS, s_nb hS, s_nw hS, s_nn hS, s_i0 hS, s_i1 hS, s_i2 hS, s_k hS, s_r0 hS, s_r1 hS, s_r2 hS, s_r3 hS, s_v0 hS, s_v1 hS, s_v2 hS, s_v3 hS, s_v4 hS, s_v5 hS, s_b0 hS, s_b1 hS, s_b2 hS, s_b3 hS, s_b4 hS, s_w0 hS, s_w1 hS, s_w2 hS, s_w3 hS, s_n0 hS, s_n1 hS, show ¬ a 3 ≤ k by omega, show k < 6 by omega, c, I_shl (show k < 31 by omega), I_or]
      exact h9
    · rw [if_neg (by simpa using c), Nat.or_zero] at h9
      simp (disch := first | exact lt4 (hb _) | exact hb _ | omega) only [I_0, I_1, I_2, I_3, I_4, I_5, I_6, I_7, I_8, I_9, I_10, I_11, I_12, I_20, I_22, I_27, I_31, I_32, I_38, I_42, I_48, I_54, I_55, I_56, I_57, I_60, I_66, I_72, I_78, I_80, I_97, I_98, I_99, I_100, I_108, I_109, I_116, I_120, I_438, I_488, I_512, I_552, I_3864, oN_s, oN_n, bI_t, bI_f, Nat.add_zero, I_bt1, I_bt0, Nat.reduceLT, Nat.reduceLeDiff, Nat.reduceEqDiff, Nat.reduceAdd, Nat.reduceMul, Nat.reduceSub, tn_I, I_add, I_mul, I_div, vp_I, I_eq, I_le, I_lt, I_no, no_I, negI1, true_and, and_true, false_and, and_false, if_true, if_false, ite_true, ite_false, forall_eq, true_or, or_true, kn_0, kn_1, kn_2, kn_3, kn_4, kn_15, kn_16, kn_29, kn_30, kn_37, kn_38, kn_99, kn_100, kn_111, kn_112, kn_119, kn_120, kn_281, kn_282, kn_1543, kn_1544, kn_1545, kn_1546, kn_1547, kn_1551, kn_1552, kn_1553, kn_1554, lnn_2, lnn_4, lnn_16, lnn_30, lnn_38, lnn_100, lnn_112, lnn_120, lnn_282, lnn_1544, lnn_1547, lnn_1552, lnn_1554, rn_1_1, rn_1_2, rn_1_3, rn_1_4, rn_1_5, rn_1_6, rn_1_7, rn_1_8, rn_3_0, rn_15_0, rn_29_0, rn_37_0, rn_99_0, rn_111_0, rn_119_0, rn_1543_0, rn_1543_1, rn_1545_0, rn_1545_1, rn_0_0, rn_0_1, rn_0_3, rn_0_4, rn_0_5, rn_0_6, rn_0_7, rn_1546_0, rn_1551_0, rn_1551_3, rn_1553_0, rn_281_0, rr_4, rr_16, rr_30, rr_38, rr_100, rr_112, rr_120, rr_1547, rr_1554, kr_4, kr_16, kr_30, kr_38, kr_100, kr_112, kr_120, kr_1547, kr_1554, lr_4, lr_16, lr_30, lr_38, lr_100, lr_112, lr_120, lr_1547, lr_1554, s_d hS, s_q hS, s_ni hS, s_nk hS, s_nr hS, s_nv hS, s_nb hS, s_nw hS, s_nn hS, s_i0 hS, s_i1 hS, s_i2 hS, s_k hS, s_r0 hS, s_r1 hS, s_r2 hS, s_r3 hS, s_v0 hS, s_v1 hS, s_v2 hS, s_v3 hS, s_v4 hS, s_v5 hS, s_b0 hS, s_b1 hS, s_b2 hS, s_b3 hS, s_b4 hS, s_w0 hS, s_w1 hS, s_w2 hS, s_w3 hS, s_n0 hS, s_n1 hS, show ¬ a 3 ≤ k by omega, show k < 6 by omega, c]
      exact h9
theorem k_free (hV : VA a) (hS : St 1 a M) {u : Nat} (hu : u < 4096) (hg : g 3 = I u) (h : Q (I (rset a (fun r => decide (a (72 + r) = 1)) ^^^ (rset a (fun r => decide (a (72 + r) = 1)) &&& u))) (jm M g w)) : T_X2_freeRooms Q 1543 (jm M g w) := by
  unfold T_X2_freeRooms
  rw [I_0]
  exact ⟨a 3 + 1, k_free_l hV hS hu hg h (a 3) 0 (by omega)⟩
end Jd2

