/-! ===== A VISIT IS ENTERED, A VISIT'S STATE IS SET ===== -/
def adv (a : Nat → Nat) (i s d t r k : Nat) : Nat := if k = 4 then a 4 + 1 else if k = 78 + 6 * a 4 then i else if k = 78 + 6 * a 4 + 1 then s else if k = 78 + 6 * a 4 + 2 then d else if k = 78 + 6 * a 4 + 3 then t else if k = 78 + 6 * a 4 + 4 then r else if k = 78 + 6 * a 4 + 5 then 0 else a k
theorem adv_lo {a : Nat → Nat} {i s d t r k : Nat} (h : k < 78 + 6 * a 4) (h4 : k ≠ 4) : adv a i s d t r k = a k := by
  unfold adv
  rw [if_neg h4, if_neg (by omega), if_neg (by omega), if_neg (by omega), if_neg (by omega), if_neg (by omega), if_neg (by omega)]
theorem adv_hi {a : Nat → Nat} {i s d t r k : Nat} (h : 78 + 6 * a 4 + 6 ≤ k) : adv a i s d t r k = a k := by
  unfold adv
  rw [if_neg (by omega), if_neg (by omega), if_neg (by omega), if_neg (by omega), if_neg (by omega), if_neg (by omega), if_neg (by omega)]
theorem adv_4 {a : Nat → Nat} {i s d t r : Nat} : adv a i s d t r 4 = a 4 + 1 := if_pos rfl
theorem adv_c {a : Nat → Nat} {i s d t r : Nat} : adv a i s d t r (78 + 6 * a 4) = i ∧ adv a i s d t r (78 + 6 * a 4 + 1) = s ∧ adv a i s d t r (78 + 6 * a 4 + 2) = d ∧ adv a i s d t r (78 + 6 * a 4 + 3) = t ∧ adv a i s d t r (78 + 6 * a 4 + 4) = r ∧ adv a i s d t r (78 + 6 * a 4 + 5) = 0 := by
  unfold adv
  refine ⟨?_, ?_, ?_, ?_, ?_, ?_⟩
  · rw [if_neg (by omega), if_pos rfl]
  · rw [if_neg (by omega), if_neg (by omega), if_pos rfl]
  · rw [if_neg (by omega), if_neg (by omega), if_neg (by omega), if_pos rfl]
  · rw [if_neg (by omega), if_neg (by omega), if_neg (by omega), if_neg (by omega), if_pos rfl]
  · rw [if_neg (by omega), if_neg (by omega), if_neg (by omega), if_neg (by omega), if_neg (by omega), if_pos rfl]
  · rw [if_neg (by omega), if_neg (by omega), if_neg (by omega), if_neg (by omega), if_neg (by omega), if_neg (by omega), if_pos rfl]
theorem adv_u {a : Nat → Nat} {i s d t r : Nat} : updN (updN (updN (updN (updN (updN (updN a (78 + 6 * a 4) i) (78 + 6 * a 4 + 1) s) (78 + 6 * a 4 + 2) d) (78 + 6 * a 4 + 3) t) (78 + 6 * a 4 + 4) r) (78 + 6 * a 4 + 5) 0) 4 (a 4 + 1) = adv a i s d t r := by
  funext k
  by_cases q : k = 4
  · subst q; rw [updN_s, adv_4]
  · rw [updN_n q]
    have hc := adv_c (a := a) (i := i) (s := s) (d := d) (t := t) (r := r)
    by_cases q5 : k = 78 + 6 * a 4 + 5
    · subst q5; rw [updN_s, hc.2.2.2.2.2]
    · rw [updN_n q5]
      by_cases q4 : k = 78 + 6 * a 4 + 4
      · subst q4; rw [updN_s, hc.2.2.2.2.1]
      · rw [updN_n q4]
        by_cases q3 : k = 78 + 6 * a 4 + 3
        · subst q3; rw [updN_s, hc.2.2.2.1]
        · rw [updN_n q3]
          by_cases q2 : k = 78 + 6 * a 4 + 2
          · subst q2; rw [updN_s, hc.2.2.1]
          · rw [updN_n q2]
            by_cases q1 : k = 78 + 6 * a 4 + 1
            · subst q1; rw [updN_s, hc.2.1]
            · rw [updN_n q1]
              by_cases q0 : k = 78 + 6 * a 4
              · subst q0; rw [updN_s, hc.1]
              · rw [updN_n q0]
                unfold adv
                rw [if_neg q, if_neg q0, if_neg q1, if_neg q2, if_neg q3, if_neg q4, if_neg q5]
section Ad1
variable {M : Mem} {a : Nat → Nat} {f : Nat → Int32}
theorem m_adds {Q : Int32 → Mem → Prop} (hb : ∀ k, a k < 4096) (h4 : a 4 < 60) {i s d t r : Nat} (h : Q (I (a 4)) (mm M (adv a i s d t r) f)) : T_X7_adds Q 1582 (I i) (I s) (I d) (I t) (I r) (mm M a f) := by
  have hn : ∀ (x : Nat → Nat) (k v : Nat), k ≠ 4 → updN x k v 4 = x 4 := fun x k v hk => updN_n (fun q => hk q.symm)
  have hz : ∀ (x : Nat → Nat) (v : Nat), updN x 4 v 4 = v := fun x v => updN_s
  unfold T_X7_adds
  simp (disch := first | exact lt4 (hb _) | exact hb _ | omega) only [I_0, I_1, I_2, I_3, I_4, I_5, I_6, I_7, I_8, I_9, I_10, I_11, I_12, I_20, I_22, I_27, I_31, I_32, I_38, I_42, I_48, I_54, I_55, I_56, I_57, I_60, I_66, I_72, I_78, I_80, I_97, I_98, I_99, I_100, I_108, I_109, I_116, I_120, I_438, I_488, I_512, I_552, I_3864, oN_s, oN_n, bI_t, bI_f, Nat.add_zero, I_bt1, I_bt0, Nat.reduceLT, Nat.reduceLeDiff, Nat.reduceEqDiff, Nat.reduceAdd, Nat.reduceMul, Nat.reduceSub, tn_I, I_add, I_mul, I_div, vp_I, I_eq, I_le, I_lt, I_no, no_I, negI1, kd7, rf71, kdS, lnS, mm_sa, mm_fa, mm_ms, mm_mf, true_and, and_true, false_and, and_false, if_true, if_false, ite_true, ite_false, forall_eq, true_or, or_true, I_sub, hn, hz, Nat.add_sub_cancel, show 78 + 6 * a 4 < 552 by omega, show 78 + 6 * a 4 + 1 < 552 by omega, show 78 + 6 * a 4 + 2 < 552 by omega, show 78 + 6 * a 4 + 3 < 552 by omega, show 78 + 6 * a 4 + 4 < 552 by omega, show 78 + 6 * a 4 + 5 < 552 by omega]
  rw [adv_u]
  exact h
theorem m_setState {Q : Mem → Prop} (hb : ∀ k, a k < 4096) {v : Nat} (hv : v < 60) {x : Nat} : T_X7_setState Q 1582 (I v) (I x) (mm M a f) = Q (mm M (updN a (78 + 6 * v + 5) x) f) := by
  unfold T_X7_setState
  simp (disch := first | exact lt4 (hb _) | exact hb _ | omega) only [I_0, I_1, I_2, I_3, I_4, I_5, I_6, I_7, I_8, I_9, I_10, I_11, I_12, I_20, I_22, I_27, I_31, I_32, I_38, I_42, I_48, I_54, I_55, I_56, I_57, I_60, I_66, I_72, I_78, I_80, I_97, I_98, I_99, I_100, I_108, I_109, I_116, I_120, I_438, I_488, I_512, I_552, I_3864, oN_s, oN_n, bI_t, bI_f, Nat.add_zero, I_bt1, I_bt0, Nat.reduceLT, Nat.reduceLeDiff, Nat.reduceEqDiff, Nat.reduceAdd, Nat.reduceMul, Nat.reduceSub, tn_I, I_add, I_mul, I_div, vp_I, I_eq, I_le, I_lt, I_no, no_I, negI1, kd7, rf71, kdS, lnS, mm_sa, mm_fa, mm_ms, mm_mf, true_and, and_true, false_and, and_false, if_true, if_false, ite_true, ite_false, forall_eq, true_or, or_true, show 78 + 6 * v + 5 < 552 by omega]
theorem updN_lt (hb : ∀ k, a k < 4096) {k x : Nat} (hx : x < 4096) : ∀ j, updN a k x j < 4096 := fun j => by
  unfold updN
  split
  · exact hx
  · exact hb j
/-- visit v is cancelled, for the reason c -/
def cnl (a : Nat → Nat) (v c : Nat) : Nat → Nat := nt (updN a (78 + 6 * v + 5) 2) v c
theorem m_cancels {Q : Mem → Prop} (hb : ∀ k, a k < 4096) (h7 : a 7 ≤ 20) {v c : Nat} (hv : v < 60) (h : Q (mm M (cnl a v c) (updI f 12 (f 12 + 1)))) : T_X7_cancels Q 1582 (I v) (I c) (mm M a f) := by
  unfold T_X7_cancels
  rw [I_2, m_setState hb hv]
  exact ⟨by decide, m_notes (updN_lt hb (by decide)) (by rw [updN_n (by omega)]; exact h7) h⟩
/-- the class enters a visit -/
theorem k_enter {Q : Int32 → Mem → Prop} (hV : VA a) (hC : Cz a M) (h4 : a 4 < 60) {i s d t r : Nat} (hd : d < 4096) (ht : t < 4) (hr : M.1 1543 6 = I r)
    (h : ∀ M', Cz (adv a i s d t r) M' → Ot M M' → Q (I (a 4)) M') : T_X0_enterVisit Q 1545 (I i) (I s) (I (4 * d + t)) M := by
  have hT : TB 37 60 6 := SB_t5 (b := 1) (Or.inl rfl)
  obtain ⟨hS, hW⟩ := hC
  have hn : M.1 37 2 = I (a 4) := hS.2.2.2.2.2.1.1
  have hrw : ∀ i, i < a 4 → ∀ c, c < 6 → M.1 (37 + 2 + i) c = I (a (78 + 6 * i + c)) := hS.2.2.2.2.2.1.2
  have r1 : rf 1 5 = 37 := by decide
  have r2 : rf 1545 0 = 1 := by decide
  have r3 : rf 1545 1 = 1543 := by decide
  unfold T_X0_enterVisit
  rw [r2, r3, r1]
  refine ⟨by decide, by decide, by decide, t_addRow hT hn h4 ?_⟩
  have hT' := hT
  obtain ⟨-, -, -, -, -, -, t7⟩ := hT'
  have e1 : I (4 * d + t) / 4 = I d := by rw [I_4, I_div (by omega) (by omega), show (4 * d + t) / 4 = d by omega]
  have e2 : I (4 * d + t) - I d * 4 = I t := by rw [I_4, I_mul, I_sub (by omega), show 4 * d + t - d * 4 = t by omega]
  rw [(t7 (a 4) h4).2.1, (t7 (a 4) h4).2.2, e1, e2, I_0, I_1, I_2, I_3, I_4, I_5, vp_I (by decide), vp_I (by decide), vp_I (by decide), vp_I (by decide), vp_I (by decide), vp_I (by decide), tn_I (by decide), tn_I (by decide), tn_I (by decide), tn_I (by decide), tn_I (by decide), tn_I (by decide)]
  refine ⟨rfl, by decide, ?_⟩
  rintro M8 rfl
  refine ⟨by decide, ?_⟩
  rintro M10 rfl
  refine ⟨by decide, ?_⟩
  rintro M12 rfl
  refine ⟨by decide, ?_⟩
  rintro M14 rfl
  refine ⟨by decide, by decide, ?_⟩
  rintro M17 rfl
  refine ⟨by decide, ?_⟩
  rintro M19 rfl
  have h4r : a 4 + 39 ≤ 99 := by omega
  rw [mset_ne (i := 37 + 2 + a 4) (j := 1543) (by omega), mset_ne (i := 37 + 2 + a 4) (j := 1543) (by omega), mset_ne (i := 37 + 2 + a 4) (j := 1543) (by omega), mset_ne (i := 37 + 2 + a 4) (j := 1543) (by omega), mset_ne (i := 37) (j := 1543) (by omega), hr]
  generalize hM : mset (mset (mset (mset (mset (mset (mset M 37 2 (I (a 4 + 1))) (37 + 2 + a 4) 0 (I i)) (37 + 2 + a 4) 1 (I s)) (37 + 2 + a 4) 2 (I d)) (37 + 2 + a 4) 3 (I t)) (37 + 2 + a 4) 4 (I r)) (37 + 2 + a 4) 5 (I 0) = M'
  have c2 : M'.1 37 2 = I (a 4 + 1) := by subst hM; rw [mset_ne (by omega), mset_ne (by omega), mset_ne (by omega), mset_ne (by omega), mset_ne (by omega), mset_ne (by omega), mset_v, if_pos rfl]
  rw [c2, I_sub (by omega), show a 4 + 1 - 1 = a 4 by omega]
  have hc := adv_c (a := a) (i := i) (s := s) (d := d) (t := t) (r := r)
  refine h M' ⟨?_, ?_⟩ ?_
  · refine hS.up_v hV (fun j q1 q2 q3 => ?_) (fun k q1 q2 => ?_) ⟨?_, fun j hj c hc2 => ?_⟩
    · subst hM; rw [mset_ne (by omega), mset_ne (by omega), mset_ne (by omega), mset_ne (by omega), mset_ne (by omega), mset_ne (by omega), mset_ne (by omega)]
    · by_cases z : k < 78 + 6 * a 4
      · exact adv_lo z (by omega)
      · exact adv_hi (by omega)
    · rw [adv_4]; exact c2
    · rw [adv_4] at hj
      rw [show 1 + 38 + j = 37 + 2 + j by omega]
      by_cases q : j = a 4
      · subst q
        subst hM
        rw [mset_v, mset_v, mset_v, mset_v, mset_v, mset_v]
        by_cases z5 : c = 5
        · subst z5; rw [if_pos rfl, hc.2.2.2.2.2]
        · rw [if_neg z5]
          by_cases z4 : c = 4
          · subst z4; rw [if_pos rfl, hc.2.2.2.2.1]
          · rw [if_neg z4]
            by_cases z3 : c = 3
            · subst z3; rw [if_pos rfl, hc.2.2.2.1]
            · rw [if_neg z3]
              by_cases z2 : c = 2
              · subst z2; rw [if_pos rfl, hc.2.2.1]
              · rw [if_neg z2]
                by_cases z1 : c = 1
                · subst z1; rw [if_pos rfl, hc.2.1]
                · obtain rfl : c = 0 := by omega
                  rw [if_neg z1, if_pos rfl, Nat.add_zero, hc.1]
      · rw [adv_lo (by omega) (by omega), ← hrw j (by omega) c hc2]
        subst hM
        rw [mset_ne (by omega), mset_ne (by omega), mset_ne (by omega), mset_ne (by omega), mset_ne (by omega), mset_ne (by omega), mset_ne (by omega)]
  · subst hM
    exact ((((((hW.set (Or.inl (by decide))).set (Or.inr (fun o ho => by omega))).set (Or.inr (fun o ho => by omega))).set (Or.inr (fun o ho => by omega))).set (Or.inr (fun o ho => by omega))).set (Or.inr (fun o ho => by omega))).set (Or.inr (fun o ho => by omega))
  · subst hM
    exact ((((((Ot.set (Or.inl (by omega))).trans (Ot.set (Or.inl (by omega)))).trans (Ot.set (Or.inl (by omega)))).trans (Ot.set (Or.inl (by omega)))).trans (Ot.set (Or.inl (by omega)))).trans (Ot.set (Or.inl (by omega)))).trans (Ot.set (Or.inl (by omega)))
end Ad1

