/-! ===== THE CLASS's notices ===== -/
/-- the class's present state -/
def Cz (a : Nat → Nat) (M : Mem) : Prop := St 1 a M ∧ Wd 1 M
/-- what the class's present state and judge do not hold stays -/
def Ot (M M' : Mem) : Prop := M'.2 = M.2 ∧ ∀ j, ¬ (1 ≤ j ∧ j < 141) → j ≠ 1543 → j ≠ 1544 → M'.1 j = M.1 j
theorem Ot.rfl {M : Mem} : Ot M M := ⟨by trivial, fun _ _ _ _ => by trivial⟩
theorem Ot.trans {M M' M'' : Mem} (h : Ot M M') (h2 : Ot M' M'') : Ot M M'' := ⟨h2.1.trans h.1, fun j q1 q2 q3 => (h2.2 j q1 q2 q3).trans (h.2 j q1 q2 q3)⟩
theorem Ot.set {M : Mem} {i k : Nat} {v : Int32} (h : (1 ≤ i ∧ i < 141) ∨ i = 1543 ∨ i = 1544) : Ot M (mset M i k v) := ⟨by trivial, fun j q1 q2 q3 => mset_ne (by omega)⟩
theorem Tz.ot {t n : Nat} {M M' : Mem} (h : Tz t n M M') (ht : 1 ≤ t ∧ t + 2 + n ≤ 141) : Ot M M' := ⟨h.1, fun j q1 q2 q3 => h.2.2 j (by omega) (by omega)⟩
theorem Wd.set {b : Nat} {M : Mem} {i k : Nat} {v : Int32} (h : Wd b M) (hk : k ≠ 1 ∨ ∀ o, o = 2 ∨ o = 14 ∨ o = 28 ∨ o = 36 ∨ o = 98 ∨ o = 110 ∨ o = 118 → i ≠ b + o) : Wd b (mset M i k v) := by
  have key : ∀ o, (o = 2 ∨ o = 14 ∨ o = 28 ∨ o = 36 ∨ o = 98 ∨ o = 110 ∨ o = 118) → (mset M i k v).1 (b + o) 1 = M.1 (b + o) 1 := by
    intro o ho
    rcases hk with hk | hk
    · by_cases q : b + o = i
      · subst q; rw [mset_v, if_neg (fun q => hk q.symm)]
      · rw [mset_ne q]
    · rw [mset_ne (fun q => hk o ho q.symm)]
  obtain ⟨h1, h2, h3, h4, h5, h6, h7⟩ := h
  exact ⟨(key 2 (by omega)).trans h1, (key 14 (by omega)).trans h2, (key 28 (by omega)).trans h3, (key 36 (by omega)).trans h4, (key 98 (by omega)).trans h5, (key 110 (by omega)).trans h6, (key 118 (by omega)).trans h7⟩
theorem Wd.tz {b o n : Nat} {M M' : Mem} (h : Wd b M) (hz : Tz (b + o) n M M') (ho : (o = 2 ∧ n ≤ 10) ∨ (o = 14 ∧ n ≤ 12) ∨ (o = 28 ∧ n ≤ 6) ∨ (o = 36 ∧ n ≤ 60) ∨ (o = 98 ∧ n ≤ 10) ∨ (o = 110 ∧ n ≤ 6) ∨ (o = 118 ∧ n ≤ 20)) : Wd b M' := by
  have key : ∀ p, (p = 2 ∨ p = 14 ∨ p = 28 ∨ p = 36 ∨ p = 98 ∨ p = 110 ∨ p = 118) → M'.1 (b + p) 1 = M.1 (b + p) 1 := by
    intro p hp
    by_cases q : p = o
    · subst q; exact hz.2.1 1 (by decide)
    · rw [hz.2.2 (b + p) (by omega) (by omega)]
  obtain ⟨h1, h2, h3, h4, h5, h6, h7⟩ := h
  exact ⟨(key 2 (by omega)).trans h1, (key 14 (by omega)).trans h2, (key 28 (by omega)).trans h3, (key 36 (by omega)).trans h4, (key 98 (by omega)).trans h5, (key 110 (by omega)).trans h6, (key 118 (by omega)).trans h7⟩
section Nt2
variable {M : Mem} {a : Nat → Nat} {Q : Mem → Prop}
theorem k_note (hV : VA a) (hC : Cz a M) {v c : Nat} (h : ∀ M', Cz (nt a v c) M' → Ot M M' → Q M') : T_X3_addNotice Q 1 (I v) (I c) M := by
  have h7 := hV.2.1.2.2.2.2.2.2.2.1
  have hT : TB 119 20 2 := SB_t8 (b := 1) (Or.inl rfl)
  obtain ⟨hS, hW⟩ := hC
  have hn : M.1 119 2 = I (a 7) := hS.2.2.2.2.2.2.2.2.1
  have hr : ∀ i, i < a 7 → ∀ c, c < 2 → M.1 (119 + 2 + i) c = I (a (512 + 2 * i + c)) := hS.2.2.2.2.2.2.2.2.2
  have hw : M.1 119 1 = I 2 := hW.2.2.2.2.2.2
  have r1 : rf 1 8 = 119 := by decide
  unfold T_X3_addNotice T_X3_addNotice_18
  rw [r1]
  refine ⟨by decide, by decide, t_isFull hT hn h7 ?_⟩
  by_cases c7 : a 7 = 20
  · rw [c7, if_neg (by decide), I_0]
    refine t_removeRow hT hw (m := 20) (by decide) 0 (by rw [hn, c7]) (by decide) (fun M1 hz h2 hA hB => ?_)
    refine ⟨by decide, by decide, t_addRow hT h2 (by decide) ?_⟩
    have k1 : kd (119 + 2 + (20 - 1)) = 9 := by decide
    have k2 : ln (119 + 2 + (20 - 1)) = 2 := by decide
    rw [k1, k2, I_1, vp_I (by decide), vp_I (by decide), tn_I (by decide), tn_I (by decide)]
    refine ⟨rfl, by decide, ?_⟩
    rintro M7 rfl
    refine ⟨by decide, ?_⟩
    rintro M9 rfl
    refine h _ ⟨?_, ?_⟩ ?_
    · refine hS.up_n hV (fun i q1 q2 q3 => ?_) (fun k q1 q2 => ?_) ⟨?_, fun i hi c2 hc2 => ?_⟩
      · rw [mset_ne (by omega), mset_ne (by omega), mset_ne (by omega)]; exact hz.2.2 i (by omega) (by omega)
      · unfold nt; rw [if_pos c7, if_neg (by omega), if_neg (by omega), if_neg (by omega)]
      · have e : nt a v c 7 = 20 := by unfold nt; rw [if_pos c7, if_neg (by decide), if_neg (by decide), if_neg (by decide), c7]
        rw [e, mset_ne (by decide), mset_ne (by decide), mset_v, if_pos rfl]
      · have e : nt a v c 7 = 20 := by unfold nt; rw [if_pos c7, if_neg (by decide), if_neg (by decide), if_neg (by decide), c7]
        rw [e] at hi
        unfold nt
        rw [if_pos c7]
        by_cases q : i = 19
        · subst q
          rw [mset_v]
          by_cases q2 : c2 = 1
          · subst q2; rw [if_pos rfl, if_neg (by decide), if_pos rfl]
          · obtain rfl : c2 = 0 := by omega
            rw [if_neg (by decide), if_pos (by decide)]
            show (mset _ (119 + 2 + (20 - 1)) 0 (I v)).1 (119 + 2 + (20 - 1)) 0 = _
            rw [mset_v, if_pos rfl]
        · rw [mset_ne (by omega), mset_ne (by omega), mset_ne (by omega), if_neg (by omega), if_neg (by omega), if_pos (by omega), show 1 + 120 + i = 119 + 2 + i by omega, hB i c2 (Nat.zero_le _) (by omega) hc2, hr (i + 1) (by omega) c2 hc2, show 512 + 2 * (i + 1) + c2 = 512 + 2 * i + c2 + 2 by omega]
    · have w1 : Wd 1 M1 := hW.tz (o := 118) hz (by omega)
      exact ((w1.set (Or.inl (by decide))).set (Or.inl (by decide))).set (Or.inr (fun o ho => by omega))
    · exact ((((hz.ot (by decide)).trans (Ot.set (Or.inl (by decide)))).trans (Ot.set (Or.inl (by decide)))).trans (Ot.set (Or.inl (by decide))))
  · have e0 : (if a 7 < 20 then I 0 else I 1) = I 0 := if_pos (by omega)
    rw [e0, I_0, if_pos rfl]
    refine ⟨by decide, by decide, t_addRow hT hn (by omega) ?_⟩
    obtain ⟨-, -, -, -, -, -, t7⟩ := hT
    rw [(t7 (a 7) (by omega)).2.1, (t7 (a 7) (by omega)).2.2, I_1, vp_I (by decide), vp_I (by decide), tn_I (by decide), tn_I (by decide)]
    refine ⟨rfl, by decide, ?_⟩
    rintro M7 rfl
    refine ⟨by decide, ?_⟩
    rintro M9 rfl
    refine h _ ⟨?_, ?_⟩ ?_
    · refine hS.up_n hV (fun i q1 q2 q3 => ?_) (fun k q1 q2 => ?_) ⟨?_, fun i hi c2 hc2 => ?_⟩
      · rw [mset_ne (by omega), mset_ne (by omega), mset_ne (by omega)]
      · unfold nt; rw [if_neg c7, if_neg (by omega), if_neg (by omega), if_neg (by omega)]
      · have e : nt a v c 7 = a 7 + 1 := by unfold nt; rw [if_neg c7, if_pos rfl]
        rw [e, mset_ne (by omega), mset_ne (by omega), mset_v, if_pos rfl]
      · have e : nt a v c 7 = a 7 + 1 := by unfold nt; rw [if_neg c7, if_pos rfl]
        rw [e] at hi
        unfold nt
        rw [if_neg c7, if_neg (by omega), show 1 + 120 + i = 119 + 2 + i by omega]
        by_cases q : i = a 7
        · subst q
          rw [mset_v]
          by_cases q2 : c2 = 1
          · subst q2; rw [if_pos rfl, if_neg (by omega), if_pos (by omega)]
          · obtain rfl : c2 = 0 := by omega
            rw [if_neg (by decide), mset_v, if_pos rfl, if_pos (by omega)]
        · rw [mset_ne (by omega), mset_ne (by omega), mset_ne (by omega), if_neg (by omega), if_neg (by omega)]
          exact hr i (by omega) c2 hc2
    · exact ((hW.set (Or.inl (by decide))).set (Or.inl (by decide))).set (Or.inr (fun o ho => by omega))
    · exact (((Ot.set (Or.inl (by omega))).trans (Ot.set (Or.inl (by omega)))).trans (Ot.set (Or.inl (by omega))))
end Nt2

