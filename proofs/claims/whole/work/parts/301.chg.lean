/-! ===== CALLS THAT CHANGE: begin, fail, keep ===== -/
section Cg1
variable {M M' M1 : Mem} {a a' : Nat → Nat} {f f' : Nat → Int32} {kp : Nat} {h : Nat → Nat → Nat} {o : Oth}
def EF (f' f : Nat → Int32) : Prop := f' 5 = f 5 ∧ f' 6 = f 6 ∧ f' 8 = f 8 ∧ f' 11 = f 11
theorem EF.rfl {f : Nat → Int32} : EF f f := ⟨by trivial, by trivial, by trivial, by trivial⟩
theorem EF.upd (e : EF f' f) {k : Nat} {v : Int32} (h5 : 5 ≠ k) (h6 : 6 ≠ k) (h8 : 8 ≠ k) (h11 : 11 ≠ k) : EF (updI f' k v) f := ⟨(updI_n h5).trans e.1, (updI_n h6).trans e.2.1, (updI_n h8).trans e.2.2.1, (updI_n h11).trans e.2.2.2⟩
theorem EF.trans {f'' : Nat → Int32} (e : EF f' f) (e2 : EF f'' f') : EF f'' f := ⟨e2.1.trans e.1, e2.2.1.trans e.2.1, e2.2.2.1.trans e.2.2.1, e2.2.2.2.trans e.2.2.2⟩
theorem EF.of (e : ∀ j, j ≠ 12 → j ≠ 13 → j ≠ 14 → f' j = f j) : EF f' f := ⟨e 5 (by decide) (by decide) (by decide), e 6 (by decide) (by decide) (by decide), e 8 (by decide) (by decide) (by decide), e 11 (by decide) (by decide) (by decide)⟩
theorem EF.of2 (e : ∀ j, j ≠ 12 → f' j = f j) : EF f' f := EF.of (fun j j1 _ _ => e j j1)
theorem EF.of3 (e : ∀ j, j ≠ 13 → j ≠ 14 → f' j = f j) : EF f' f := EF.of (fun j _ j1 j2 => e j j1 j2)
theorem R_begin {K : Mem → Prop} (hG : GI a kp h o) (hR : RI a kp h o M) (hq : ∀ M1, Ro 1585 M M1 → (∀ k, k < 552 → M1.1 1585 k = I (a k)) → K (mm M1 a (updI (M.1 1582) 0 (I 0)))) : (kd 1582 = 7) ∧ ∀ M2, M2 = mset M 1582 0 0 → T_X7_remembers K 1582 M2 := by
  refine ⟨by decide, ?_⟩
  intro M2 hM2
  have e : M2 = mm M a (updI (M.1 1582) 0 (I 0)) := by
    rw [hM2]
    conv => lhs; rw [RI_mm hR]
    exact mm_mf 0 (I 0)
  rw [e]
  exact m_rem hG.1.1.1 hq
theorem R_begin0 {K : Mem → Prop} (hG : GI a kp h o) (hR : RI a kp h o M) (hq : ∀ M1, Ro 1585 M M1 → (∀ k, k < 552 → M1.1 1585 k = I (a k)) → K (mm M1 a (M.1 1582))) : T_X7_remembers K 1582 M := by
  rw [RI_mm hR]
  exact m_rem hG.1.1.1 hq
theorem R_fail (hR : RI a kp h o M) (hB : Ro 1585 M M1) (e : EF f' (M.1 1582)) : RI a kp h o (mm M1 a f') := by
  refine ⟨rfl, hR.2.1.fr (by rw [o_1586, hB.2 1586 (by decide)]) e.1, hR.2.2.fr (by rw [o_1584, hB.2 1584 (by decide)]) (by rw [o_1587, hB.2 1587 (by decide)]) (by rw [o_1588, hB.2 1588 (by decide)]) (by rw [o_1589, hB.2 1589 (by decide)]) e.2.1 e.2.2.1 e.2.2.2⟩
theorem R_fr (hB : Ro 1585 M M1) : FrR M (mm M1 a' f') := ⟨hB.1, fun i hi => (mm_o (by omega) (by omega)).trans (hB.2 i (by omega))⟩
theorem R_keep {Q : Mem → Prop} (hR : RI a kp h o M) (hB : Ro 1585 M M1) (hF : ∀ k, k < 552 → M1.1 1585 k = I (a k)) (e : EF f' (M.1 1582))
    (hq : ∀ M', RI a' (pkn kp) (phh kp h a) o M' → FrR M M' → M'.1 1583 = (fun k => I (a' k)) → (∀ j, j ≠ 5 → M'.1 1582 j = f' j) → Q M') : T_X7_keeps Q 1582 (mm M1 a' f') := by
  have hH : HR kp h M1 f' := hR.2.1.fr (hB.2 1586 (by decide)) e.1
  refine m_keeps hH hF (fun M2 f2 hR2 hH2 hf2 => ?_)
  refine hq _ ⟨rfl, hH2.fr o_1586 rfl, hR.2.2.fr (by rw [o_1584, hR2.2 1584 (by decide), hB.2 1584 (by decide)]) (by rw [o_1587, hR2.2 1587 (by decide), hB.2 1587 (by decide)]) (by rw [o_1588, hR2.2 1588 (by decide), hB.2 1588 (by decide)]) (by rw [o_1589, hR2.2 1589 (by decide), hB.2 1589 (by decide)]) ?_ ?_ ?_⟩ ⟨hR2.1.trans hB.1, fun i hi => (mm_o (by omega) (by omega)).trans ((hR2.2 i (by omega)).trans (hB.2 i (by omega)))⟩ rfl (fun j hj => hf2 j hj)
  · exact (hf2 6 (by decide)).trans e.2.1
  · exact (hf2 8 (by decide)).trans e.2.2.1
  · exact (hf2 11 (by decide)).trans e.2.2.2
theorem phh_all {P : (Nat → Nat) → Prop} (hk : kp ≤ 8) (hh : ∀ j, j < kp → P (h j)) (ha : P a) : ∀ j, j < pkn kp → P (phh kp h a j) := by
  intro j hj
  unfold pkn at hj
  unfold phh
  by_cases c : kp = 8
  · rw [if_pos c] at hj ⊢
    by_cases c7 : j = 7
    · rw [if_pos c7]; exact ha
    · rw [if_neg c7]; exact hh (j + 1) (by omega)
  · rw [if_neg c] at hj ⊢
    by_cases cj : j = kp
    · rw [if_pos cj]; exact ha
    · rw [if_neg cj]; exact hh j (by omega)
theorem GI.push (hG : GI a kp h o) (hk : kp ≤ 8) (hA : GS a') : GI a' (pkn kp) (phh kp h a) o := ⟨hA, phh_all hk hG.2.1 hG.1, hG.2.2⟩
theorem K_keep {Q : Mem → Prop} (hG : GI a kp h o) (hC : CI a kp h o M) (hq : ∀ M', CI a (pkn kp) (phh kp h a) o M' → FrC M M' → GI a (pkn kp) (phh kp h a) o → M'.1 1543 = M.1 1543 → Q M') : T_X1_keep Q 281 1 M := by
  obtain ⟨c1, ⟨sp, c2⟩, c3⟩ := hC
  refine k_keep hG.1.1 c1.1 c2 (fun j hj => (hG.2.1 j hj).1) (fun M' q1 q2 => ?_)
  refine hq M' ⟨q1.cz c1 hG.1.1, ⟨_, q2⟩, c3.fr (fun s hs => (hG.2.2.1 s hs).1) hG.2.2.2.2 (q1.2 0 (by decide) (by omega)) (fun i i1 i2 => q1.2 i (by omega) (by omega)) (fun i i1 i2 => q1.2 i (by omega) (by omega))⟩ (fun i hi => q1.2 i (by omega) (by omega)) (hG.push c2.1 hG.1) (q1.2 1543 (by decide) (by omega))
theorem FrC.trans {M2 : Mem} (e : FrC M M') (e2 : FrC M' M2) : FrC M M2 := fun i hi => (e2 i hi).trans (e i hi)
end Cg1

