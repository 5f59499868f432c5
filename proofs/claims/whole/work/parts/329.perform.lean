/-! ===== PERFORM: the class ===== -/
section Pg2
variable {M M' M1 : Mem} {a a' : Nat → Nat} {kp : Nat} {h : Nat → Nat → Nat} {o : Oth} {Q : Int32 → Mem → Prop} {X : String → Mem → Prop}
theorem CC.or2 {j : Nat} {x : CTt} (w : CC j x M) (e : Or2 M M') : CC j x M' := by
  have e1 : M'.1 (1555 + j) = M.1 (1555 + j) := e.2 (1555 + j) (by omega) (by omega) (by omega) (by omega)
  unfold CC
  rw [e1]
  exact w
theorem k_pf {cm : Nat → CTt} (hx : ∀ j, xOK (cm j)) : ∀ (m k : Nat) (a : Nat → Nat) (M : Mem), GS a → Cz a M → k + m ≤ 27 → (∀ j, j < k + m → CC j (cm j) M) →
    ((prf cm m k a).1 = 0 → ∀ M', Cz (prf cm m k a).2.1 M' → Ot M M' → T_X1_keepDraft (fun M3 => Q (I (k + m)) M3) 281 M') →
    ((prf cm m k a).1 = 1 → ∀ M', Cz (prf cm m k a).2.1 M' → Ot M M' → T_X1_returnToDraft (fun M9 => X "java/lang/UnsupportedOperationException" M9) 281 1 M') →
    ((prf cm m k a).1 = 2 → ∀ M', Cz (prf cm m k a).2.1 M' → Or2 M M' → RW (rpX (prf cm m k a).2.2 (prf cm m k a).2.1 (cm (prf cm m k a).2.2)) M' → T_X1_returnToDraft (fun M9 => X "java/lang/UnsupportedOperationException" M9) 281 1 M') →
    T_X6_perform_49 Q X (m + 1) 0 (I (k + m)) (I k) M
  | 0, k, a, M, hG, hC, hk, hw, h0, h1, h2 => by
    unfold T_X6_perform_49
    rw [if_pos (by rw [I_le (by omega) (by omega)]; omega), rn_0_3]
    exact ⟨kn_0, kn_281, h0 rfl M hC Ot.rfl⟩
  | m + 1, k, a, M, hG, hC, hk, hw, h0, h1, h2 => by
    have ep : prf cm (m + 1) k a = if st0 a (cm k) = 0 then prf cm m (k + 1) (nxd a (cm k)) else (st0 a (cm k), a, k) := rfl
    unfold T_X6_perform_49
    rw [if_neg (by rw [I_le (by omega) (by omega)]; omega), rn_0_3, rn_0_0]
    refine ⟨kn_0, k_carry (show k < 27 by omega) (hx k) hG hC (hw k (by omega)) (fun e M2 q1 q2 => ?_) (fun e => ?_) (fun e M2 q1 q2 q3 => ?_)⟩
    · rw [if_pos e] at ep
      rw [ep] at h0 h1 h2
      rw [if_neg (by decide)]
      rintro x7 rfl
      rw [I_1, I_add]
      have e2 : k + 1 + m = k + (m + 1) := by omega
      rw [← e2] at h0 ⊢
      exact k_pf hx m (k + 1) _ M2 (nxd_GS hG (hx k) e) q1 (by omega) (fun j hj => (hw j (by omega)).or2 (Or2.of q2)) (fun c M3 z1 z2 => h0 c M3 z1 (q2.trans z2)) (fun c M3 z1 z2 => h1 c M3 z1 (q2.trans z2)) (fun c M3 z1 z2 z3 => h2 c M3 z1 ((Or2.of q2).trans z2) z3)
    · rw [if_neg (by omega), e] at ep
      rw [ep] at h1
      rw [if_pos (show I 0 = 0 from rfl)]
      exact ⟨kn_281, h1 rfl M hC Ot.rfl⟩
    · rw [if_neg (by omega), e] at ep
      rw [ep] at h2
      rw [if_pos (show I 0 = 0 from rfl)]
      exact ⟨kn_281, h2 rfl M2 q1 q2 q3⟩
theorem K_perform (hG : GI a kp h o) (hC : CI a kp h o M)
    (hs : (tx o).1 = false → ∀ M', CI a kp h (emp o) M' → FrC M M' → Q ((-100) - I (tx o).2) M')
    (h0 : (tx o).1 = true → (pfo a o).1 = 0 → ∀ M', CI (pfo a o).2.1 (pkn kp) (phh kp h a) (emp o) M' → FrC M M' → Q (I (tx o).2) M')
    (h1 : (tx o).1 = true → (pfo a o).1 = 1 → ∀ M', CI (ctn 552 a (pfo a o).2.1) kp h (emp o) M' → FrC M M' → X "java/lang/UnsupportedOperationException" M')
    (h2 : (tx o).1 = true → (pfo a o).1 = 2 → ∀ M', CI (ctn 552 a (pfo a o).2.1) kp h (o.1, (0, o.2.1.2), rpo a o) M' → FrC M M' → X "java/lang/UnsupportedOperationException" M') : T_X6_perform Q X 0 M := by
  have hb := tx_b hG
  have hV := hG.1.1
  have hn := hG.2.2.2.1.1
  have hg := pfo_GS hG
  obtain ⟨c1, ⟨sp, c2⟩, c3⟩ := hC
  have hh : ∀ j, j < kp → VA (h j) := fun j hj => (hG.2.1 j hj).1
  unfold T_X6_perform
  rw [rn_0_7]
  refine ⟨kn_0, kn_1551, ?_⟩
  have hU : UC o.2.1.1 (tu o) M := ⟨hn, c3.2.1.1, fun k hk => by rw [c3.2.1.2 k hk]; exact tu_I hG hk⟩
  refine k_find hU (fun M1 f1 t1 => ?_)
  have t1' : (tx o).1 = true → M1.1 1553 2 = I (tx o).2 ∧ ∀ j, j < (tx o).2 → CC j (tcm o j) M1 := t1
  unfold T_X5_empty
  refine ⟨kn_1551, ?_⟩
  rintro M2 rfl
  rw [rn_0_3, rn_0_0, rn_1551_3]
  show if tva (tx o) = NO then _ else Q ((-100) - tva (tx o)) _
  have e2 : ∀ i, i < 1551 ∨ i = 1552 ∨ 1582 ≤ i → (mset M1 1551 1 0).1 i = M.1 i := fun i hi => by rw [mset_ne (by omega)]; exact f1.2.1 i (by omega) (by omega)
  have e5 : (mset M1 1551 1 0).1 1551 1 = I 0 := by rw [mset_v, if_pos rfl]; rfl
  have t2 : (tx o).1 = true → (mset M1 1551 1 0).1 1553 2 = I (tx o).2 ∧ ∀ j, j < (tx o).2 → CC j (tcm o j) (mset M1 1551 1 0) := fun c => by
    refine ⟨by rw [mset_ne (by decide)]; exact (t1' c).1, fun j hj => ?_⟩
    have := (t1' c).2 j hj
    unfold CC
    rw [mset_ne (show 1555 + j ≠ 1551 by omega)]
    exact this
  generalize mset M1 1551 1 0 = M2 at e2 e5 t2 ⊢
  have c3' := c3.1.2
  -- the parts that stay
  have cx : ∀ (M3 : Mem) (r : Nat × (Nat → Int32) × (Nat → Int32)), M3.1 0 = M.1 0 → (∀ i, 141 ≤ i → i < 281 → M3.1 i = M.1 i) → M3.1 1551 1 = I 0 → RW r M3 → CX (o.1, (0, o.2.1.2), r) M3 := by
    intro M3 r s1 s2 s3 s4
    refine ⟨⟨c3.1.1.fr (fun i i1 i2 => by rw [s2 i i1 (by omega)]), ?_⟩, ⟨s3, fun k hk => absurd hk (Nat.not_lt_zero _)⟩, s4⟩
    show match o.1 with | none => M3.1 0 2 = I 0 | some s => M3.1 0 2 = I 1 ∧ St 141 s M3
    cases hz : o.1 with
    | none => rw [hz] at c3'; show M3.1 0 2 = _; rw [s1]; exact c3'
    | some s => rw [hz] at c3'; exact ⟨by rw [s1]; exact c3'.1, c3'.2.fr (fun i i1 i2 => s2 i i1 (by omega)) (hG.2.2.1 s hz).1⟩
  have rw0 : ∀ M3 : Mem, (∀ i, 1546 ≤ i → i < 1551 → M3.1 i = M.1 i) → RW o.2.2 M3 := fun M3 s => ⟨by rw [s 1546 (by decide) (by decide)]; exact c3.2.2.1, fun k hk => by have := hG.2.2.2.2; rw [s (1548 + k) (by omega) (by omega)]; exact c3.2.2.2 k hk⟩
  have hC2 : Cz a M2 := c1.fr hV (fun i i1 i2 => e2 i (Or.inl (by omega)))
  have hH2 : HC kp sp h M2 := c2.fr hh (fun i i1 i2 => e2 i (Or.inl (by omega)))
  unfold tva
  by_cases c : (tx o).1 = true
  · obtain ⟨t22, tw⟩ := t2 c
    have hc := hb.1 c
    rw [if_pos c, if_pos rfl]
    refine ⟨kn_281, k_draft hV hC2.1 hH2 hh (fun M3 g1 g2 g3 g4 => ?_)⟩
    refine ⟨kn_1553, ?_⟩
    rintro x9 rfl
    have e3 : ∀ i, i ≠ 281 → ¬ (283 ≤ i ∧ i < 1543) → M3.1 i = M2.1 i := g1.2
    rw [e3 1553 (by decide) (by decide), t22]
    have hC3 : Cz a M3 := g1.cz hC2 hV
    have tw3 : ∀ j, j < (tx o).2 → CC j (tcm o j) M3 := fun j hj => by
      have := tw j hj
      unfold CC
      rw [e3 (1555 + j) (by omega) (by omega)]
      exact this
    -- the desk is brought back
    have back : ∀ (r : Nat × (Nat → Int32) × (Nat → Int32)) (M4 : Mem), Cz (pfo a o).2.1 M4 → Or2 M3 M4 → RW r M4 → (∀ M5, CI (ctn 552 a (pfo a o).2.1) kp h (o.1, (0, o.2.1.2), r) M5 → FrC M M5 → X "java/lang/UnsupportedOperationException" M5) → T_X1_returnToDraft (fun M9 => X "java/lang/UnsupportedOperationException" M9) 281 1 M4 := by
      intro r M4 q1 q2 q3 q4
      have hH4 : HC kp sp h M4 := g3.fr hh (fun i i1 i2 => q2.2 i (by omega) (by omega) (by omega) (by omega))
      have hD4 : St (283 + 140 * sp) a M4 := g4.fr (fun i i1 i2 => q2.2 i (by have := g3.2.1; omega) (by have := g3.2.1; omega) (by have := g3.2.1; omega) (by have := g3.2.1; omega)) hV
      refine k_return q1.2 hH4 hh hD4 hV (fun M5 z1 z2 => ?_)
      have e5' : ∀ i, ¬ (1 ≤ i ∧ i < 141) → i ≠ 1543 → i ≠ 1544 → ¬ (1546 ≤ i ∧ i < 1551) → i ≠ 281 → ¬ (283 ≤ i ∧ i < 1543) → M5.1 i = M2.1 i := fun i i1 i2 i3 i4 i5 i6 => (z1.2 i i1).trans ((q2.2 i i1 i2 i3 i4).trans (e3 i i5 i6))
      refine q4 M5 ⟨Cz_cg z2 hV (fun k hk => ctn_lt hk), ⟨sp, hH4.fr hh (fun i i1 i2 => z1.2 i (by omega))⟩, cx M5 r ?_ (fun i i1 i2 => ?_) ?_ ⟨?_, fun k hk => ?_⟩⟩ (fun i hi => ?_)
      · rw [e5' 0 (by decide) (by decide) (by decide) (by decide) (by decide) (by decide)]; exact e2 0 (by decide)
      · rw [e5' i (by omega) (by omega) (by omega) (by omega) (by omega) (by omega)]; exact e2 i (Or.inl (by omega))
      · rw [e5' 1551 (by decide) (by decide) (by decide) (by decide) (by decide) (by decide)]; exact e5
      · rw [z1.2 1546 (by decide)]; exact q3.1
      · rw [z1.2 (1548 + k) (by omega)]; exact q3.2 k hk
      · rw [e5' i (by omega) (by omega) (by omega) (by omega) (by omega) (by omega)]; exact e2 i (Or.inr (Or.inr (by omega)))
    have key := k_pf (Q := Q) (X := X) (tcm_ok o) (tx o).2 0 a M3 hG.1 hC3 (by omega) (fun j hj => tw3 j (by omega)) (fun z M4 q1 q2 => ?_) (fun z M4 q1 q2 => ?_) (fun z M4 q1 q2 q3 => ?_)
    · rw [Nat.zero_add] at key
      exact ⟨_, key⟩
    · rw [Nat.zero_add]
      have hH4 : HC kp sp h M4 := g3.fr hh (fun i i1 i2 => q2.2 i (by omega) (by omega) (by omega))
      have hD4 : St (283 + 140 * sp) a M4 := g4.fr (fun i i1 i2 => q2.2 i (by have := g3.2.1; omega) (by have := g3.2.1; omega) (by have := g3.2.1; omega)) hV
      refine k_keepD hH4 hh hD4 hV (fun M5 z1 z2 => ?_)
      have e5' : ∀ i, ¬ (1 ≤ i ∧ i < 141) → i ≠ 1543 → i ≠ 1544 → i ≠ 281 → ¬ (283 ≤ i ∧ i < 1543) → M5.1 i = M2.1 i := fun i i1 i2 i3 i5 i6 => (z1.2 i i5 i6).trans ((q2.2 i i1 i2 i3).trans (e3 i i5 i6))
      refine h0 c z M5 ⟨z1.cz q1 hg.1, ⟨_, z2⟩, cx M5 o.2.2 ?_ (fun i i1 i2 => ?_) ?_ (rw0 M5 (fun i i1 i2 => ?_))⟩ (fun i hi => ?_)
      · rw [e5' 0 (by decide) (by decide) (by decide) (by decide) (by decide)]; exact e2 0 (by decide)
      · rw [e5' i (by omega) (by omega) (by omega) (by omega) (by omega)]; exact e2 i (Or.inl (by omega))
      · rw [e5' 1551 (by decide) (by decide) (by decide) (by decide) (by decide)]; exact e5
      · rw [e5' i (by omega) (by omega) (by omega) (by omega) (by omega)]; exact e2 i (Or.inl (by omega))
      · rw [e5' i (by omega) (by omega) (by omega) (by omega) (by omega)]; exact e2 i (Or.inr (Or.inr (by omega)))
    · exact back o.2.2 M4 q1 (Or2.of q2) (rw0 M4 (fun i i1 i2 => by rw [q2.2 i (by omega) (by omega) (by omega), e3 i (by omega) (by omega)]; exact e2 i (Or.inl (by omega)))) (h1 c z)
    · exact back (rpo a o) M4 q1 q2 q3 (h2 c z)
  · rw [if_neg c, if_neg (show ¬ I (tx o).2 = NO by rw [I_no (by omega)]; exact id)]
    exact hs (by cases hz : (tx o).1 with | true => exact absurd hz c | false => rfl) M2 ⟨hC2, ⟨sp, hH2⟩, cx M2 o.2.2 (e2 0 (by decide)) (fun i i1 i2 => e2 i (Or.inl (by omega))) e5 (rw0 M2 (fun i i1 i2 => e2 i (Or.inl (by omega))))⟩ (fun i hi => e2 i (Or.inr (Or.inr (by omega))))
theorem L_perform (hG : GI a kp h o) (hC : CI a kp h o M)
    (hs : (tx o).1 = false → ∀ M', CI a kp h (emp o) M' → FrC M M' → M'.2.1 0 = Int32.toInt64 ((-100) - I (tx o).2) → Q (I 0) M')
    (h0 : (tx o).1 = true → (pfo a o).1 = 0 → ∀ M', CI (pfo a o).2.1 (pkn kp) (phh kp h a) (emp o) M' → FrC M M' → M'.2.1 0 = Int32.toInt64 (I (tx o).2) → Q (I 0) M')
    (h1 : (tx o).1 = true → (pfo a o).1 = 1 → ∀ M', CI (ctn 552 a (pfo a o).2.1) kp h (emp o) M' → FrC M M' → Q (I 1) M')
    (h2 : (tx o).1 = true → (pfo a o).1 = 2 → ∀ M', CI (ctn 552 a (pfo a o).2.1) kp h (o.1, (0, o.2.1.2), rpo a o) M' → FrC M M' → Q (I 1) M') : T_L_perform Q 0 1592 M := by
  unfold T_L_perform
  exact ⟨kn_0, K_perform hG hC (fun e M2 c2 f2 => LK_ok (hs e (OL M2 _) c2 f2 OL_v)) (fun e e2 M2 c2 f2 => LK_ok (h0 e e2 (OL M2 _) c2 f2 OL_v)) (fun e e2 M2 c2 f2 => ⟨rfl, h1 e e2 M2 c2 f2⟩) (fun e e2 M2 c2 f2 => ⟨rfl, h2 e e2 M2 c2 f2⟩)⟩
end Pg2

