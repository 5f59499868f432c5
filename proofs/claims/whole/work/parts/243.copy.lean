/-! ===== THE CLASS copies a state ===== -/
theorem X3_copy {Q : Mem → Prop} {a : Nat → Nat} {b b' : Nat} {M : Mem} (hb : SB b) (hb' : SB b') (hd : b + 140 ≤ b' ∨ b' + 140 ≤ b) (hV : VA a) (hS : St b' a M) (hW : Wd b M)
    (h : ∀ M', (∀ j, ¬ (b ≤ j ∧ j < b + 140) → M'.1 j = M.1 j) → M'.2 = M.2 → St b a M' → Wd b M' → Q M') : T_X3_copyFrom Q b b' M := by
  obtain ⟨g0, g1, g2, g3, g4, g5, g6, g7, g8⟩ := hS
  obtain ⟨w1, w2, w3, w4, w5, w6, w7⟩ := hW
  have hV' := hV
  obtain ⟨-, ⟨-, n1, n2, n3, n4, n5, n6, n7, -⟩, -⟩ := hV
  unfold T_X3_copyFrom
  rw [SB_3 hb, SB_3 hb', (SB_q hb).1, (SB_q hb').1, (SB_q hb).2.1, (SB_q hb').2.1, (SB_q hb).2.2, (SB_q hb').2.2, SB_r2 hb, SB_r2 hb', SB_r3 hb, SB_r3 hb', SB_r4 hb, SB_r4 hb', SB_r5 hb, SB_r5 hb', SB_r6 hb, SB_r6 hb', SB_r7 hb, SB_r7 hb', SB_r8 hb, SB_r8 hb', (SB_t2 hb).1, (SB_t3 hb).1, (SB_t4 hb).1, (SB_t5 hb).1, (SB_t6 hb).1, (SB_t7 hb).1, (SB_t8 hb).1]
  refine ⟨rfl, rfl, ?_⟩
  rintro Ma rfl
  refine ⟨rfl, rfl, by decide, by decide, by decide, by decide, ?_⟩
  rintro M0 rfl
  refine ⟨rfl, ?_⟩
  rw [I_0, I_4, tn_I (by decide), tn_I (by decide)]
  generalize he : mcpy (mset M b 0 (M.1 b' 0)) (b' + 1) (b + 1) 0 0 4 = M0
  have z0 : M0.2 = M.2 := by subst he; rfl
  have E0 : ∀ j, ¬ (b ≤ j ∧ j < b + 140) → M0.1 j = M.1 j := fun j hj => by subst he; rw [mcpy_ne (by omega), mset_ne (by omega)]
  have F0 : ∀ j, b + 2 ≤ j → M0.1 j = M.1 j := fun j hj => by subst he; rw [mcpy_ne (by omega), mset_ne (by omega)]
  have d0 : M0.1 b 0 = I (a 0) := by subst he; rw [mcpy_ne (by omega), mset_v, if_pos rfl]; exact g0
  have d1 : ∀ k, k < 4 → M0.1 (b + 1) k = I (a (8 + k)) := fun k hk => by subst he; rw [mcpy_v, if_pos ⟨rfl, hk⟩, mset_ne (by omega)]; exact g1 k hk
  refine t_copyFrom (m := a 1) (SB_t2 hb) (SB_t2 hb') (by omega) (by rw [F0 _ (by omega)]; exact w1) n1 (by rw [E0 _ (by omega)]; exact g2.1) (fun M1 hz1 hm1 hr1 => ?_)
  refine ⟨rfl, ?_⟩
  have E1 : ∀ j, ¬ (b ≤ j ∧ j < b + 140) → M1.1 j = M.1 j := fun j hj => (hz1.2.2 j (by omega) (by omega)).trans (E0 j hj)
  have F1 : ∀ j, b + 14 ≤ j → M1.1 j = M.1 j := fun j hj => (hz1.2.2 j (by omega) (by omega)).trans (F0 j (by omega))
  refine t_copyFrom (m := a 2) (SB_t3 hb) (SB_t3 hb') (by omega) (by rw [F1 _ (by omega)]; exact w2) n2 (by rw [E1 _ (by omega)]; exact g3.1) (fun M2 hz2 hm2 hr2 => ?_)
  refine ⟨rfl, ?_⟩
  have E2 : ∀ j, ¬ (b ≤ j ∧ j < b + 140) → M2.1 j = M.1 j := fun j hj => (hz2.2.2 j (by omega) (by omega)).trans (E1 j hj)
  have F2 : ∀ j, b + 28 ≤ j → M2.1 j = M.1 j := fun j hj => (hz2.2.2 j (by omega) (by omega)).trans (F1 j (by omega))
  refine t_copyFrom (m := a 3) (SB_t4 hb) (SB_t4 hb') (by omega) (by rw [F2 _ (by omega)]; exact w3) n3 (by rw [E2 _ (by omega)]; exact g4.1) (fun M3 hz3 hm3 hr3 => ?_)
  refine ⟨rfl, ?_⟩
  have E3 : ∀ j, ¬ (b ≤ j ∧ j < b + 140) → M3.1 j = M.1 j := fun j hj => (hz3.2.2 j (by omega) (by omega)).trans (E2 j hj)
  have F3 : ∀ j, b + 36 ≤ j → M3.1 j = M.1 j := fun j hj => (hz3.2.2 j (by omega) (by omega)).trans (F2 j (by omega))
  refine t_copyFrom (m := a 4) (SB_t5 hb) (SB_t5 hb') (by omega) (by rw [F3 _ (by omega)]; exact w4) n4 (by rw [E3 _ (by omega)]; exact g5.1) (fun M4 hz4 hm4 hr4 => ?_)
  refine ⟨rfl, ?_⟩
  have E4 : ∀ j, ¬ (b ≤ j ∧ j < b + 140) → M4.1 j = M.1 j := fun j hj => (hz4.2.2 j (by omega) (by omega)).trans (E3 j hj)
  have F4 : ∀ j, b + 98 ≤ j → M4.1 j = M.1 j := fun j hj => (hz4.2.2 j (by omega) (by omega)).trans (F3 j (by omega))
  refine t_copyFrom (m := a 5) (SB_t6 hb) (SB_t6 hb') (by omega) (by rw [F4 _ (by omega)]; exact w5) n5 (by rw [E4 _ (by omega)]; exact g6.1) (fun M5 hz5 hm5 hr5 => ?_)
  refine ⟨rfl, ?_⟩
  have E5 : ∀ j, ¬ (b ≤ j ∧ j < b + 140) → M5.1 j = M.1 j := fun j hj => (hz5.2.2 j (by omega) (by omega)).trans (E4 j hj)
  have F5 : ∀ j, b + 110 ≤ j → M5.1 j = M.1 j := fun j hj => (hz5.2.2 j (by omega) (by omega)).trans (F4 j (by omega))
  refine t_copyFrom (m := a 6) (SB_t7 hb) (SB_t7 hb') (by omega) (by rw [F5 _ (by omega)]; exact w6) n6 (by rw [E5 _ (by omega)]; exact g7.1) (fun M6 hz6 hm6 hr6 => ?_)
  refine ⟨rfl, ?_⟩
  have E6 : ∀ j, ¬ (b ≤ j ∧ j < b + 140) → M6.1 j = M.1 j := fun j hj => (hz6.2.2 j (by omega) (by omega)).trans (E5 j hj)
  have F6 : ∀ j, b + 118 ≤ j → M6.1 j = M.1 j := fun j hj => (hz6.2.2 j (by omega) (by omega)).trans (F5 j (by omega))
  refine t_copyFrom (m := a 7) (SB_t8 hb) (SB_t8 hb') (by omega) (by rw [F6 _ (by omega)]; exact w7) n7 (by rw [E6 _ (by omega)]; exact g8.1) (fun M7 hz7 hm7 hr7 => ?_)
  have E7 : ∀ j, ¬ (b ≤ j ∧ j < b + 140) → M7.1 j = M.1 j := fun j hj => (hz7.2.2 j (by omega) (by omega)).trans (E6 j hj)
  exact h M7 E7 (by rw [hz7.1, hz6.1, hz5.1, hz4.1, hz3.1, hz2.1, hz1.1, z0]) ⟨by rw [hz7.2.2 _ (by omega) (by omega), hz6.2.2 _ (by omega) (by omega), hz5.2.2 _ (by omega) (by omega), hz4.2.2 _ (by omega) (by omega), hz3.2.2 _ (by omega) (by omega), hz2.2.2 _ (by omega) (by omega), hz1.2.2 _ (by omega) (by omega)]; exact d0, fun k hk => by rw [hz7.2.2 _ (by omega) (by omega), hz6.2.2 _ (by omega) (by omega), hz5.2.2 _ (by omega) (by omega), hz4.2.2 _ (by omega) (by omega), hz3.2.2 _ (by omega) (by omega), hz2.2.2 _ (by omega) (by omega), hz1.2.2 _ (by omega) (by omega)]; exact d1 k hk, ⟨by rw [hz7.2.2 _ (by omega) (by omega), hz6.2.2 _ (by omega) (by omega), hz5.2.2 _ (by omega) (by omega), hz4.2.2 _ (by omega) (by omega), hz3.2.2 _ (by omega) (by omega), hz2.2.2 _ (by omega) (by omega)]; exact hm1, fun i hi c hc => by rw [hz7.2.2 _ (by omega) (by omega), hz6.2.2 _ (by omega) (by omega), hz5.2.2 _ (by omega) (by omega), hz4.2.2 _ (by omega) (by omega), hz3.2.2 _ (by omega) (by omega), hz2.2.2 _ (by omega) (by omega), show b + 4 + i = b + 2 + 2 + i by omega, hr1 i c hi hc, E0 _ (by omega), show b' + 2 + 2 + i = b' + 4 + i by omega]; exact g2.2 i hi c hc⟩, ⟨by rw [hz7.2.2 _ (by omega) (by omega), hz6.2.2 _ (by omega) (by omega), hz5.2.2 _ (by omega) (by omega), hz4.2.2 _ (by omega) (by omega), hz3.2.2 _ (by omega) (by omega)]; exact hm2, fun i hi => by rw [hz7.2.2 _ (by omega) (by omega), hz6.2.2 _ (by omega) (by omega), hz5.2.2 _ (by omega) (by omega), hz4.2.2 _ (by omega) (by omega), hz3.2.2 _ (by omega) (by omega), show b + 16 + i = b + 14 + 2 + i by omega, hr2 i 0 hi (by omega), E1 _ (by omega), show b' + 14 + 2 + i = b' + 16 + i by omega]; exact g3.2 i hi⟩, ⟨by rw [hz7.2.2 _ (by omega) (by omega), hz6.2.2 _ (by omega) (by omega), hz5.2.2 _ (by omega) (by omega), hz4.2.2 _ (by omega) (by omega)]; exact hm3, fun i hi c hc => by rw [hz7.2.2 _ (by omega) (by omega), hz6.2.2 _ (by omega) (by omega), hz5.2.2 _ (by omega) (by omega), hz4.2.2 _ (by omega) (by omega), show b + 30 + i = b + 28 + 2 + i by omega, hr3 i c hi hc, E2 _ (by omega), show b' + 28 + 2 + i = b' + 30 + i by omega]; exact g4.2 i hi c hc⟩, ⟨by rw [hz7.2.2 _ (by omega) (by omega), hz6.2.2 _ (by omega) (by omega), hz5.2.2 _ (by omega) (by omega)]; exact hm4, fun i hi c hc => by rw [hz7.2.2 _ (by omega) (by omega), hz6.2.2 _ (by omega) (by omega), hz5.2.2 _ (by omega) (by omega), show b + 38 + i = b + 36 + 2 + i by omega, hr4 i c hi hc, E3 _ (by omega), show b' + 36 + 2 + i = b' + 38 + i by omega]; exact g5.2 i hi c hc⟩, ⟨by rw [hz7.2.2 _ (by omega) (by omega), hz6.2.2 _ (by omega) (by omega)]; exact hm5, fun i hi c hc => by rw [hz7.2.2 _ (by omega) (by omega), hz6.2.2 _ (by omega) (by omega), show b + 100 + i = b + 98 + 2 + i by omega, hr5 i c hi hc, E4 _ (by omega), show b' + 98 + 2 + i = b' + 100 + i by omega]; exact g6.2 i hi c hc⟩, ⟨by rw [hz7.2.2 _ (by omega) (by omega)]; exact hm6, fun i hi c hc => by rw [hz7.2.2 _ (by omega) (by omega), show b + 112 + i = b + 110 + 2 + i by omega, hr6 i c hi hc, E5 _ (by omega), show b' + 110 + 2 + i = b' + 112 + i by omega]; exact g7.2 i hi c hc⟩, ⟨hm7, fun i hi c hc => by rw [show b + 120 + i = b + 118 + 2 + i by omega, hr7 i c hi hc, E6 _ (by omega), show b' + 118 + 2 + i = b' + 120 + i by omega]; exact g8.2 i hi c hc⟩⟩ ⟨by rw [hz7.2.2 _ (by omega) (by omega), hz6.2.2 _ (by omega) (by omega), hz5.2.2 _ (by omega) (by omega), hz4.2.2 _ (by omega) (by omega), hz3.2.2 _ (by omega) (by omega), hz2.2.2 _ (by omega) (by omega), hz1.2.1 1 (by decide), F0 _ (by omega)]; exact w1, by rw [hz7.2.2 _ (by omega) (by omega), hz6.2.2 _ (by omega) (by omega), hz5.2.2 _ (by omega) (by omega), hz4.2.2 _ (by omega) (by omega), hz3.2.2 _ (by omega) (by omega), hz2.2.1 1 (by decide), F1 _ (by omega)]; exact w2, by rw [hz7.2.2 _ (by omega) (by omega), hz6.2.2 _ (by omega) (by omega), hz5.2.2 _ (by omega) (by omega), hz4.2.2 _ (by omega) (by omega), hz3.2.1 1 (by decide), F2 _ (by omega)]; exact w3, by rw [hz7.2.2 _ (by omega) (by omega), hz6.2.2 _ (by omega) (by omega), hz5.2.2 _ (by omega) (by omega), hz4.2.1 1 (by decide), F3 _ (by omega)]; exact w4, by rw [hz7.2.2 _ (by omega) (by omega), hz6.2.2 _ (by omega) (by omega), hz5.2.1 1 (by decide), F4 _ (by omega)]; exact w5, by rw [hz7.2.2 _ (by omega) (by omega), hz6.2.1 1 (by decide), F5 _ (by omega)]; exact w6, by rw [hz7.2.1 1 (by decide), F6 _ (by omega)]; exact w7⟩

