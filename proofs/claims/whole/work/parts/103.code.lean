/-! X0_isChanged -/
theorem d_X0_isChanged_0 : decode mX0_isChanged.2.1 0 = .ok (.aload_n 0, 1) := by decide +kernel
theorem d_X0_isChanged_1 : decode mX0_isChanged.2.1 1 = .ok (.getfield 9, 3) := by decide +kernel
theorem d_X0_isChanged_4 : decode mX0_isChanged.2.1 4 = .ok (.getfield 19, 3) := by decide +kernel
theorem d_X0_isChanged_7 : decode mX0_isChanged.2.1 7 = .ok (.getfield 40, 3) := by decide +kernel
theorem d_X0_isChanged_10 : decode mX0_isChanged.2.1 10 = .ok (.iload_n 1, 1) := by decide +kernel
theorem d_X0_isChanged_11 : decode mX0_isChanged.2.1 11 = .ok (.aaload, 1) := by decide +kernel
theorem d_X0_isChanged_12 : decode mX0_isChanged.2.1 12 = .ok (.astore_n 2, 1) := by decide +kernel
theorem d_X0_isChanged_13 : decode mX0_isChanged.2.1 13 = .ok (.aload_n 2, 1) := by decide +kernel
theorem d_X0_isChanged_14 : decode mX0_isChanged.2.1 14 = .ok (.iconst 5, 1) := by decide +kernel
theorem d_X0_isChanged_15 : decode mX0_isChanged.2.1 15 = .ok (.iconst 2, 1) := by decide +kernel
theorem d_X0_isChanged_16 : decode mX0_isChanged.2.1 16 = .ok (.iastore, 1) := by decide +kernel
theorem d_X0_isChanged_17 : decode mX0_isChanged.2.1 17 = .ok (.aload_n 0, 1) := by decide +kernel
theorem d_X0_isChanged_18 : decode mX0_isChanged.2.1 18 = .ok (.getfield 15, 3) := by decide +kernel
theorem d_X0_isChanged_21 : decode mX0_isChanged.2.1 21 = .ok (.aload_n 2, 1) := by decide +kernel
theorem d_X0_isChanged_22 : decode mX0_isChanged.2.1 22 = .ok (.iconst 2, 1) := by decide +kernel
theorem d_X0_isChanged_23 : decode mX0_isChanged.2.1 23 = .ok (.iaload, 1) := by decide +kernel
theorem d_X0_isChanged_24 : decode mX0_isChanged.2.1 24 = .ok (.aload_n 2, 1) := by decide +kernel
theorem d_X0_isChanged_25 : decode mX0_isChanged.2.1 25 = .ok (.iconst 3, 1) := by decide +kernel
theorem d_X0_isChanged_26 : decode mX0_isChanged.2.1 26 = .ok (.iaload, 1) := by decide +kernel
theorem d_X0_isChanged_27 : decode mX0_isChanged.2.1 27 = .ok (.invokevirtual 71, 3) := by decide +kernel
theorem d_X0_isChanged_30 : decode mX0_isChanged.2.1 30 = .ok (.aload_n 0, 1) := by decide +kernel
theorem d_X0_isChanged_31 : decode mX0_isChanged.2.1 31 = .ok (.getfield 15, 3) := by decide +kernel
theorem d_X0_isChanged_34 : decode mX0_isChanged.2.1 34 = .ok (.aload_n 2, 1) := by decide +kernel
theorem d_X0_isChanged_35 : decode mX0_isChanged.2.1 35 = .ok (.iconst 0, 1) := by decide +kernel
theorem d_X0_isChanged_36 : decode mX0_isChanged.2.1 36 = .ok (.iaload, 1) := by decide +kernel
theorem d_X0_isChanged_37 : decode mX0_isChanged.2.1 37 = .ok (.aload_n 2, 1) := by decide +kernel
theorem d_X0_isChanged_38 : decode mX0_isChanged.2.1 38 = .ok (.iconst 1, 1) := by decide +kernel
theorem d_X0_isChanged_39 : decode mX0_isChanged.2.1 39 = .ok (.iaload, 1) := by decide +kernel
theorem d_X0_isChanged_40 : decode mX0_isChanged.2.1 40 = .ok (.aload_n 2, 1) := by decide +kernel
theorem d_X0_isChanged_41 : decode mX0_isChanged.2.1 41 = .ok (.iconst 2, 1) := by decide +kernel
theorem d_X0_isChanged_42 : decode mX0_isChanged.2.1 42 = .ok (.iaload, 1) := by decide +kernel
theorem d_X0_isChanged_43 : decode mX0_isChanged.2.1 43 = .ok (.invokevirtual 75, 3) := by decide +kernel
theorem d_X0_isChanged_46 : decode mX0_isChanged.2.1 46 = .ok (.ifCond .eq 14, 3) := by decide +kernel
theorem d_X0_isChanged_49 : decode mX0_isChanged.2.1 49 = .ok (.aload_n 0, 1) := by decide +kernel
theorem d_X0_isChanged_50 : decode mX0_isChanged.2.1 50 = .ok (.getfield 9, 3) := by decide +kernel
theorem d_X0_isChanged_53 : decode mX0_isChanged.2.1 53 = .ok (.iload_n 1, 1) := by decide +kernel
theorem d_X0_isChanged_54 : decode mX0_isChanged.2.1 54 = .ok (.iconst 2, 1) := by decide +kernel
theorem d_X0_isChanged_55 : decode mX0_isChanged.2.1 55 = .ok (.invokevirtual 79, 3) := by decide +kernel
theorem d_X0_isChanged_58 : decode mX0_isChanged.2.1 58 = .ok (.iconst 1, 1) := by decide +kernel
theorem d_X0_isChanged_59 : decode mX0_isChanged.2.1 59 = .ok (.ireturn, 1) := by decide +kernel
theorem d_X0_isChanged_60 : decode mX0_isChanged.2.1 60 = .ok (.aload_n 2, 1) := by decide +kernel
theorem d_X0_isChanged_61 : decode mX0_isChanged.2.1 61 = .ok (.iconst 5, 1) := by decide +kernel
theorem d_X0_isChanged_62 : decode mX0_isChanged.2.1 62 = .ok (.iconst 0, 1) := by decide +kernel
theorem d_X0_isChanged_63 : decode mX0_isChanged.2.1 63 = .ok (.iastore, 1) := by decide +kernel
theorem d_X0_isChanged_64 : decode mX0_isChanged.2.1 64 = .ok (.aload_n 2, 1) := by decide +kernel
theorem d_X0_isChanged_65 : decode mX0_isChanged.2.1 65 = .ok (.iconst 4, 1) := by decide +kernel
theorem d_X0_isChanged_66 : decode mX0_isChanged.2.1 66 = .ok (.iaload, 1) := by decide +kernel
theorem d_X0_isChanged_67 : decode mX0_isChanged.2.1 67 = .ok (.aload_n 0, 1) := by decide +kernel
theorem d_X0_isChanged_68 : decode mX0_isChanged.2.1 68 = .ok (.getfield 15, 3) := by decide +kernel
theorem d_X0_isChanged_71 : decode mX0_isChanged.2.1 71 = .ok (.getfield 31, 3) := by decide +kernel
theorem d_X0_isChanged_74 : decode mX0_isChanged.2.1 74 = .ok (.if_icmp .ne 5, 3) := by decide +kernel
theorem d_X0_isChanged_77 : decode mX0_isChanged.2.1 77 = .ok (.iconst 0, 1) := by decide +kernel
theorem d_X0_isChanged_78 : decode mX0_isChanged.2.1 78 = .ok (.ireturn, 1) := by decide +kernel
theorem d_X0_isChanged_79 : decode mX0_isChanged.2.1 79 = .ok (.aload_n 2, 1) := by decide +kernel
theorem d_X0_isChanged_80 : decode mX0_isChanged.2.1 80 = .ok (.iconst 4, 1) := by decide +kernel
theorem d_X0_isChanged_81 : decode mX0_isChanged.2.1 81 = .ok (.aload_n 0, 1) := by decide +kernel
theorem d_X0_isChanged_82 : decode mX0_isChanged.2.1 82 = .ok (.getfield 15, 3) := by decide +kernel
theorem d_X0_isChanged_85 : decode mX0_isChanged.2.1 85 = .ok (.getfield 31, 3) := by decide +kernel
theorem d_X0_isChanged_88 : decode mX0_isChanged.2.1 88 = .ok (.iastore, 1) := by decide +kernel
theorem d_X0_isChanged_89 : decode mX0_isChanged.2.1 89 = .ok (.aload_n 0, 1) := by decide +kernel
theorem d_X0_isChanged_90 : decode mX0_isChanged.2.1 90 = .ok (.getfield 9, 3) := by decide +kernel
theorem d_X0_isChanged_93 : decode mX0_isChanged.2.1 93 = .ok (.iload_n 1, 1) := by decide +kernel
theorem d_X0_isChanged_94 : decode mX0_isChanged.2.1 94 = .ok (.iconst 0, 1) := by decide +kernel
theorem d_X0_isChanged_95 : decode mX0_isChanged.2.1 95 = .ok (.invokevirtual 79, 3) := by decide +kernel
theorem d_X0_isChanged_98 : decode mX0_isChanged.2.1 98 = .ok (.iconst 1, 1) := by decide +kernel
theorem d_X0_isChanged_99 : decode mX0_isChanged.2.1 99 = .ok (.ireturn, 1) := by decide +kernel
def T_X0_isChanged (Q : Int32 → Mem → Prop) (v0 : Nat) (v1 : Int32) (M : Mem) : Prop := (kd v0 = 0) ∧ (kd (rf v0 0) = 3) ∧ (kd (rf (rf v0 0) 5) = 4) ∧ (kd (rf (rf (rf v0 0) 5) 0) = 10 ∨ kd (rf (rf (rf v0 0) 5) 0) = 11) ∧ (vp_in v1 (ln (rf (rf (rf v0 0) 5) 0))) ∧ ∀ r6 : Nat, r6 = rf (rf (rf (rf v0 0) 5) 0) (Int32.toNatClampNeg v1) → (kd r6 = 9) ∧ (vp_in 5 (ln r6)) ∧ ∀ M9 : Mem, M9 = mset M r6 (Int32.toNatClampNeg 5) 2 → (vp_in 2 (ln r6)) ∧ (vp_in 3 (ln r6)) ∧ (kd (rf v0 1) = 2) ∧ T_X2_lookAt (fun M13 => (vp_in 0 (ln r6)) ∧ (vp_in 1 (ln r6)) ∧ T_X2_chooseRoom (fun y17 M16 => if y17 = 0 then (∀ M18 : Mem, M18 = mset M16 r6 (Int32.toNatClampNeg 5) 0 → (vp_in 4 (ln r6)) ∧ if (M18.1 r6 (Int32.toNatClampNeg 4)) = (M18.1 (rf v0 1) 6) then (((0 : Int32) = 0 ∨ (0 : Int32) = 1) ∧ Q 0 M18) else (∀ M20 : Mem, M20 = mset M18 r6 (Int32.toNatClampNeg 4) (M18.1 (rf v0 1) 6) → T_X3_addNotice (fun M21 => ((1 : Int32) = 0 ∨ (1 : Int32) = 1) ∧ Q 1 M21)  (rf v0 0) v1 0 M20)) else (T_X3_addNotice (fun M22 => ((1 : Int32) = 0 ∨ (1 : Int32) = 1) ∧ Q 1 M22)  (rf v0 0) v1 2 M16))  (rf v0 1) (M13.1 r6 (Int32.toNatClampNeg 0)) (M13.1 r6 (Int32.toNatClampNeg 1)) (M13.1 r6 (Int32.toNatClampNeg 2)) M13)  (rf v0 1) (M9.1 r6 (Int32.toNatClampNeg 2)) (M9.1 r6 (Int32.toNatClampNeg 3)) M9
set_option maxRecDepth 100000 in
set_option maxHeartbeats 4000000 in
theorem c_X0_isChanged {g : GG} (v0 : Nat) (v1 : Int32) (M : Mem) (Q : Int32 → Mem → Prop) (h : T_X0_isChanged Q v0 v1 M) : CT g 12 mX0_isChanged [.ref (g.1 + v0), .int v1] M 0 (oZ Q noX) := by
  refine CT_of (L := [some (.ref (g.1 + v0)), some (.int v1), none]) (by decide) rfl (Nat.le_of_ble_eq_true rfl) (ro_Z rfl) rfl ?_
  unfold T_X0_isChanged at h
  refine R_aload_n (pc := 0) d_X0_isChanged_0 rfl rfl ?_
  obtain ⟨k1, h⟩ := h
  refine R_getR (pc := 1) fld_RX0_9 rfl rfl k1 d_X0_isChanged_1 ?_
  obtain ⟨k2, h⟩ := h
  refine R_getR (pc := 4) fld_RX0_19 rfl rfl k2 d_X0_isChanged_4 ?_
  obtain ⟨k3, h⟩ := h
  refine R_getR (pc := 7) fld_RX0_40 rfl rfl k3 d_X0_isChanged_7 ?_
  refine R_iload_n (pc := 10) d_X0_isChanged_10 rfl rfl ?_
  obtain ⟨k4, h⟩ := h
  obtain ⟨k5, h⟩ := h
  refine R_aald (pc := 11) k4 k5 d_X0_isChanged_11 ?_
  refine N_r (fun r6 er6 => ?_)
  have h := h r6 er6
  refine R_astore_n (pc := 12) (L' := [some (.ref (g.1 + v0)), some (.int v1), some (.ref (g.1 + r6))]) d_X0_isChanged_12 rfl (by decide) rfl ?_
  refine R_aload_n (pc := 13) d_X0_isChanged_13 rfl rfl ?_
  refine R_iconst (pc := 14) (v := 5) d_X0_isChanged_14 (by decide) ?_
  refine R_iconst (pc := 15) (v := 2) d_X0_isChanged_15 (by decide) ?_
  obtain ⟨k7, h⟩ := h
  obtain ⟨k8, h⟩ := h
  refine R_iast (pc := 16) k7 k8 d_X0_isChanged_16 (N_M (fun M9 eM9 => ?_))
  have h := h M9 eM9
  refine R_aload_n (pc := 17) d_X0_isChanged_17 rfl rfl ?_
  refine R_getR (pc := 18) fld_RX0_15 rfl rfl k1 d_X0_isChanged_18 ?_
  refine R_aload_n (pc := 21) d_X0_isChanged_21 rfl rfl ?_
  refine R_iconst (pc := 22) (v := 2) d_X0_isChanged_22 (by decide) ?_
  obtain ⟨k10, h⟩ := h
  refine R_iald (pc := 23) k7 k10 d_X0_isChanged_23 ?_
  refine R_aload_n (pc := 24) d_X0_isChanged_24 rfl rfl ?_
  refine R_iconst (pc := 25) (v := 3) d_X0_isChanged_25 (by decide) ?_
  obtain ⟨k11, h⟩ := h
  refine R_iald (pc := 26) k7 k11 d_X0_isChanged_26 ?_
  obtain ⟨k12, h⟩ := h
  refine R_callV (pc := 27) (As := [.int (M9.1 r6 (Int32.toNatClampNeg 2)), .int (M9.1 r6 (Int32.toNatClampNeg 3))]) (rest := []) (c_X2_lookAt (g := g) (rf v0 1) (M9.1 r6 (Int32.toNatClampNeg 2)) (M9.1 r6 (Int32.toNatClampNeg 3)) M9 _ h) rfl rfl cal_RX0_71 ins_X2_lookAt sel_X2_lookAt (cls_at k12 clsOK2) (by decide) (by decide) rfl rfl (Nat.le_of_ble_eq_true rfl) d_X0_isChanged_27 (k_V (fun M13 h => ?_)) (fun _ _ h9 => False.elim h9)
  try dsimp only at h
  refine R_aload_n (pc := 30) d_X0_isChanged_30 rfl rfl ?_
  refine R_getR (pc := 31) fld_RX0_15 rfl rfl k1 d_X0_isChanged_31 ?_
  refine R_aload_n (pc := 34) d_X0_isChanged_34 rfl rfl ?_
  refine R_iconst (pc := 35) (v := 0) d_X0_isChanged_35 (by decide) ?_
  obtain ⟨k14, h⟩ := h
  refine R_iald (pc := 36) k7 k14 d_X0_isChanged_36 ?_
  refine R_aload_n (pc := 37) d_X0_isChanged_37 rfl rfl ?_
  refine R_iconst (pc := 38) (v := 1) d_X0_isChanged_38 (by decide) ?_
  obtain ⟨k15, h⟩ := h
  refine R_iald (pc := 39) k7 k15 d_X0_isChanged_39 ?_
  refine R_aload_n (pc := 40) d_X0_isChanged_40 rfl rfl ?_
  refine R_iconst (pc := 41) (v := 2) d_X0_isChanged_41 (by decide) ?_
  refine R_iald (pc := 42) k7 k10 d_X0_isChanged_42 ?_
  refine R_callV (pc := 43) (As := [.int (M13.1 r6 (Int32.toNatClampNeg 0)), .int (M13.1 r6 (Int32.toNatClampNeg 1)), .int (M13.1 r6 (Int32.toNatClampNeg 2))]) (rest := []) (c_X2_chooseRoom (g := g) (rf v0 1) (M13.1 r6 (Int32.toNatClampNeg 0)) (M13.1 r6 (Int32.toNatClampNeg 1)) (M13.1 r6 (Int32.toNatClampNeg 2)) M13 _ h) rfl rfl cal_RX0_75 ins_X2_chooseRoom sel_X2_chooseRoom (cls_at k12 clsOK2) (by decide) (by decide) rfl rfl (Nat.le_of_ble_eq_true rfl) d_X0_isChanged_43 (k_I (fun y17 M16 h => ?_)) (fun _ _ h9 => False.elim h9)
  try dsimp only at h
  refine R_if_eq (pc := 46) (tgt := 60) d_X0_isChanged_46 (by decide) (fun c => ?_) (fun c => ?_)
  · rw [if_pos c] at h
    refine R_aload_n (pc := 60) d_X0_isChanged_60 rfl rfl ?_
    refine R_iconst (pc := 61) (v := 5) d_X0_isChanged_61 (by decide) ?_
    refine R_iconst (pc := 62) (v := 0) d_X0_isChanged_62 (by decide) ?_
    refine R_iast (pc := 63) k7 k8 d_X0_isChanged_63 (N_M (fun M18 eM18 => ?_))
    have h := h M18 eM18
    refine R_aload_n (pc := 64) d_X0_isChanged_64 rfl rfl ?_
    refine R_iconst (pc := 65) (v := 4) d_X0_isChanged_65 (by decide) ?_
    obtain ⟨k19, h⟩ := h
    refine R_iald (pc := 66) k7 k19 d_X0_isChanged_66 ?_
    refine R_aload_n (pc := 67) d_X0_isChanged_67 rfl rfl ?_
    refine R_getR (pc := 68) fld_RX0_15 rfl rfl k1 d_X0_isChanged_68 ?_
    refine R_getI (pc := 71) fld_RX0_31 rfl rfl k12 d_X0_isChanged_71 ?_
    refine R_icmp_ne (pc := 74) (tgt := 79) d_X0_isChanged_74 (by decide) (fun c => ?_) (fun c => ?_)
    · rw [if_neg c] at h
      refine R_aload_n (pc := 79) d_X0_isChanged_79 rfl rfl ?_
      refine R_iconst (pc := 80) (v := 4) d_X0_isChanged_80 (by decide) ?_
      refine R_aload_n (pc := 81) d_X0_isChanged_81 rfl rfl ?_
      refine R_getR (pc := 82) fld_RX0_15 rfl rfl k1 d_X0_isChanged_82 ?_
      refine R_getI (pc := 85) fld_RX0_31 rfl rfl k12 d_X0_isChanged_85 ?_
      refine R_iast (pc := 88) k7 k19 d_X0_isChanged_88 (N_M (fun M20 eM20 => ?_))
      have h := h M20 eM20
      refine R_aload_n (pc := 89) d_X0_isChanged_89 rfl rfl ?_
      refine R_getR (pc := 90) fld_RX0_9 rfl rfl k1 d_X0_isChanged_90 ?_
      refine R_iload_n (pc := 93) d_X0_isChanged_93 rfl rfl ?_
      refine R_iconst (pc := 94) (v := 0) d_X0_isChanged_94 (by decide) ?_
      refine R_callV (pc := 95) (As := [.int v1, .int 0]) (rest := []) (c_X3_addNotice (g := g) (rf v0 0) v1 0 M20 _ h) rfl rfl cal_RX0_79 ins_X3_addNotice sel_X3_addNotice (cls_at k2 clsOK3) (by decide) (by decide) rfl rfl (Nat.le_of_ble_eq_true rfl) d_X0_isChanged_95 (k_V (fun M21 h => ?_)) (fun _ _ h9 => False.elim h9)
      try dsimp only at h
      refine R_iconst (pc := 98) (v := 1) d_X0_isChanged_98 (by decide) ?_
      exact R_retv (pc := 99) d_X0_isChanged_99 h
    · rw [if_pos c] at h
      refine R_iconst (pc := 77) (v := 0) d_X0_isChanged_77 (by decide) ?_
      exact R_retv (pc := 78) d_X0_isChanged_78 h
  · rw [if_neg c] at h
    refine R_aload_n (pc := 49) d_X0_isChanged_49 rfl rfl ?_
    refine R_getR (pc := 50) fld_RX0_9 rfl rfl k1 d_X0_isChanged_50 ?_
    refine R_iload_n (pc := 53) d_X0_isChanged_53 rfl rfl ?_
    refine R_iconst (pc := 54) (v := 2) d_X0_isChanged_54 (by decide) ?_
    refine R_callV (pc := 55) (As := [.int v1, .int 2]) (rest := []) (c_X3_addNotice (g := g) (rf v0 0) v1 2 M16 _ h) rfl rfl cal_RX0_79 ins_X3_addNotice sel_X3_addNotice (cls_at k2 clsOK3) (by decide) (by decide) rfl rfl (Nat.le_of_ble_eq_true rfl) d_X0_isChanged_55 (k_V (fun M22 h => ?_)) (fun _ _ h9 => False.elim h9)
    try dsimp only at h
    refine R_iconst (pc := 58) (v := 1) d_X0_isChanged_58 (by decide) ?_
    exact R_retv (pc := 59) d_X0_isChanged_59 h
/-! X0_rehouse -/
theorem d_X0_rehouse_0 : decode mX0_rehouse.2.1 0 = .ok (.iconst 0, 1) := by decide +kernel
theorem d_X0_rehouse_1 : decode mX0_rehouse.2.1 1 = .ok (.istore_n 3, 1) := by decide +kernel
theorem d_X0_rehouse_2 : decode mX0_rehouse.2.1 2 = .ok (.lload_n 1, 1) := by decide +kernel
theorem d_X0_rehouse_3 : decode mX0_rehouse.2.1 3 = .ok (.lstore 4, 2) := by decide +kernel
theorem d_X0_rehouse_5 : decode mX0_rehouse.2.1 5 = .ok (.iconst 0, 1) := by decide +kernel
theorem d_X0_rehouse_6 : decode mX0_rehouse.2.1 6 = .ok (.istore 6, 2) := by decide +kernel
theorem d_X0_rehouse_8 : decode mX0_rehouse.2.1 8 = .ok (.iload 6, 2) := by decide +kernel
theorem d_X0_rehouse_10 : decode mX0_rehouse.2.1 10 = .ok (.bipush 60, 2) := by decide +kernel
theorem d_X0_rehouse_12 : decode mX0_rehouse.2.1 12 = .ok (.if_icmp .ge 52, 3) := by decide +kernel
theorem d_X0_rehouse_15 : decode mX0_rehouse.2.1 15 = .ok (.lload 4, 2) := by decide +kernel
theorem d_X0_rehouse_17 : decode mX0_rehouse.2.1 17 = .ok (.lconst 0, 1) := by decide +kernel
theorem d_X0_rehouse_18 : decode mX0_rehouse.2.1 18 = .ok (.lcmp, 1) := by decide +kernel
theorem d_X0_rehouse_19 : decode mX0_rehouse.2.1 19 = .ok (.ifCond .eq 45, 3) := by decide +kernel
theorem d_X0_rehouse_22 : decode mX0_rehouse.2.1 22 = .ok (.aload_n 0, 1) := by decide +kernel
theorem d_X0_rehouse_23 : decode mX0_rehouse.2.1 23 = .ok (.getfield 9, 3) := by decide +kernel
theorem d_X0_rehouse_26 : decode mX0_rehouse.2.1 26 = .ok (.lload 4, 2) := by decide +kernel
theorem d_X0_rehouse_28 : decode mX0_rehouse.2.1 28 = .ok (.invokevirtual 62, 3) := by decide +kernel
theorem d_X0_rehouse_31 : decode mX0_rehouse.2.1 31 = .ok (.istore 7, 2) := by decide +kernel
theorem d_X0_rehouse_33 : decode mX0_rehouse.2.1 33 = .ok (.lload 4, 2) := by decide +kernel
theorem d_X0_rehouse_35 : decode mX0_rehouse.2.1 35 = .ok (.lconst 1, 1) := by decide +kernel
theorem d_X0_rehouse_36 : decode mX0_rehouse.2.1 36 = .ok (.iload 7, 2) := by decide +kernel
theorem d_X0_rehouse_38 : decode mX0_rehouse.2.1 38 = .ok (.lshl, 1) := by decide +kernel
theorem d_X0_rehouse_39 : decode mX0_rehouse.2.1 39 = .ok (.ldc2_w 65, 3) := by decide +kernel
theorem d_X0_rehouse_42 : decode mX0_rehouse.2.1 42 = .ok (.lxor, 1) := by decide +kernel
theorem d_X0_rehouse_43 : decode mX0_rehouse.2.1 43 = .ok (.land, 1) := by decide +kernel
theorem d_X0_rehouse_44 : decode mX0_rehouse.2.1 44 = .ok (.lstore 4, 2) := by decide +kernel
theorem d_X0_rehouse_46 : decode mX0_rehouse.2.1 46 = .ok (.aload_n 0, 1) := by decide +kernel
theorem d_X0_rehouse_47 : decode mX0_rehouse.2.1 47 = .ok (.iload 7, 2) := by decide +kernel
theorem d_X0_rehouse_49 : decode mX0_rehouse.2.1 49 = .ok (.invokevirtual 67, 3) := by decide +kernel
theorem d_X0_rehouse_52 : decode mX0_rehouse.2.1 52 = .ok (.ifCond .eq 6, 3) := by decide +kernel
theorem d_X0_rehouse_55 : decode mX0_rehouse.2.1 55 = .ok (.iinc 3 1, 3) := by decide +kernel
theorem d_X0_rehouse_58 : decode mX0_rehouse.2.1 58 = .ok (.iinc 6 1, 3) := by decide +kernel
theorem d_X0_rehouse_61 : decode mX0_rehouse.2.1 61 = .ok (.goto (-53), 3) := by decide +kernel
theorem d_X0_rehouse_64 : decode mX0_rehouse.2.1 64 = .ok (.iload_n 3, 1) := by decide +kernel
theorem d_X0_rehouse_65 : decode mX0_rehouse.2.1 65 = .ok (.ireturn, 1) := by decide +kernel
def T_X0_rehouse_64 (Q : Int32 → Mem → Prop) (v3 : Int32) (M : Mem) : Prop := Q v3 M
set_option maxRecDepth 100000 in
set_option maxHeartbeats 4000000 in
theorem B_X0_rehouse_64 {g : GG} (Q : Int32 → Mem → Prop) (v3 : Int32) (M : Mem) (h : T_X0_rehouse_64 Q v3 M) : WP g 13 mX0_rehouse 64 [none, none, none, some (.int v3), none, none, none, none] [] M 0 (oI Q noX) := by
  unfold T_X0_rehouse_64 at h
  refine R_iload_n (pc := 64) d_X0_rehouse_64 rfl rfl ?_
  exact R_retv (pc := 65) d_X0_rehouse_65 h
def T_X0_rehouse_58 (κ8 : Nat → Int32 → Int64 → Int32 → Mem → Prop) (Q : Int32 → Mem → Prop) (v0 : Nat) (v3 : Int32) (v4 : Int64) (v6 : Int32) (M : Mem) : Prop := ∀ x1 : Int32, x1 = v6 + 1 → κ8 v0 v3 v4 x1 M
set_option maxRecDepth 100000 in
set_option maxHeartbeats 4000000 in
theorem B_X0_rehouse_58 {g : GG} (Q : Int32 → Mem → Prop) (κ8 : Nat → Int32 → Int64 → Int32 → Mem → Prop) (hκ8 : ∀ (v0 : Nat) (v3 : Int32) (v4 : Int64) (v6 : Int32) (M : Mem), κ8 v0 v3 v4 v6 M → WP g 13 mX0_rehouse 8 [some (.ref (g.1 + v0)), none, none, some (.int v3), some (.long v4), none, some (.int v6), none] [] M 0 (oI Q noX)) (v0 : Nat) (v3 : Int32) (v4 : Int64) (v6 : Int32) (M : Mem) (h : T_X0_rehouse_58 κ8 Q v0 v3 v4 v6 M) : WP g 13 mX0_rehouse 58 [some (.ref (g.1 + v0)), none, none, some (.int v3), some (.long v4), none, some (.int v6), none] [] M 0 (oI Q noX) := by
  unfold T_X0_rehouse_58 at h
  obtain ⟨x1, ex1⟩ : ∃ z : Int32, z = v6 + 1 := ⟨_, rfl⟩
  have h := h x1 ex1
  refine R_iinc (pc := 58) (v := x1) (L' := [some (.ref (g.1 + v0)), none, none, some (.int v3), some (.long v4), none, some (.int x1), none]) d_X0_rehouse_58 rfl (by rw [ex1]; rfl) (by decide) rfl ?_
  refine R_goto (pc := 61) (tgt := 8) d_X0_rehouse_61 (by decide) ?_
  exact WP_sub (hκ8 v0 v3 v4 x1 M h) (by decide) (ls_s (ls_n (ls_n (ls_s (ls_s (ls_n (ls_s (ls_n ls_0))))))))
def T_X0_rehouse_8 (Q : Int32 → Mem → Prop) : Nat → Nat → Int32 → Int64 → Int32 → Mem → Prop
  | 0, _, _, _, _, _ => False
  | n + 1, v0, v3, v4, v6, M => if (60 : Int32) ≤ v6 then (T_X0_rehouse_64 Q v3 M) else (if (lg_cmp v4 0) = 0 then (T_X0_rehouse_64 Q v3 M) else ((kd v0 = 0) ∧ (kd (rf v0 0) = 3) ∧ T_X3_earliest (fun y4 M3 => ∀ l5 : Int64, l5 = v4 &&& ((1 <<< (Int32.toInt64 y4 &&& 63)) ^^^ (-1)) → T_X0_isChanged (fun y7 M6 => if y7 = 0 then (T_X0_rehouse_58 (T_X0_rehouse_8 Q n) Q v0 v3 l5 v6 M6) else (∀ x8 : Int32, x8 = v3 + 1 → T_X0_rehouse_58 (T_X0_rehouse_8 Q n) Q v0 x8 l5 v6 M6))  v0 y4 M3)  (rf v0 0) v4 M))
set_option maxRecDepth 100000 in
set_option maxHeartbeats 4000000 in
theorem B_X0_rehouse_8 {g : GG} (Q : Int32 → Mem → Prop) : ∀ (n : Nat) (v0 : Nat) (v3 : Int32) (v4 : Int64) (v6 : Int32) (M : Mem), T_X0_rehouse_8 Q n v0 v3 v4 v6 M → WP g 13 mX0_rehouse 8 [some (.ref (g.1 + v0)), none, none, some (.int v3), some (.long v4), none, some (.int v6), none] [] M 0 (oI Q noX) := by
  intro n
  induction n with
  | zero => intro v0 v3 v4 v6 M h; exact h.elim
  | succ n hκ8 =>
    intro v0 v3 v4 v6 M h
    unfold T_X0_rehouse_8 at h
    refine R_iload (pc := 8) d_X0_rehouse_8 rfl ?_
    refine R_bipush (pc := 10) (v := 60) d_X0_rehouse_10 (by decide) ?_
    refine R_icmp_ge (pc := 12) (tgt := 64) d_X0_rehouse_12 (by decide) (fun c => ?_) (fun c => ?_)
    · rw [if_pos c] at h
      exact WP_sub (B_X0_rehouse_64 Q v3 M h) (by decide) (ls_n (ls_n (ls_n (ls_s (ls_n (ls_n (ls_n (ls_n ls_0))))))))
    · rw [if_neg c] at h
      refine R_lload (pc := 15) d_X0_rehouse_15 rfl ?_
      refine R_lconst (pc := 17) (v := 0) d_X0_rehouse_17 (by decide) ?_
      refine R_lcmp (pc := 18) d_X0_rehouse_18 ?_
      refine R_if_eq (pc := 19) (tgt := 64) d_X0_rehouse_19 (by decide) (fun c => ?_) (fun c => ?_)
      · rw [if_pos c] at h
        exact WP_sub (B_X0_rehouse_64 Q v3 M h) (by decide) (ls_n (ls_n (ls_n (ls_s (ls_n (ls_n (ls_n (ls_n ls_0))))))))
      · rw [if_neg c] at h
        refine R_aload_n (pc := 22) d_X0_rehouse_22 rfl rfl ?_
        obtain ⟨k1, h⟩ := h
        refine R_getR (pc := 23) fld_RX0_9 rfl rfl k1 d_X0_rehouse_23 ?_
        refine R_lload (pc := 26) d_X0_rehouse_26 rfl ?_
        obtain ⟨k2, h⟩ := h
        refine R_callV (pc := 28) (As := [.long v4]) (rest := []) (c_X3_earliest (g := g) (rf v0 0) v4 M _ h) rfl rfl cal_RX0_62 ins_X3_earliest sel_X3_earliest (cls_at k2 clsOK3) (by decide) (by decide) rfl rfl (Nat.le_of_ble_eq_true rfl) d_X0_rehouse_28 (k_I (fun y4 M3 h => ?_)) (fun _ _ h9 => False.elim h9)
        try dsimp only at h
        refine R_istore (pc := 31) (L' := [some (.ref (g.1 + v0)), none, none, some (.int v3), some (.long v4), none, some (.int v6), some (.int y4)]) d_X0_rehouse_31 (by decide) rfl ?_
        refine R_lload (pc := 33) d_X0_rehouse_33 rfl ?_
        refine R_lconst (pc := 35) (v := 1) d_X0_rehouse_35 (by decide) ?_
        refine R_iload (pc := 36) d_X0_rehouse_36 rfl ?_
        refine R_lshl (pc := 38) d_X0_rehouse_38 ?_
        refine R_ldc2 (pc := 39) rfl cst_RX0_65 d_X0_rehouse_39 ?_
        refine R_lxor (pc := 42) d_X0_rehouse_42 ?_
        refine R_land (pc := 43) d_X0_rehouse_43 ?_
        refine N_l (fun l5 el5 => ?_)
        have h := h l5 el5
        refine R_lstore (pc := 44) (L' := [some (.ref (g.1 + v0)), none, none, some (.int v3), some (.long l5), none, some (.int v6), some (.int y4)]) d_X0_rehouse_44 (by decide) rfl ?_
        refine R_aload_n (pc := 46) d_X0_rehouse_46 rfl rfl ?_
        refine R_iload (pc := 47) d_X0_rehouse_47 rfl ?_
        refine R_callV (pc := 49) (As := [.int y4]) (rest := []) (c_X0_isChanged (g := g) v0 y4 M3 _ h) rfl rfl cal_RX0_67 ins_X0_isChanged sel_X0_isChanged (cls_at k1 clsOK0) (by decide) (by decide) rfl rfl (Nat.le_of_ble_eq_true rfl) d_X0_rehouse_49 (k_Z (fun y7 M6 h => ?_)) (fun _ _ h9 => False.elim h9)
        try dsimp only at h
        refine R_if_eq (pc := 52) (tgt := 58) d_X0_rehouse_52 (by decide) (fun c => ?_) (fun c => ?_)
        · rw [if_pos c] at h
          exact WP_sub (B_X0_rehouse_58 Q (T_X0_rehouse_8 Q n) hκ8 v0 v3 l5 v6 M6 h) (by decide) (ls_s (ls_n (ls_n (ls_s (ls_s (ls_n (ls_s (ls_n ls_0))))))))
        · rw [if_neg c] at h
          obtain ⟨x8, ex8⟩ : ∃ z : Int32, z = v3 + 1 := ⟨_, rfl⟩
          have h := h x8 ex8
          refine R_iinc (pc := 55) (v := x8) (L' := [some (.ref (g.1 + v0)), none, none, some (.int x8), some (.long l5), none, some (.int v6), some (.int y4)]) d_X0_rehouse_55 rfl (by rw [ex8]; rfl) (by decide) rfl ?_
          exact WP_sub (B_X0_rehouse_58 Q (T_X0_rehouse_8 Q n) hκ8 v0 x8 l5 v6 M6 h) (by decide) (ls_s (ls_n (ls_n (ls_s (ls_s (ls_n (ls_s (ls_n ls_0))))))))
def T_X0_rehouse (Q : Int32 → Mem → Prop) (v0 : Nat) (v1 : Int64) (M : Mem) : Prop := (∃ N : Nat, T_X0_rehouse_8 Q N v0 0 v1 0 M)
set_option maxRecDepth 100000 in
set_option maxHeartbeats 4000000 in
theorem c_X0_rehouse {g : GG} (v0 : Nat) (v1 : Int64) (M : Mem) (Q : Int32 → Mem → Prop) (h : T_X0_rehouse Q v0 v1 M) : CT g 13 mX0_rehouse [.ref (g.1 + v0), .long v1] M 0 (oI Q noX) := by
  refine CT_of (L := [some (.ref (g.1 + v0)), some (.long v1), none, none, none, none, none, none]) (by decide) rfl (Nat.le_of_ble_eq_true rfl) (ro_I rfl) rfl ?_
  unfold T_X0_rehouse at h
  refine R_iconst (pc := 0) (v := 0) d_X0_rehouse_0 (by decide) ?_
  refine R_istore_n (pc := 1) (L' := [some (.ref (g.1 + v0)), some (.long v1), none, some (.int 0), none, none, none, none]) d_X0_rehouse_1 rfl (by decide) rfl ?_
  refine R_lload_n (pc := 2) d_X0_rehouse_2 rfl rfl ?_
  refine R_lstore (pc := 3) (L' := [some (.ref (g.1 + v0)), some (.long v1), none, some (.int 0), some (.long v1), none, none, none]) d_X0_rehouse_3 (by decide) rfl ?_
  refine R_iconst (pc := 5) (v := 0) d_X0_rehouse_5 (by decide) ?_
  refine R_istore (pc := 6) (L' := [some (.ref (g.1 + v0)), some (.long v1), none, some (.int 0), some (.long v1), none, some (.int 0), none]) d_X0_rehouse_6 (by decide) rfl ?_
  obtain ⟨N, h⟩ := h
  exact WP_sub (B_X0_rehouse_8 Q N v0 0 v1 0 M h) (by decide) (ls_s (ls_n (ls_n (ls_s (ls_s (ls_n (ls_s (ls_n ls_0))))))))
/-! X0_closeRoom -/
theorem d_X0_closeRoom_0 : decode mX0_closeRoom.2.1 0 = .ok (.aload_n 0, 1) := by decide +kernel
theorem d_X0_closeRoom_1 : decode mX0_closeRoom.2.1 1 = .ok (.getfield 9, 3) := by decide +kernel
theorem d_X0_closeRoom_4 : decode mX0_closeRoom.2.1 4 = .ok (.getfield 44, 3) := by decide +kernel
theorem d_X0_closeRoom_7 : decode mX0_closeRoom.2.1 7 = .ok (.getfield 40, 3) := by decide +kernel
theorem d_X0_closeRoom_10 : decode mX0_closeRoom.2.1 10 = .ok (.iload_n 1, 1) := by decide +kernel
theorem d_X0_closeRoom_11 : decode mX0_closeRoom.2.1 11 = .ok (.aaload, 1) := by decide +kernel
theorem d_X0_closeRoom_12 : decode mX0_closeRoom.2.1 12 = .ok (.iconst 3, 1) := by decide +kernel
theorem d_X0_closeRoom_13 : decode mX0_closeRoom.2.1 13 = .ok (.iconst 0, 1) := by decide +kernel
theorem d_X0_closeRoom_14 : decode mX0_closeRoom.2.1 14 = .ok (.iastore, 1) := by decide +kernel
theorem d_X0_closeRoom_15 : decode mX0_closeRoom.2.1 15 = .ok (.aload_n 0, 1) := by decide +kernel
theorem d_X0_closeRoom_16 : decode mX0_closeRoom.2.1 16 = .ok (.aload_n 0, 1) := by decide +kernel
theorem d_X0_closeRoom_17 : decode mX0_closeRoom.2.1 17 = .ok (.getfield 9, 3) := by decide +kernel
theorem d_X0_closeRoom_20 : decode mX0_closeRoom.2.1 20 = .ok (.iconst 4, 1) := by decide +kernel
theorem d_X0_closeRoom_21 : decode mX0_closeRoom.2.1 21 = .ok (.iload_n 1, 1) := by decide +kernel
theorem d_X0_closeRoom_22 : decode mX0_closeRoom.2.1 22 = .ok (.invokevirtual 51, 3) := by decide +kernel
theorem d_X0_closeRoom_25 : decode mX0_closeRoom.2.1 25 = .ok (.invokevirtual 55, 3) := by decide +kernel
theorem d_X0_closeRoom_28 : decode mX0_closeRoom.2.1 28 = .ok (.ireturn, 1) := by decide +kernel
def T_X0_closeRoom (Q : Int32 → Mem → Prop) (v0 : Nat) (v1 : Int32) (M : Mem) : Prop := (kd v0 = 0) ∧ (kd (rf v0 0) = 3) ∧ (kd (rf (rf v0 0) 4) = 4) ∧ (kd (rf (rf (rf v0 0) 4) 0) = 10 ∨ kd (rf (rf (rf v0 0) 4) 0) = 11) ∧ (vp_in v1 (ln (rf (rf (rf v0 0) 4) 0))) ∧ (kd (rf (rf (rf (rf v0 0) 4) 0) (Int32.toNatClampNeg v1)) = 9) ∧ (vp_in 3 (ln (rf (rf (rf (rf v0 0) 4) 0) (Int32.toNatClampNeg v1)))) ∧ ∀ M8 : Mem, M8 = mset M (rf (rf (rf (rf v0 0) 4) 0) (Int32.toNatClampNeg v1)) (Int32.toNatClampNeg 3) 0 → T_X3_bookedWith (fun y10 M9 => T_X0_rehouse (fun y12 M11 => Q y12 M11)  v0 y10 M9)  (rf v0 0) 4 v1 M8
set_option maxRecDepth 100000 in
set_option maxHeartbeats 4000000 in
theorem c_X0_closeRoom {g : GG} (v0 : Nat) (v1 : Int32) (M : Mem) (Q : Int32 → Mem → Prop) (h : T_X0_closeRoom Q v0 v1 M) : CT g 14 mX0_closeRoom [.ref (g.1 + v0), .int v1] M 0 (oI Q noX) := by
  refine CT_of (L := [some (.ref (g.1 + v0)), some (.int v1)]) (by decide) rfl (Nat.le_of_ble_eq_true rfl) (ro_I rfl) rfl ?_
  unfold T_X0_closeRoom at h
  refine R_aload_n (pc := 0) d_X0_closeRoom_0 rfl rfl ?_
  obtain ⟨k1, h⟩ := h
  refine R_getR (pc := 1) fld_RX0_9 rfl rfl k1 d_X0_closeRoom_1 ?_
  obtain ⟨k2, h⟩ := h
  refine R_getR (pc := 4) fld_RX0_44 rfl rfl k2 d_X0_closeRoom_4 ?_
  obtain ⟨k3, h⟩ := h
  refine R_getR (pc := 7) fld_RX0_40 rfl rfl k3 d_X0_closeRoom_7 ?_
  refine R_iload_n (pc := 10) d_X0_closeRoom_10 rfl rfl ?_
  obtain ⟨k4, h⟩ := h
  obtain ⟨k5, h⟩ := h
  refine R_aald (pc := 11) k4 k5 d_X0_closeRoom_11 ?_
  refine R_iconst (pc := 12) (v := 3) d_X0_closeRoom_12 (by decide) ?_
  refine R_iconst (pc := 13) (v := 0) d_X0_closeRoom_13 (by decide) ?_
  obtain ⟨k6, h⟩ := h
  obtain ⟨k7, h⟩ := h
  refine R_iast (pc := 14) k6 k7 d_X0_closeRoom_14 (N_M (fun M8 eM8 => ?_))
  have h := h M8 eM8
  refine R_aload_n (pc := 15) d_X0_closeRoom_15 rfl rfl ?_
  refine R_aload_n (pc := 16) d_X0_closeRoom_16 rfl rfl ?_
  refine R_getR (pc := 17) fld_RX0_9 rfl rfl k1 d_X0_closeRoom_17 ?_
  refine R_iconst (pc := 20) (v := 4) d_X0_closeRoom_20 (by decide) ?_
  refine R_iload_n (pc := 21) d_X0_closeRoom_21 rfl rfl ?_
  refine R_callV (pc := 22) (As := [.int 4, .int v1]) (rest := [.ref (g.1 + v0)]) (c_X3_bookedWith (g := g) (rf v0 0) 4 v1 M8 _ h) rfl rfl cal_RX0_51 ins_X3_bookedWith sel_X3_bookedWith (cls_at k2 clsOK3) (by decide) (by decide) rfl rfl (Nat.le_of_ble_eq_true rfl) d_X0_closeRoom_22 (k_L (fun y10 M9 h => ?_)) (fun _ _ h9 => False.elim h9)
  try dsimp only at h
  refine R_callV (pc := 25) (As := [.long y10]) (rest := []) (c_X0_rehouse (g := g) v0 y10 M9 _ h) rfl rfl cal_RX0_55 ins_X0_rehouse sel_X0_rehouse (cls_at k1 clsOK0) (by decide) (by decide) rfl rfl (Nat.le_of_ble_eq_true rfl) d_X0_closeRoom_25 (k_I (fun y12 M11 h => ?_)) (fun _ _ h9 => False.elim h9)
  try dsimp only at h
  exact R_retv (pc := 28) d_X0_closeRoom_28 h
/-! X0_moveInmate -/
theorem d_X0_moveInmate_0 : decode mX0_moveInmate.2.1 0 = .ok (.aload_n 0, 1) := by decide +kernel
theorem d_X0_moveInmate_1 : decode mX0_moveInmate.2.1 1 = .ok (.getfield 9, 3) := by decide +kernel
theorem d_X0_moveInmate_4 : decode mX0_moveInmate.2.1 4 = .ok (.getfield 59, 3) := by decide +kernel
theorem d_X0_moveInmate_7 : decode mX0_moveInmate.2.1 7 = .ok (.getfield 40, 3) := by decide +kernel
theorem d_X0_moveInmate_10 : decode mX0_moveInmate.2.1 10 = .ok (.iload_n 1, 1) := by decide +kernel
theorem d_X0_moveInmate_11 : decode mX0_moveInmate.2.1 11 = .ok (.aaload, 1) := by decide +kernel
theorem d_X0_moveInmate_12 : decode mX0_moveInmate.2.1 12 = .ok (.iconst 0, 1) := by decide +kernel
theorem d_X0_moveInmate_13 : decode mX0_moveInmate.2.1 13 = .ok (.iload_n 2, 1) := by decide +kernel
theorem d_X0_moveInmate_14 : decode mX0_moveInmate.2.1 14 = .ok (.iastore, 1) := by decide +kernel
theorem d_X0_moveInmate_15 : decode mX0_moveInmate.2.1 15 = .ok (.aload_n 0, 1) := by decide +kernel
theorem d_X0_moveInmate_16 : decode mX0_moveInmate.2.1 16 = .ok (.aload_n 0, 1) := by decide +kernel
theorem d_X0_moveInmate_17 : decode mX0_moveInmate.2.1 17 = .ok (.getfield 9, 3) := by decide +kernel
theorem d_X0_moveInmate_20 : decode mX0_moveInmate.2.1 20 = .ok (.iconst 0, 1) := by decide +kernel
theorem d_X0_moveInmate_21 : decode mX0_moveInmate.2.1 21 = .ok (.iload_n 1, 1) := by decide +kernel
theorem d_X0_moveInmate_22 : decode mX0_moveInmate.2.1 22 = .ok (.invokevirtual 51, 3) := by decide +kernel
theorem d_X0_moveInmate_25 : decode mX0_moveInmate.2.1 25 = .ok (.invokevirtual 55, 3) := by decide +kernel
theorem d_X0_moveInmate_28 : decode mX0_moveInmate.2.1 28 = .ok (.ireturn, 1) := by decide +kernel
def T_X0_moveInmate (Q : Int32 → Mem → Prop) (v0 : Nat) (v1 : Int32) (v2 : Int32) (M : Mem) : Prop := (kd v0 = 0) ∧ (kd (rf v0 0) = 3) ∧ (kd (rf (rf v0 0) 2) = 4) ∧ (kd (rf (rf (rf v0 0) 2) 0) = 10 ∨ kd (rf (rf (rf v0 0) 2) 0) = 11) ∧ (vp_in v1 (ln (rf (rf (rf v0 0) 2) 0))) ∧ (kd (rf (rf (rf (rf v0 0) 2) 0) (Int32.toNatClampNeg v1)) = 9) ∧ (vp_in 0 (ln (rf (rf (rf (rf v0 0) 2) 0) (Int32.toNatClampNeg v1)))) ∧ ∀ M8 : Mem, M8 = mset M (rf (rf (rf (rf v0 0) 2) 0) (Int32.toNatClampNeg v1)) (Int32.toNatClampNeg 0) v2 → T_X3_bookedWith (fun y10 M9 => T_X0_rehouse (fun y12 M11 => Q y12 M11)  v0 y10 M9)  (rf v0 0) 0 v1 M8
set_option maxRecDepth 100000 in
set_option maxHeartbeats 4000000 in
theorem c_X0_moveInmate {g : GG} (v0 : Nat) (v1 : Int32) (v2 : Int32) (M : Mem) (Q : Int32 → Mem → Prop) (h : T_X0_moveInmate Q v0 v1 v2 M) : CT g 14 mX0_moveInmate [.ref (g.1 + v0), .int v1, .int v2] M 0 (oI Q noX) := by
  refine CT_of (L := [some (.ref (g.1 + v0)), some (.int v1), some (.int v2)]) (by decide) rfl (Nat.le_of_ble_eq_true rfl) (ro_I rfl) rfl ?_
  unfold T_X0_moveInmate at h
  refine R_aload_n (pc := 0) d_X0_moveInmate_0 rfl rfl ?_
  obtain ⟨k1, h⟩ := h
  refine R_getR (pc := 1) fld_RX0_9 rfl rfl k1 d_X0_moveInmate_1 ?_
  obtain ⟨k2, h⟩ := h
  refine R_getR (pc := 4) fld_RX0_59 rfl rfl k2 d_X0_moveInmate_4 ?_
  obtain ⟨k3, h⟩ := h
  refine R_getR (pc := 7) fld_RX0_40 rfl rfl k3 d_X0_moveInmate_7 ?_
  refine R_iload_n (pc := 10) d_X0_moveInmate_10 rfl rfl ?_
  obtain ⟨k4, h⟩ := h
  obtain ⟨k5, h⟩ := h
  refine R_aald (pc := 11) k4 k5 d_X0_moveInmate_11 ?_
  refine R_iconst (pc := 12) (v := 0) d_X0_moveInmate_12 (by decide) ?_
  refine R_iload_n (pc := 13) d_X0_moveInmate_13 rfl rfl ?_
  obtain ⟨k6, h⟩ := h
  obtain ⟨k7, h⟩ := h
  refine R_iast (pc := 14) k6 k7 d_X0_moveInmate_14 (N_M (fun M8 eM8 => ?_))
  have h := h M8 eM8
  refine R_aload_n (pc := 15) d_X0_moveInmate_15 rfl rfl ?_
  refine R_aload_n (pc := 16) d_X0_moveInmate_16 rfl rfl ?_
  refine R_getR (pc := 17) fld_RX0_9 rfl rfl k1 d_X0_moveInmate_17 ?_
  refine R_iconst (pc := 20) (v := 0) d_X0_moveInmate_20 (by decide) ?_
  refine R_iload_n (pc := 21) d_X0_moveInmate_21 rfl rfl ?_
  refine R_callV (pc := 22) (As := [.int 0, .int v1]) (rest := [.ref (g.1 + v0)]) (c_X3_bookedWith (g := g) (rf v0 0) 0 v1 M8 _ h) rfl rfl cal_RX0_51 ins_X3_bookedWith sel_X3_bookedWith (cls_at k2 clsOK3) (by decide) (by decide) rfl rfl (Nat.le_of_ble_eq_true rfl) d_X0_moveInmate_22 (k_L (fun y10 M9 h => ?_)) (fun _ _ h9 => False.elim h9)
  try dsimp only at h
  refine R_callV (pc := 25) (As := [.long y10]) (rest := []) (c_X0_rehouse (g := g) v0 y10 M9 _ h) rfl rfl cal_RX0_55 ins_X0_rehouse sel_X0_rehouse (cls_at k1 clsOK0) (by decide) (by decide) rfl rfl (Nat.le_of_ble_eq_true rfl) d_X0_moveInmate_25 (k_I (fun y12 M11 h => ?_)) (fun _ _ h9 => False.elim h9)
  try dsimp only at h
  exact R_retv (pc := 28) d_X0_moveInmate_28 h
/-! X0_confineInmate -/
theorem d_X0_confineInmate_0 : decode mX0_confineInmate.2.1 0 = .ok (.aload_n 0, 1) := by decide +kernel
theorem d_X0_confineInmate_1 : decode mX0_confineInmate.2.1 1 = .ok (.getfield 9, 3) := by decide +kernel
theorem d_X0_confineInmate_4 : decode mX0_confineInmate.2.1 4 = .ok (.getfield 59, 3) := by decide +kernel
theorem d_X0_confineInmate_7 : decode mX0_confineInmate.2.1 7 = .ok (.getfield 40, 3) := by decide +kernel
theorem d_X0_confineInmate_10 : decode mX0_confineInmate.2.1 10 = .ok (.iload_n 1, 1) := by decide +kernel
theorem d_X0_confineInmate_11 : decode mX0_confineInmate.2.1 11 = .ok (.aaload, 1) := by decide +kernel
theorem d_X0_confineInmate_12 : decode mX0_confineInmate.2.1 12 = .ok (.iconst 2, 1) := by decide +kernel
theorem d_X0_confineInmate_13 : decode mX0_confineInmate.2.1 13 = .ok (.iload_n 2, 1) := by decide +kernel
theorem d_X0_confineInmate_14 : decode mX0_confineInmate.2.1 14 = .ok (.ifCond .eq 7, 3) := by decide +kernel
theorem d_X0_confineInmate_17 : decode mX0_confineInmate.2.1 17 = .ok (.iconst 1, 1) := by decide +kernel
theorem d_X0_confineInmate_18 : decode mX0_confineInmate.2.1 18 = .ok (.goto 4, 3) := by decide +kernel
theorem d_X0_confineInmate_21 : decode mX0_confineInmate.2.1 21 = .ok (.iconst 0, 1) := by decide +kernel
theorem d_X0_confineInmate_22 : decode mX0_confineInmate.2.1 22 = .ok (.iastore, 1) := by decide +kernel
theorem d_X0_confineInmate_23 : decode mX0_confineInmate.2.1 23 = .ok (.iload_n 2, 1) := by decide +kernel
theorem d_X0_confineInmate_24 : decode mX0_confineInmate.2.1 24 = .ok (.ifCond .eq 19, 3) := by decide +kernel
theorem d_X0_confineInmate_27 : decode mX0_confineInmate.2.1 27 = .ok (.aload_n 0, 1) := by decide +kernel
theorem d_X0_confineInmate_28 : decode mX0_confineInmate.2.1 28 = .ok (.aload_n 0, 1) := by decide +kernel
theorem d_X0_confineInmate_29 : decode mX0_confineInmate.2.1 29 = .ok (.getfield 9, 3) := by decide +kernel
theorem d_X0_confineInmate_32 : decode mX0_confineInmate.2.1 32 = .ok (.iconst 0, 1) := by decide +kernel
theorem d_X0_confineInmate_33 : decode mX0_confineInmate.2.1 33 = .ok (.iload_n 1, 1) := by decide +kernel
theorem d_X0_confineInmate_34 : decode mX0_confineInmate.2.1 34 = .ok (.invokevirtual 51, 3) := by decide +kernel
theorem d_X0_confineInmate_37 : decode mX0_confineInmate.2.1 37 = .ok (.invokevirtual 55, 3) := by decide +kernel
theorem d_X0_confineInmate_40 : decode mX0_confineInmate.2.1 40 = .ok (.goto 4, 3) := by decide +kernel
theorem d_X0_confineInmate_43 : decode mX0_confineInmate.2.1 43 = .ok (.iconst 0, 1) := by decide +kernel
theorem d_X0_confineInmate_44 : decode mX0_confineInmate.2.1 44 = .ok (.ireturn, 1) := by decide +kernel
def T_X0_confineInmate_44 (Q : Int32 → Mem → Prop) (s0 : Int32) (M : Mem) : Prop := Q s0 M
set_option maxRecDepth 100000 in
set_option maxHeartbeats 4000000 in
theorem B_X0_confineInmate_44 {g : GG} (Q : Int32 → Mem → Prop) (s0 : Int32) (M : Mem) (h : T_X0_confineInmate_44 Q s0 M) : WP g 14 mX0_confineInmate 44 [none, none, none] [.int s0] M 0 (oI Q noX) := by
  unfold T_X0_confineInmate_44 at h
  exact R_retv (pc := 44) d_X0_confineInmate_44 h
def T_X0_confineInmate_22 (Q : Int32 → Mem → Prop) (v0 : Nat) (v1 : Int32) (v2 : Int32) (s0 : Int32) (s1 : Int32) (s2 : Nat) (M : Mem) : Prop := (kd s2 = 9) ∧ (vp_in s1 (ln s2)) ∧ ∀ M3 : Mem, M3 = mset M s2 (Int32.toNatClampNeg s1) s0 → if v2 = 0 then (T_X0_confineInmate_44 Q 0 M3) else ((kd v0 = 0) ∧ (kd (rf v0 0) = 3) ∧ T_X3_bookedWith (fun y7 M6 => T_X0_rehouse (fun y9 M8 => T_X0_confineInmate_44 Q y9 M8)  v0 y7 M6)  (rf v0 0) 0 v1 M3)
set_option maxRecDepth 100000 in
set_option maxHeartbeats 4000000 in
theorem B_X0_confineInmate_22 {g : GG} (Q : Int32 → Mem → Prop) (v0 : Nat) (v1 : Int32) (v2 : Int32) (s0 : Int32) (s1 : Int32) (s2 : Nat) (M : Mem) (h : T_X0_confineInmate_22 Q v0 v1 v2 s0 s1 s2 M) : WP g 14 mX0_confineInmate 22 [some (.ref (g.1 + v0)), some (.int v1), some (.int v2)] [.int s0, .int s1, .ref (g.1 + s2)] M 0 (oI Q noX) := by
  unfold T_X0_confineInmate_22 at h
  obtain ⟨k1, h⟩ := h
  obtain ⟨k2, h⟩ := h
  refine R_iast (pc := 22) k1 k2 d_X0_confineInmate_22 (N_M (fun M3 eM3 => ?_))
  have h := h M3 eM3
  refine R_iload_n (pc := 23) d_X0_confineInmate_23 rfl rfl ?_
  refine R_if_eq (pc := 24) (tgt := 43) d_X0_confineInmate_24 (by decide) (fun c => ?_) (fun c => ?_)
  · rw [if_pos c] at h
    refine R_iconst (pc := 43) (v := 0) d_X0_confineInmate_43 (by decide) ?_
    exact WP_sub (B_X0_confineInmate_44 Q 0 M3 h) (by decide) (ls_n (ls_n (ls_n ls_0)))
  · rw [if_neg c] at h
    refine R_aload_n (pc := 27) d_X0_confineInmate_27 rfl rfl ?_
    refine R_aload_n (pc := 28) d_X0_confineInmate_28 rfl rfl ?_
    obtain ⟨k4, h⟩ := h
    refine R_getR (pc := 29) fld_RX0_9 rfl rfl k4 d_X0_confineInmate_29 ?_
    refine R_iconst (pc := 32) (v := 0) d_X0_confineInmate_32 (by decide) ?_
    refine R_iload_n (pc := 33) d_X0_confineInmate_33 rfl rfl ?_
    obtain ⟨k5, h⟩ := h
    refine R_callV (pc := 34) (As := [.int 0, .int v1]) (rest := [.ref (g.1 + v0)]) (c_X3_bookedWith (g := g) (rf v0 0) 0 v1 M3 _ h) rfl rfl cal_RX0_51 ins_X3_bookedWith sel_X3_bookedWith (cls_at k5 clsOK3) (by decide) (by decide) rfl rfl (Nat.le_of_ble_eq_true rfl) d_X0_confineInmate_34 (k_L (fun y7 M6 h => ?_)) (fun _ _ h9 => False.elim h9)
    try dsimp only at h
    refine R_callV (pc := 37) (As := [.long y7]) (rest := []) (c_X0_rehouse (g := g) v0 y7 M6 _ h) rfl rfl cal_RX0_55 ins_X0_rehouse sel_X0_rehouse (cls_at k4 clsOK0) (by decide) (by decide) rfl rfl (Nat.le_of_ble_eq_true rfl) d_X0_confineInmate_37 (k_I (fun y9 M8 h => ?_)) (fun _ _ h9 => False.elim h9)
    try dsimp only at h
    refine R_goto (pc := 40) (tgt := 44) d_X0_confineInmate_40 (by decide) ?_
    exact WP_sub (B_X0_confineInmate_44 Q y9 M8 h) (by decide) (ls_n (ls_n (ls_n ls_0)))
def T_X0_confineInmate (Q : Int32 → Mem → Prop) (v0 : Nat) (v1 : Int32) (v2 : Int32) (M : Mem) : Prop := (kd v0 = 0) ∧ (kd (rf v0 0) = 3) ∧ (kd (rf (rf v0 0) 2) = 4) ∧ (kd (rf (rf (rf v0 0) 2) 0) = 10 ∨ kd (rf (rf (rf v0 0) 2) 0) = 11) ∧ (vp_in v1 (ln (rf (rf (rf v0 0) 2) 0))) ∧ if v2 = 0 then (T_X0_confineInmate_22 Q v0 v1 v2 0 2 (rf (rf (rf (rf v0 0) 2) 0) (Int32.toNatClampNeg v1)) M) else (T_X0_confineInmate_22 Q v0 v1 v2 1 2 (rf (rf (rf (rf v0 0) 2) 0) (Int32.toNatClampNeg v1)) M)
set_option maxRecDepth 100000 in
set_option maxHeartbeats 4000000 in
theorem c_X0_confineInmate {g : GG} (v0 : Nat) (v1 : Int32) (v2 : Int32) (M : Mem) (Q : Int32 → Mem → Prop) (h : T_X0_confineInmate Q v0 v1 v2 M) : CT g 14 mX0_confineInmate [.ref (g.1 + v0), .int v1, .int v2] M 0 (oI Q noX) := by
  refine CT_of (L := [some (.ref (g.1 + v0)), some (.int v1), some (.int v2)]) (by decide) rfl (Nat.le_of_ble_eq_true rfl) (ro_I rfl) rfl ?_
  unfold T_X0_confineInmate at h
  refine R_aload_n (pc := 0) d_X0_confineInmate_0 rfl rfl ?_
  obtain ⟨k1, h⟩ := h
  refine R_getR (pc := 1) fld_RX0_9 rfl rfl k1 d_X0_confineInmate_1 ?_
  obtain ⟨k2, h⟩ := h
  refine R_getR (pc := 4) fld_RX0_59 rfl rfl k2 d_X0_confineInmate_4 ?_
  obtain ⟨k3, h⟩ := h
  refine R_getR (pc := 7) fld_RX0_40 rfl rfl k3 d_X0_confineInmate_7 ?_
  refine R_iload_n (pc := 10) d_X0_confineInmate_10 rfl rfl ?_
  obtain ⟨k4, h⟩ := h
  obtain ⟨k5, h⟩ := h
  refine R_aald (pc := 11) k4 k5 d_X0_confineInmate_11 ?_
  refine R_iconst (pc := 12) (v := 2) d_X0_confineInmate_12 (by decide) ?_
  refine R_iload_n (pc := 13) d_X0_confineInmate_13 rfl rfl ?_
  refine R_if_eq (pc := 14) (tgt := 21) d_X0_confineInmate_14 (by decide) (fun c => ?_) (fun c => ?_)
  · rw [if_pos c] at h
    refine R_iconst (pc := 21) (v := 0) d_X0_confineInmate_21 (by decide) ?_
    exact WP_sub (B_X0_confineInmate_22 Q v0 v1 v2 0 2 (rf (rf (rf (rf v0 0) 2) 0) (Int32.toNatClampNeg v1)) M h) (by decide) (ls_s (ls_s (ls_s ls_0)))
  · rw [if_neg c] at h
    refine R_iconst (pc := 17) (v := 1) d_X0_confineInmate_17 (by decide) ?_
    refine R_goto (pc := 18) (tgt := 22) d_X0_confineInmate_18 (by decide) ?_
    exact WP_sub (B_X0_confineInmate_22 Q v0 v1 v2 1 2 (rf (rf (rf (rf v0 0) 2) 0) (Int32.toNatClampNeg v1)) M h) (by decide) (ls_s (ls_s (ls_s ls_0)))
/-! X0_dropForBan -/
theorem d_X0_dropForBan_0 : decode mX0_dropForBan.2.1 0 = .ok (.aload_n 0, 1) := by decide +kernel
theorem d_X0_dropForBan_1 : decode mX0_dropForBan.2.1 1 = .ok (.iload_n 1, 1) := by decide +kernel
theorem d_X0_dropForBan_2 : decode mX0_dropForBan.2.1 2 = .ok (.invokevirtual 114, 3) := by decide +kernel
theorem d_X0_dropForBan_5 : decode mX0_dropForBan.2.1 5 = .ok (.aload_n 0, 1) := by decide +kernel
theorem d_X0_dropForBan_6 : decode mX0_dropForBan.2.1 6 = .ok (.getfield 9, 3) := by decide +kernel
theorem d_X0_dropForBan_9 : decode mX0_dropForBan.2.1 9 = .ok (.iload_n 1, 1) := by decide +kernel
theorem d_X0_dropForBan_10 : decode mX0_dropForBan.2.1 10 = .ok (.iconst 1, 1) := by decide +kernel
theorem d_X0_dropForBan_11 : decode mX0_dropForBan.2.1 11 = .ok (.invokevirtual 79, 3) := by decide +kernel
theorem d_X0_dropForBan_14 : decode mX0_dropForBan.2.1 14 = .ok (.return_, 1) := by decide +kernel
def T_X0_dropForBan (Q : Mem → Prop) (v0 : Nat) (v1 : Int32) (M : Mem) : Prop := (kd v0 = 0) ∧ T_X0_dropVisit (fun M2 => (kd (rf v0 0) = 3) ∧ T_X3_addNotice (fun M4 => Q M4)  (rf v0 0) v1 1 M2)  v0 v1 M
set_option maxRecDepth 100000 in
set_option maxHeartbeats 4000000 in
theorem c_X0_dropForBan {g : GG} (v0 : Nat) (v1 : Int32) (M : Mem) (Q : Mem → Prop) (h : T_X0_dropForBan Q v0 v1 M) : CT g 11 mX0_dropForBan [.ref (g.1 + v0), .int v1] M 0 (oV Q noX) := by
  refine CT_of (L := [some (.ref (g.1 + v0)), some (.int v1)]) (by decide) rfl (Nat.le_of_ble_eq_true rfl) (ro_V rfl) rfl ?_
  unfold T_X0_dropForBan at h
  refine R_aload_n (pc := 0) d_X0_dropForBan_0 rfl rfl ?_
  refine R_iload_n (pc := 1) d_X0_dropForBan_1 rfl rfl ?_
  obtain ⟨k1, h⟩ := h
  refine R_callV (pc := 2) (As := [.int v1]) (rest := []) (c_X0_dropVisit (g := g) v0 v1 M _ h) rfl rfl cal_RX0_114 ins_X0_dropVisit sel_X0_dropVisit (cls_at k1 clsOK0) (by decide) (by decide) rfl rfl (Nat.le_of_ble_eq_true rfl) d_X0_dropForBan_2 (k_V (fun M2 h => ?_)) (fun _ _ h9 => False.elim h9)
  try dsimp only at h
  refine R_aload_n (pc := 5) d_X0_dropForBan_5 rfl rfl ?_
  refine R_getR (pc := 6) fld_RX0_9 rfl rfl k1 d_X0_dropForBan_6 ?_
  refine R_iload_n (pc := 9) d_X0_dropForBan_9 rfl rfl ?_
  refine R_iconst (pc := 10) (v := 1) d_X0_dropForBan_10 (by decide) ?_
  obtain ⟨k3, h⟩ := h
  refine R_callV (pc := 11) (As := [.int v1, .int 1]) (rest := []) (c_X3_addNotice (g := g) (rf v0 0) v1 1 M2 _ h) rfl rfl cal_RX0_79 ins_X3_addNotice sel_X3_addNotice (cls_at k3 clsOK3) (by decide) (by decide) rfl rfl (Nat.le_of_ble_eq_true rfl) d_X0_dropForBan_11 (k_V (fun M4 h => ?_)) (fun _ _ h9 => False.elim h9)
  try dsimp only at h
  exact R_ret (pc := 14) d_X0_dropForBan_14 h
/-! X0_dropBanned -/
theorem d_X0_dropBanned_0 : decode mX0_dropBanned.2.1 0 = .ok (.iconst 0, 1) := by decide +kernel
theorem d_X0_dropBanned_1 : decode mX0_dropBanned.2.1 1 = .ok (.istore_n 2, 1) := by decide +kernel
theorem d_X0_dropBanned_2 : decode mX0_dropBanned.2.1 2 = .ok (.iconst 0, 1) := by decide +kernel
theorem d_X0_dropBanned_3 : decode mX0_dropBanned.2.1 3 = .ok (.istore_n 3, 1) := by decide +kernel
theorem d_X0_dropBanned_4 : decode mX0_dropBanned.2.1 4 = .ok (.iload_n 3, 1) := by decide +kernel
theorem d_X0_dropBanned_5 : decode mX0_dropBanned.2.1 5 = .ok (.aload_n 0, 1) := by decide +kernel
theorem d_X0_dropBanned_6 : decode mX0_dropBanned.2.1 6 = .ok (.getfield 9, 3) := by decide +kernel
theorem d_X0_dropBanned_9 : decode mX0_dropBanned.2.1 9 = .ok (.getfield 19, 3) := by decide +kernel
theorem d_X0_dropBanned_12 : decode mX0_dropBanned.2.1 12 = .ok (.getfield 37, 3) := by decide +kernel
theorem d_X0_dropBanned_15 : decode mX0_dropBanned.2.1 15 = .ok (.if_icmp .ge 61, 3) := by decide +kernel
theorem d_X0_dropBanned_18 : decode mX0_dropBanned.2.1 18 = .ok (.aload_n 0, 1) := by decide +kernel
theorem d_X0_dropBanned_19 : decode mX0_dropBanned.2.1 19 = .ok (.getfield 9, 3) := by decide +kernel
theorem d_X0_dropBanned_22 : decode mX0_dropBanned.2.1 22 = .ok (.getfield 19, 3) := by decide +kernel
theorem d_X0_dropBanned_25 : decode mX0_dropBanned.2.1 25 = .ok (.getfield 40, 3) := by decide +kernel
theorem d_X0_dropBanned_28 : decode mX0_dropBanned.2.1 28 = .ok (.iload_n 3, 1) := by decide +kernel
theorem d_X0_dropBanned_29 : decode mX0_dropBanned.2.1 29 = .ok (.aaload, 1) := by decide +kernel
theorem d_X0_dropBanned_30 : decode mX0_dropBanned.2.1 30 = .ok (.astore 4, 2) := by decide +kernel
theorem d_X0_dropBanned_32 : decode mX0_dropBanned.2.1 32 = .ok (.aload 4, 2) := by decide +kernel
theorem d_X0_dropBanned_34 : decode mX0_dropBanned.2.1 34 = .ok (.iconst 5, 1) := by decide +kernel
theorem d_X0_dropBanned_35 : decode mX0_dropBanned.2.1 35 = .ok (.iaload, 1) := by decide +kernel
theorem d_X0_dropBanned_36 : decode mX0_dropBanned.2.1 36 = .ok (.ifCond .ne 34, 3) := by decide +kernel
theorem d_X0_dropBanned_39 : decode mX0_dropBanned.2.1 39 = .ok (.aload_n 0, 1) := by decide +kernel
theorem d_X0_dropBanned_40 : decode mX0_dropBanned.2.1 40 = .ok (.getfield 9, 3) := by decide +kernel
theorem d_X0_dropBanned_43 : decode mX0_dropBanned.2.1 43 = .ok (.aload_n 1, 1) := by decide +kernel
theorem d_X0_dropBanned_44 : decode mX0_dropBanned.2.1 44 = .ok (.aload 4, 2) := by decide +kernel
theorem d_X0_dropBanned_46 : decode mX0_dropBanned.2.1 46 = .ok (.iconst 0, 1) := by decide +kernel
theorem d_X0_dropBanned_47 : decode mX0_dropBanned.2.1 47 = .ok (.iaload, 1) := by decide +kernel
theorem d_X0_dropBanned_48 : decode mX0_dropBanned.2.1 48 = .ok (.aload 4, 2) := by decide +kernel
theorem d_X0_dropBanned_50 : decode mX0_dropBanned.2.1 50 = .ok (.iconst 1, 1) := by decide +kernel
theorem d_X0_dropBanned_51 : decode mX0_dropBanned.2.1 51 = .ok (.iaload, 1) := by decide +kernel
theorem d_X0_dropBanned_52 : decode mX0_dropBanned.2.1 52 = .ok (.aload 4, 2) := by decide +kernel
theorem d_X0_dropBanned_54 : decode mX0_dropBanned.2.1 54 = .ok (.iconst 2, 1) := by decide +kernel
theorem d_X0_dropBanned_55 : decode mX0_dropBanned.2.1 55 = .ok (.iaload, 1) := by decide +kernel
theorem d_X0_dropBanned_56 : decode mX0_dropBanned.2.1 56 = .ok (.invokevirtual 99, 3) := by decide +kernel
theorem d_X0_dropBanned_59 : decode mX0_dropBanned.2.1 59 = .ok (.ifCond .eq 11, 3) := by decide +kernel
theorem d_X0_dropBanned_62 : decode mX0_dropBanned.2.1 62 = .ok (.aload_n 0, 1) := by decide +kernel
theorem d_X0_dropBanned_63 : decode mX0_dropBanned.2.1 63 = .ok (.iload_n 3, 1) := by decide +kernel
theorem d_X0_dropBanned_64 : decode mX0_dropBanned.2.1 64 = .ok (.invokevirtual 103, 3) := by decide +kernel
theorem d_X0_dropBanned_67 : decode mX0_dropBanned.2.1 67 = .ok (.iinc 2 1, 3) := by decide +kernel
theorem d_X0_dropBanned_70 : decode mX0_dropBanned.2.1 70 = .ok (.iinc 3 1, 3) := by decide +kernel
theorem d_X0_dropBanned_73 : decode mX0_dropBanned.2.1 73 = .ok (.goto (-69), 3) := by decide +kernel
theorem d_X0_dropBanned_76 : decode mX0_dropBanned.2.1 76 = .ok (.iload_n 2, 1) := by decide +kernel
theorem d_X0_dropBanned_77 : decode mX0_dropBanned.2.1 77 = .ok (.ireturn, 1) := by decide +kernel
def T_X0_dropBanned_70 (κ4 : Nat → Nat → Int32 → Int32 → Mem → Prop) (Q : Int32 → Mem → Prop) (v0 : Nat) (v1 : Nat) (v2 : Int32) (v3 : Int32) (M : Mem) : Prop := ∀ x1 : Int32, x1 = v3 + 1 → κ4 v0 v1 v2 x1 M
set_option maxRecDepth 100000 in
set_option maxHeartbeats 4000000 in
theorem B_X0_dropBanned_70 {g : GG} (Q : Int32 → Mem → Prop) (κ4 : Nat → Nat → Int32 → Int32 → Mem → Prop) (hκ4 : ∀ (v0 : Nat) (v1 : Nat) (v2 : Int32) (v3 : Int32) (M : Mem), κ4 v0 v1 v2 v3 M → WP g 12 mX0_dropBanned 4 [some (.ref (g.1 + v0)), some (.ref (g.1 + v1)), some (.int v2), some (.int v3), none] [] M 0 (oI Q noX)) (v0 : Nat) (v1 : Nat) (v2 : Int32) (v3 : Int32) (M : Mem) (h : T_X0_dropBanned_70 κ4 Q v0 v1 v2 v3 M) : WP g 12 mX0_dropBanned 70 [some (.ref (g.1 + v0)), some (.ref (g.1 + v1)), some (.int v2), some (.int v3), none] [] M 0 (oI Q noX) := by
  unfold T_X0_dropBanned_70 at h
  obtain ⟨x1, ex1⟩ : ∃ z : Int32, z = v3 + 1 := ⟨_, rfl⟩
  have h := h x1 ex1
  refine R_iinc (pc := 70) (v := x1) (L' := [some (.ref (g.1 + v0)), some (.ref (g.1 + v1)), some (.int v2), some (.int x1), none]) d_X0_dropBanned_70 rfl (by rw [ex1]; rfl) (by decide) rfl ?_
  refine R_goto (pc := 73) (tgt := 4) d_X0_dropBanned_73 (by decide) ?_
  exact WP_sub (hκ4 v0 v1 v2 x1 M h) (by decide) (ls_s (ls_s (ls_s (ls_s (ls_n ls_0)))))
def T_X0_dropBanned_4 (Q : Int32 → Mem → Prop) : Nat → Nat → Nat → Int32 → Int32 → Mem → Prop
  | 0, _, _, _, _, _ => False
  | n + 1, v0, v1, v2, v3, M => (kd v0 = 0) ∧ (kd (rf v0 0) = 3) ∧ (kd (rf (rf v0 0) 5) = 4) ∧ if (M.1 (rf (rf v0 0) 5) 2) ≤ v3 then (Q v2 M) else ((kd (rf (rf (rf v0 0) 5) 0) = 10 ∨ kd (rf (rf (rf v0 0) 5) 0) = 11) ∧ (vp_in v3 (ln (rf (rf (rf v0 0) 5) 0))) ∧ ∀ r6 : Nat, r6 = rf (rf (rf (rf v0 0) 5) 0) (Int32.toNatClampNeg v3) → (kd r6 = 9) ∧ (vp_in 5 (ln r6)) ∧ if (M.1 r6 (Int32.toNatClampNeg 5)) = 0 then ((vp_in 0 (ln r6)) ∧ (vp_in 1 (ln r6)) ∧ (vp_in 2 (ln r6)) ∧ T_X3_isBroken (fun y13 M12 => if y13 = 0 then (T_X0_dropBanned_70 (T_X0_dropBanned_4 Q n) Q v0 v1 v2 v3 M12) else (T_X0_dropForBan (fun M14 => ∀ x15 : Int32, x15 = v2 + 1 → T_X0_dropBanned_70 (T_X0_dropBanned_4 Q n) Q v0 v1 x15 v3 M14)  v0 v3 M12))  (rf v0 0) v1 (M.1 r6 (Int32.toNatClampNeg 0)) (M.1 r6 (Int32.toNatClampNeg 1)) (M.1 r6 (Int32.toNatClampNeg 2)) M) else (T_X0_dropBanned_70 (T_X0_dropBanned_4 Q n) Q v0 v1 v2 v3 M))
set_option maxRecDepth 100000 in
set_option maxHeartbeats 4000000 in
theorem B_X0_dropBanned_4 {g : GG} (Q : Int32 → Mem → Prop) : ∀ (n : Nat) (v0 : Nat) (v1 : Nat) (v2 : Int32) (v3 : Int32) (M : Mem), T_X0_dropBanned_4 Q n v0 v1 v2 v3 M → WP g 12 mX0_dropBanned 4 [some (.ref (g.1 + v0)), some (.ref (g.1 + v1)), some (.int v2), some (.int v3), none] [] M 0 (oI Q noX) := by
  intro n
  induction n with
  | zero => intro v0 v1 v2 v3 M h; exact h.elim
  | succ n hκ4 =>
    intro v0 v1 v2 v3 M h
    unfold T_X0_dropBanned_4 at h
    refine R_iload_n (pc := 4) d_X0_dropBanned_4 rfl rfl ?_
    refine R_aload_n (pc := 5) d_X0_dropBanned_5 rfl rfl ?_
    obtain ⟨k1, h⟩ := h
    refine R_getR (pc := 6) fld_RX0_9 rfl rfl k1 d_X0_dropBanned_6 ?_
    obtain ⟨k2, h⟩ := h
    refine R_getR (pc := 9) fld_RX0_19 rfl rfl k2 d_X0_dropBanned_9 ?_
    obtain ⟨k3, h⟩ := h
    refine R_getI (pc := 12) fld_RX0_37 rfl rfl k3 d_X0_dropBanned_12 ?_
    refine R_icmp_ge (pc := 15) (tgt := 76) d_X0_dropBanned_15 (by decide) (fun c => ?_) (fun c => ?_)
    · rw [if_pos c] at h
      refine R_iload_n (pc := 76) d_X0_dropBanned_76 rfl rfl ?_
      exact R_retv (pc := 77) d_X0_dropBanned_77 h
    · rw [if_neg c] at h
      refine R_aload_n (pc := 18) d_X0_dropBanned_18 rfl rfl ?_
      refine R_getR (pc := 19) fld_RX0_9 rfl rfl k1 d_X0_dropBanned_19 ?_
      refine R_getR (pc := 22) fld_RX0_19 rfl rfl k2 d_X0_dropBanned_22 ?_
      refine R_getR (pc := 25) fld_RX0_40 rfl rfl k3 d_X0_dropBanned_25 ?_
      refine R_iload_n (pc := 28) d_X0_dropBanned_28 rfl rfl ?_
      obtain ⟨k4, h⟩ := h
      obtain ⟨k5, h⟩ := h
      refine R_aald (pc := 29) k4 k5 d_X0_dropBanned_29 ?_
      refine N_r (fun r6 er6 => ?_)
      have h := h r6 er6
      refine R_astore (pc := 30) (L' := [some (.ref (g.1 + v0)), some (.ref (g.1 + v1)), some (.int v2), some (.int v3), some (.ref (g.1 + r6))]) d_X0_dropBanned_30 (by decide) rfl ?_
      refine R_aload (pc := 32) d_X0_dropBanned_32 rfl ?_
      refine R_iconst (pc := 34) (v := 5) d_X0_dropBanned_34 (by decide) ?_
      obtain ⟨k7, h⟩ := h
      obtain ⟨k8, h⟩ := h
      refine R_iald (pc := 35) k7 k8 d_X0_dropBanned_35 ?_
      refine R_if_ne (pc := 36) (tgt := 70) d_X0_dropBanned_36 (by decide) (fun c => ?_) (fun c => ?_)
      · rw [if_neg c] at h
        exact WP_sub (B_X0_dropBanned_70 Q (T_X0_dropBanned_4 Q n) hκ4 v0 v1 v2 v3 M h) (by decide) (ls_s (ls_s (ls_s (ls_s (ls_n ls_0)))))
      · rw [if_pos c] at h
        refine R_aload_n (pc := 39) d_X0_dropBanned_39 rfl rfl ?_
        refine R_getR (pc := 40) fld_RX0_9 rfl rfl k1 d_X0_dropBanned_40 ?_
        refine R_aload_n (pc := 43) d_X0_dropBanned_43 rfl rfl ?_
        refine R_aload (pc := 44) d_X0_dropBanned_44 rfl ?_
        refine R_iconst (pc := 46) (v := 0) d_X0_dropBanned_46 (by decide) ?_
        obtain ⟨k9, h⟩ := h
        refine R_iald (pc := 47) k7 k9 d_X0_dropBanned_47 ?_
        refine R_aload (pc := 48) d_X0_dropBanned_48 rfl ?_
        refine R_iconst (pc := 50) (v := 1) d_X0_dropBanned_50 (by decide) ?_
        obtain ⟨k10, h⟩ := h
        refine R_iald (pc := 51) k7 k10 d_X0_dropBanned_51 ?_
        refine R_aload (pc := 52) d_X0_dropBanned_52 rfl ?_
        refine R_iconst (pc := 54) (v := 2) d_X0_dropBanned_54 (by decide) ?_
        obtain ⟨k11, h⟩ := h
        refine R_iald (pc := 55) k7 k11 d_X0_dropBanned_55 ?_
        refine R_callV (pc := 56) (As := [.ref (g.1 + v1), .int (M.1 r6 (Int32.toNatClampNeg 0)), .int (M.1 r6 (Int32.toNatClampNeg 1)), .int (M.1 r6 (Int32.toNatClampNeg 2))]) (rest := []) (c_X3_isBroken (g := g) (rf v0 0) v1 (M.1 r6 (Int32.toNatClampNeg 0)) (M.1 r6 (Int32.toNatClampNeg 1)) (M.1 r6 (Int32.toNatClampNeg 2)) M _ h) rfl rfl cal_RX0_99 ins_X3_isBroken sel_X3_isBroken (cls_at k2 clsOK3) (by decide) (by decide) rfl rfl (Nat.le_of_ble_eq_true rfl) d_X0_dropBanned_56 (k_Z (fun y13 M12 h => ?_)) (fun _ _ h9 => False.elim h9)
        try dsimp only at h
        refine R_if_eq (pc := 59) (tgt := 70) d_X0_dropBanned_59 (by decide) (fun c => ?_) (fun c => ?_)
        · rw [if_pos c] at h
          exact WP_sub (B_X0_dropBanned_70 Q (T_X0_dropBanned_4 Q n) hκ4 v0 v1 v2 v3 M12 h) (by decide) (ls_s (ls_s (ls_s (ls_s (ls_n ls_0)))))
        · rw [if_neg c] at h
          refine R_aload_n (pc := 62) d_X0_dropBanned_62 rfl rfl ?_
          refine R_iload_n (pc := 63) d_X0_dropBanned_63 rfl rfl ?_
          refine R_callV (pc := 64) (As := [.int v3]) (rest := []) (c_X0_dropForBan (g := g) v0 v3 M12 _ h) rfl rfl cal_RX0_103 ins_X0_dropForBan sel_X0_dropForBan (cls_at k1 clsOK0) (by decide) (by decide) rfl rfl (Nat.le_of_ble_eq_true rfl) d_X0_dropBanned_64 (k_V (fun M14 h => ?_)) (fun _ _ h9 => False.elim h9)
          try dsimp only at h
          obtain ⟨x15, ex15⟩ : ∃ z : Int32, z = v2 + 1 := ⟨_, rfl⟩
          have h := h x15 ex15
          refine R_iinc (pc := 67) (v := x15) (L' := [some (.ref (g.1 + v0)), some (.ref (g.1 + v1)), some (.int x15), some (.int v3), some (.ref (g.1 + r6))]) d_X0_dropBanned_67 rfl (by rw [ex15]; rfl) (by decide) rfl ?_
          exact WP_sub (B_X0_dropBanned_70 Q (T_X0_dropBanned_4 Q n) hκ4 v0 v1 x15 v3 M14 h) (by decide) (ls_s (ls_s (ls_s (ls_s (ls_n ls_0)))))
def T_X0_dropBanned (Q : Int32 → Mem → Prop) (v0 : Nat) (v1 : Nat) (M : Mem) : Prop := (∃ N : Nat, T_X0_dropBanned_4 Q N v0 v1 0 0 M)
set_option maxRecDepth 100000 in
set_option maxHeartbeats 4000000 in
theorem c_X0_dropBanned {g : GG} (v0 : Nat) (v1 : Nat) (M : Mem) (Q : Int32 → Mem → Prop) (h : T_X0_dropBanned Q v0 v1 M) : CT g 12 mX0_dropBanned [.ref (g.1 + v0), .ref (g.1 + v1)] M 0 (oI Q noX) := by
  refine CT_of (L := [some (.ref (g.1 + v0)), some (.ref (g.1 + v1)), none, none, none]) (by decide) rfl (Nat.le_of_ble_eq_true rfl) (ro_I rfl) rfl ?_
  unfold T_X0_dropBanned at h
  refine R_iconst (pc := 0) (v := 0) d_X0_dropBanned_0 (by decide) ?_
  refine R_istore_n (pc := 1) (L' := [some (.ref (g.1 + v0)), some (.ref (g.1 + v1)), some (.int 0), none, none]) d_X0_dropBanned_1 rfl (by decide) rfl ?_
  refine R_iconst (pc := 2) (v := 0) d_X0_dropBanned_2 (by decide) ?_
  refine R_istore_n (pc := 3) (L' := [some (.ref (g.1 + v0)), some (.ref (g.1 + v1)), some (.int 0), some (.int 0), none]) d_X0_dropBanned_3 rfl (by decide) rfl ?_
  obtain ⟨N, h⟩ := h
  exact WP_sub (B_X0_dropBanned_4 Q N v0 v1 0 0 M h) (by decide) (ls_s (ls_s (ls_s (ls_s (ls_n ls_0)))))
/-! X0_visitAtSameTime -/
theorem d_X0_visitAtSameTime_0 : decode mX0_visitAtSameTime.2.1 0 = .ok (.aload_n 0, 1) := by decide +kernel
theorem d_X0_visitAtSameTime_1 : decode mX0_visitAtSameTime.2.1 1 = .ok (.getfield 9, 3) := by decide +kernel
theorem d_X0_visitAtSameTime_4 : decode mX0_visitAtSameTime.2.1 4 = .ok (.getfield 19, 3) := by decide +kernel
theorem d_X0_visitAtSameTime_7 : decode mX0_visitAtSameTime.2.1 7 = .ok (.getfield 40, 3) := by decide +kernel
theorem d_X0_visitAtSameTime_10 : decode mX0_visitAtSameTime.2.1 10 = .ok (.iload_n 1, 1) := by decide +kernel
theorem d_X0_visitAtSameTime_11 : decode mX0_visitAtSameTime.2.1 11 = .ok (.aaload, 1) := by decide +kernel
theorem d_X0_visitAtSameTime_12 : decode mX0_visitAtSameTime.2.1 12 = .ok (.astore_n 3, 1) := by decide +kernel
theorem d_X0_visitAtSameTime_13 : decode mX0_visitAtSameTime.2.1 13 = .ok (.aload_n 0, 1) := by decide +kernel
theorem d_X0_visitAtSameTime_14 : decode mX0_visitAtSameTime.2.1 14 = .ok (.getfield 9, 3) := by decide +kernel
theorem d_X0_visitAtSameTime_17 : decode mX0_visitAtSameTime.2.1 17 = .ok (.iconst 0, 1) := by decide +kernel
theorem d_X0_visitAtSameTime_18 : decode mX0_visitAtSameTime.2.1 18 = .ok (.iload_n 2, 1) := by decide +kernel
theorem d_X0_visitAtSameTime_19 : decode mX0_visitAtSameTime.2.1 19 = .ok (.invokevirtual 51, 3) := by decide +kernel
theorem d_X0_visitAtSameTime_22 : decode mX0_visitAtSameTime.2.1 22 = .ok (.lstore 4, 2) := by decide +kernel
theorem d_X0_visitAtSameTime_24 : decode mX0_visitAtSameTime.2.1 24 = .ok (.iconst 0, 1) := by decide +kernel
theorem d_X0_visitAtSameTime_25 : decode mX0_visitAtSameTime.2.1 25 = .ok (.istore 6, 2) := by decide +kernel
theorem d_X0_visitAtSameTime_27 : decode mX0_visitAtSameTime.2.1 27 = .ok (.iload 6, 2) := by decide +kernel
theorem d_X0_visitAtSameTime_29 : decode mX0_visitAtSameTime.2.1 29 = .ok (.aload_n 0, 1) := by decide +kernel
theorem d_X0_visitAtSameTime_30 : decode mX0_visitAtSameTime.2.1 30 = .ok (.getfield 9, 3) := by decide +kernel
theorem d_X0_visitAtSameTime_33 : decode mX0_visitAtSameTime.2.1 33 = .ok (.getfield 19, 3) := by decide +kernel
theorem d_X0_visitAtSameTime_36 : decode mX0_visitAtSameTime.2.1 36 = .ok (.getfield 37, 3) := by decide +kernel
theorem d_X0_visitAtSameTime_39 : decode mX0_visitAtSameTime.2.1 39 = .ok (.if_icmp .ge 59, 3) := by decide +kernel
theorem d_X0_visitAtSameTime_42 : decode mX0_visitAtSameTime.2.1 42 = .ok (.aload_n 0, 1) := by decide +kernel
theorem d_X0_visitAtSameTime_43 : decode mX0_visitAtSameTime.2.1 43 = .ok (.getfield 9, 3) := by decide +kernel
theorem d_X0_visitAtSameTime_46 : decode mX0_visitAtSameTime.2.1 46 = .ok (.getfield 19, 3) := by decide +kernel
theorem d_X0_visitAtSameTime_49 : decode mX0_visitAtSameTime.2.1 49 = .ok (.getfield 40, 3) := by decide +kernel
theorem d_X0_visitAtSameTime_52 : decode mX0_visitAtSameTime.2.1 52 = .ok (.iload 6, 2) := by decide +kernel
theorem d_X0_visitAtSameTime_54 : decode mX0_visitAtSameTime.2.1 54 = .ok (.aaload, 1) := by decide +kernel
theorem d_X0_visitAtSameTime_55 : decode mX0_visitAtSameTime.2.1 55 = .ok (.astore 7, 2) := by decide +kernel
theorem d_X0_visitAtSameTime_57 : decode mX0_visitAtSameTime.2.1 57 = .ok (.lload 4, 2) := by decide +kernel
theorem d_X0_visitAtSameTime_59 : decode mX0_visitAtSameTime.2.1 59 = .ok (.iload 6, 2) := by decide +kernel
theorem d_X0_visitAtSameTime_61 : decode mX0_visitAtSameTime.2.1 61 = .ok (.lushr, 1) := by decide +kernel
theorem d_X0_visitAtSameTime_62 : decode mX0_visitAtSameTime.2.1 62 = .ok (.lconst 1, 1) := by decide +kernel
theorem d_X0_visitAtSameTime_63 : decode mX0_visitAtSameTime.2.1 63 = .ok (.land, 1) := by decide +kernel
theorem d_X0_visitAtSameTime_64 : decode mX0_visitAtSameTime.2.1 64 = .ok (.lconst 0, 1) := by decide +kernel
theorem d_X0_visitAtSameTime_65 : decode mX0_visitAtSameTime.2.1 65 = .ok (.lcmp, 1) := by decide +kernel
theorem d_X0_visitAtSameTime_66 : decode mX0_visitAtSameTime.2.1 66 = .ok (.ifCond .eq 26, 3) := by decide +kernel
theorem d_X0_visitAtSameTime_69 : decode mX0_visitAtSameTime.2.1 69 = .ok (.aload 7, 2) := by decide +kernel
theorem d_X0_visitAtSameTime_71 : decode mX0_visitAtSameTime.2.1 71 = .ok (.iconst 2, 1) := by decide +kernel
theorem d_X0_visitAtSameTime_72 : decode mX0_visitAtSameTime.2.1 72 = .ok (.iaload, 1) := by decide +kernel
theorem d_X0_visitAtSameTime_73 : decode mX0_visitAtSameTime.2.1 73 = .ok (.aload_n 3, 1) := by decide +kernel
theorem d_X0_visitAtSameTime_74 : decode mX0_visitAtSameTime.2.1 74 = .ok (.iconst 2, 1) := by decide +kernel
theorem d_X0_visitAtSameTime_75 : decode mX0_visitAtSameTime.2.1 75 = .ok (.iaload, 1) := by decide +kernel
theorem d_X0_visitAtSameTime_76 : decode mX0_visitAtSameTime.2.1 76 = .ok (.if_icmp .ne 16, 3) := by decide +kernel
theorem d_X0_visitAtSameTime_79 : decode mX0_visitAtSameTime.2.1 79 = .ok (.aload 7, 2) := by decide +kernel
theorem d_X0_visitAtSameTime_81 : decode mX0_visitAtSameTime.2.1 81 = .ok (.iconst 3, 1) := by decide +kernel
theorem d_X0_visitAtSameTime_82 : decode mX0_visitAtSameTime.2.1 82 = .ok (.iaload, 1) := by decide +kernel
theorem d_X0_visitAtSameTime_83 : decode mX0_visitAtSameTime.2.1 83 = .ok (.aload_n 3, 1) := by decide +kernel
theorem d_X0_visitAtSameTime_84 : decode mX0_visitAtSameTime.2.1 84 = .ok (.iconst 3, 1) := by decide +kernel
theorem d_X0_visitAtSameTime_85 : decode mX0_visitAtSameTime.2.1 85 = .ok (.iaload, 1) := by decide +kernel
theorem d_X0_visitAtSameTime_86 : decode mX0_visitAtSameTime.2.1 86 = .ok (.if_icmp .ne 6, 3) := by decide +kernel
theorem d_X0_visitAtSameTime_89 : decode mX0_visitAtSameTime.2.1 89 = .ok (.iload 6, 2) := by decide +kernel
theorem d_X0_visitAtSameTime_91 : decode mX0_visitAtSameTime.2.1 91 = .ok (.ireturn, 1) := by decide +kernel
theorem d_X0_visitAtSameTime_92 : decode mX0_visitAtSameTime.2.1 92 = .ok (.iinc 6 1, 3) := by decide +kernel
theorem d_X0_visitAtSameTime_95 : decode mX0_visitAtSameTime.2.1 95 = .ok (.goto (-68), 3) := by decide +kernel
theorem d_X0_visitAtSameTime_98 : decode mX0_visitAtSameTime.2.1 98 = .ok (.iconst (-1), 1) := by decide +kernel
theorem d_X0_visitAtSameTime_99 : decode mX0_visitAtSameTime.2.1 99 = .ok (.ireturn, 1) := by decide +kernel
def T_X0_visitAtSameTime_92 (κ27 : Nat → Nat → Int64 → Int32 → Mem → Prop) (Q : Int32 → Mem → Prop) (v0 : Nat) (v3 : Nat) (v4 : Int64) (v6 : Int32) (M : Mem) : Prop := ∀ x1 : Int32, x1 = v6 + 1 → κ27 v0 v3 v4 x1 M
set_option maxRecDepth 100000 in
set_option maxHeartbeats 4000000 in
theorem B_X0_visitAtSameTime_92 {g : GG} (Q : Int32 → Mem → Prop) (κ27 : Nat → Nat → Int64 → Int32 → Mem → Prop) (hκ27 : ∀ (v0 : Nat) (v3 : Nat) (v4 : Int64) (v6 : Int32) (M : Mem), κ27 v0 v3 v4 v6 M → WP g 10 mX0_visitAtSameTime 27 [some (.ref (g.1 + v0)), none, none, some (.ref (g.1 + v3)), some (.long v4), none, some (.int v6), none] [] M 0 (oI Q noX)) (v0 : Nat) (v3 : Nat) (v4 : Int64) (v6 : Int32) (M : Mem) (h : T_X0_visitAtSameTime_92 κ27 Q v0 v3 v4 v6 M) : WP g 10 mX0_visitAtSameTime 92 [some (.ref (g.1 + v0)), none, none, some (.ref (g.1 + v3)), some (.long v4), none, some (.int v6), none] [] M 0 (oI Q noX) := by
  unfold T_X0_visitAtSameTime_92 at h
  obtain ⟨x1, ex1⟩ : ∃ z : Int32, z = v6 + 1 := ⟨_, rfl⟩
  have h := h x1 ex1
  refine R_iinc (pc := 92) (v := x1) (L' := [some (.ref (g.1 + v0)), none, none, some (.ref (g.1 + v3)), some (.long v4), none, some (.int x1), none]) d_X0_visitAtSameTime_92 rfl (by rw [ex1]; rfl) (by decide) rfl ?_
  refine R_goto (pc := 95) (tgt := 27) d_X0_visitAtSameTime_95 (by decide) ?_
  exact WP_sub (hκ27 v0 v3 v4 x1 M h) (by decide) (ls_s (ls_n (ls_n (ls_s (ls_s (ls_n (ls_s (ls_n ls_0))))))))
def T_X0_visitAtSameTime_27 (Q : Int32 → Mem → Prop) : Nat → Nat → Nat → Int64 → Int32 → Mem → Prop
  | 0, _, _, _, _, _ => False
  | n + 1, v0, v3, v4, v6, M => (kd v0 = 0) ∧ (kd (rf v0 0) = 3) ∧ (kd (rf (rf v0 0) 5) = 4) ∧ if (M.1 (rf (rf v0 0) 5) 2) ≤ v6 then (Q (-1) M) else ((kd (rf (rf (rf v0 0) 5) 0) = 10 ∨ kd (rf (rf (rf v0 0) 5) 0) = 11) ∧ (vp_in v6 (ln (rf (rf (rf v0 0) 5) 0))) ∧ ∀ r6 : Nat, r6 = rf (rf (rf (rf v0 0) 5) 0) (Int32.toNatClampNeg v6) → if (lg_cmp (((Int64.toUInt64 v4 >>> ((Int32.toInt64 v6).toUInt64 &&& Int64.toUInt64 63)).toInt64) &&& 1) 0) = 0 then (T_X0_visitAtSameTime_92 (T_X0_visitAtSameTime_27 Q n) Q v0 v3 v4 v6 M) else ((kd r6 = 9) ∧ (vp_in 2 (ln r6)) ∧ (kd v3 = 9) ∧ (vp_in 2 (ln v3)) ∧ if (M.1 r6 (Int32.toNatClampNeg 2)) = (M.1 v3 (Int32.toNatClampNeg 2)) then ((vp_in 3 (ln r6)) ∧ (vp_in 3 (ln v3)) ∧ if (M.1 r6 (Int32.toNatClampNeg 3)) = (M.1 v3 (Int32.toNatClampNeg 3)) then (Q v6 M) else (T_X0_visitAtSameTime_92 (T_X0_visitAtSameTime_27 Q n) Q v0 v3 v4 v6 M)) else (T_X0_visitAtSameTime_92 (T_X0_visitAtSameTime_27 Q n) Q v0 v3 v4 v6 M)))
set_option maxRecDepth 100000 in
set_option maxHeartbeats 4000000 in
theorem B_X0_visitAtSameTime_27 {g : GG} (Q : Int32 → Mem → Prop) : ∀ (n : Nat) (v0 : Nat) (v3 : Nat) (v4 : Int64) (v6 : Int32) (M : Mem), T_X0_visitAtSameTime_27 Q n v0 v3 v4 v6 M → WP g 10 mX0_visitAtSameTime 27 [some (.ref (g.1 + v0)), none, none, some (.ref (g.1 + v3)), some (.long v4), none, some (.int v6), none] [] M 0 (oI Q noX) := by
  intro n
  induction n with
  | zero => intro v0 v3 v4 v6 M h; exact h.elim
  | succ n hκ27 =>
    intro v0 v3 v4 v6 M h
    unfold T_X0_visitAtSameTime_27 at h
    refine R_iload (pc := 27) d_X0_visitAtSameTime_27 rfl ?_
    refine R_aload_n (pc := 29) d_X0_visitAtSameTime_29 rfl rfl ?_
    obtain ⟨k1, h⟩ := h
    refine R_getR (pc := 30) fld_RX0_9 rfl rfl k1 d_X0_visitAtSameTime_30 ?_
    obtain ⟨k2, h⟩ := h
    refine R_getR (pc := 33) fld_RX0_19 rfl rfl k2 d_X0_visitAtSameTime_33 ?_
    obtain ⟨k3, h⟩ := h
    refine R_getI (pc := 36) fld_RX0_37 rfl rfl k3 d_X0_visitAtSameTime_36 ?_
    refine R_icmp_ge (pc := 39) (tgt := 98) d_X0_visitAtSameTime_39 (by decide) (fun c => ?_) (fun c => ?_)
    · rw [if_pos c] at h
      refine R_iconst (pc := 98) (v := (-1)) d_X0_visitAtSameTime_98 (by decide) ?_
      exact R_retv (pc := 99) d_X0_visitAtSameTime_99 h
    · rw [if_neg c] at h
      refine R_aload_n (pc := 42) d_X0_visitAtSameTime_42 rfl rfl ?_
      refine R_getR (pc := 43) fld_RX0_9 rfl rfl k1 d_X0_visitAtSameTime_43 ?_
      refine R_getR (pc := 46) fld_RX0_19 rfl rfl k2 d_X0_visitAtSameTime_46 ?_
      refine R_getR (pc := 49) fld_RX0_40 rfl rfl k3 d_X0_visitAtSameTime_49 ?_
      refine R_iload (pc := 52) d_X0_visitAtSameTime_52 rfl ?_
      obtain ⟨k4, h⟩ := h
      obtain ⟨k5, h⟩ := h
      refine R_aald (pc := 54) k4 k5 d_X0_visitAtSameTime_54 ?_
      refine N_r (fun r6 er6 => ?_)
      have h := h r6 er6
      refine R_astore (pc := 55) (L' := [some (.ref (g.1 + v0)), none, none, some (.ref (g.1 + v3)), some (.long v4), none, some (.int v6), some (.ref (g.1 + r6))]) d_X0_visitAtSameTime_55 (by decide) rfl ?_
      refine R_lload (pc := 57) d_X0_visitAtSameTime_57 rfl ?_
      refine R_iload (pc := 59) d_X0_visitAtSameTime_59 rfl ?_
      refine R_lushr (pc := 61) d_X0_visitAtSameTime_61 ?_
      refine R_lconst (pc := 62) (v := 1) d_X0_visitAtSameTime_62 (by decide) ?_
      refine R_land (pc := 63) d_X0_visitAtSameTime_63 ?_
      refine R_lconst (pc := 64) (v := 0) d_X0_visitAtSameTime_64 (by decide) ?_
      refine R_lcmp (pc := 65) d_X0_visitAtSameTime_65 ?_
      refine R_if_eq (pc := 66) (tgt := 92) d_X0_visitAtSameTime_66 (by decide) (fun c => ?_) (fun c => ?_)
      · rw [if_pos c] at h
        exact WP_sub (B_X0_visitAtSameTime_92 Q (T_X0_visitAtSameTime_27 Q n) hκ27 v0 v3 v4 v6 M h) (by decide) (ls_s (ls_n (ls_n (ls_s (ls_s (ls_n (ls_s (ls_n ls_0))))))))
      · rw [if_neg c] at h
        refine R_aload (pc := 69) d_X0_visitAtSameTime_69 rfl ?_
        refine R_iconst (pc := 71) (v := 2) d_X0_visitAtSameTime_71 (by decide) ?_
        obtain ⟨k7, h⟩ := h
        obtain ⟨k8, h⟩ := h
        refine R_iald (pc := 72) k7 k8 d_X0_visitAtSameTime_72 ?_
        refine R_aload_n (pc := 73) d_X0_visitAtSameTime_73 rfl rfl ?_
        refine R_iconst (pc := 74) (v := 2) d_X0_visitAtSameTime_74 (by decide) ?_
        obtain ⟨k9, h⟩ := h
        obtain ⟨k10, h⟩ := h
        refine R_iald (pc := 75) k9 k10 d_X0_visitAtSameTime_75 ?_
        refine R_icmp_ne (pc := 76) (tgt := 92) d_X0_visitAtSameTime_76 (by decide) (fun c => ?_) (fun c => ?_)
        · rw [if_neg c] at h
          exact WP_sub (B_X0_visitAtSameTime_92 Q (T_X0_visitAtSameTime_27 Q n) hκ27 v0 v3 v4 v6 M h) (by decide) (ls_s (ls_n (ls_n (ls_s (ls_s (ls_n (ls_s (ls_n ls_0))))))))
        · rw [if_pos c] at h
          refine R_aload (pc := 79) d_X0_visitAtSameTime_79 rfl ?_
          refine R_iconst (pc := 81) (v := 3) d_X0_visitAtSameTime_81 (by decide) ?_
          obtain ⟨k11, h⟩ := h
          refine R_iald (pc := 82) k7 k11 d_X0_visitAtSameTime_82 ?_
          refine R_aload_n (pc := 83) d_X0_visitAtSameTime_83 rfl rfl ?_
          refine R_iconst (pc := 84) (v := 3) d_X0_visitAtSameTime_84 (by decide) ?_
          obtain ⟨k12, h⟩ := h
          refine R_iald (pc := 85) k9 k12 d_X0_visitAtSameTime_85 ?_
          refine R_icmp_ne (pc := 86) (tgt := 92) d_X0_visitAtSameTime_86 (by decide) (fun c => ?_) (fun c => ?_)
          · rw [if_neg c] at h
            exact WP_sub (B_X0_visitAtSameTime_92 Q (T_X0_visitAtSameTime_27 Q n) hκ27 v0 v3 v4 v6 M h) (by decide) (ls_s (ls_n (ls_n (ls_s (ls_s (ls_n (ls_s (ls_n ls_0))))))))
          · rw [if_pos c] at h
            refine R_iload (pc := 89) d_X0_visitAtSameTime_89 rfl ?_
            exact R_retv (pc := 91) d_X0_visitAtSameTime_91 h
def T_X0_visitAtSameTime (Q : Int32 → Mem → Prop) (v0 : Nat) (v1 : Int32) (v2 : Int32) (M : Mem) : Prop := (kd v0 = 0) ∧ (kd (rf v0 0) = 3) ∧ (kd (rf (rf v0 0) 5) = 4) ∧ (kd (rf (rf (rf v0 0) 5) 0) = 10 ∨ kd (rf (rf (rf v0 0) 5) 0) = 11) ∧ (vp_in v1 (ln (rf (rf (rf v0 0) 5) 0))) ∧ ∀ r6 : Nat, r6 = rf (rf (rf (rf v0 0) 5) 0) (Int32.toNatClampNeg v1) → T_X3_bookedWith (fun y8 M7 => (∃ N : Nat, T_X0_visitAtSameTime_27 Q N v0 r6 y8 0 M7))  (rf v0 0) 0 v2 M
set_option maxRecDepth 100000 in
set_option maxHeartbeats 4000000 in
theorem c_X0_visitAtSameTime {g : GG} (v0 : Nat) (v1 : Int32) (v2 : Int32) (M : Mem) (Q : Int32 → Mem → Prop) (h : T_X0_visitAtSameTime Q v0 v1 v2 M) : CT g 10 mX0_visitAtSameTime [.ref (g.1 + v0), .int v1, .int v2] M 0 (oI Q noX) := by
  refine CT_of (L := [some (.ref (g.1 + v0)), some (.int v1), some (.int v2), none, none, none, none, none]) (by decide) rfl (Nat.le_of_ble_eq_true rfl) (ro_I rfl) rfl ?_
  unfold T_X0_visitAtSameTime at h
  refine R_aload_n (pc := 0) d_X0_visitAtSameTime_0 rfl rfl ?_
  obtain ⟨k1, h⟩ := h
  refine R_getR (pc := 1) fld_RX0_9 rfl rfl k1 d_X0_visitAtSameTime_1 ?_
  obtain ⟨k2, h⟩ := h
  refine R_getR (pc := 4) fld_RX0_19 rfl rfl k2 d_X0_visitAtSameTime_4 ?_
  obtain ⟨k3, h⟩ := h
  refine R_getR (pc := 7) fld_RX0_40 rfl rfl k3 d_X0_visitAtSameTime_7 ?_
  refine R_iload_n (pc := 10) d_X0_visitAtSameTime_10 rfl rfl ?_
  obtain ⟨k4, h⟩ := h
  obtain ⟨k5, h⟩ := h
  refine R_aald (pc := 11) k4 k5 d_X0_visitAtSameTime_11 ?_
  refine N_r (fun r6 er6 => ?_)
  have h := h r6 er6
  refine R_astore_n (pc := 12) (L' := [some (.ref (g.1 + v0)), some (.int v1), some (.int v2), some (.ref (g.1 + r6)), none, none, none, none]) d_X0_visitAtSameTime_12 rfl (by decide) rfl ?_
  refine R_aload_n (pc := 13) d_X0_visitAtSameTime_13 rfl rfl ?_
  refine R_getR (pc := 14) fld_RX0_9 rfl rfl k1 d_X0_visitAtSameTime_14 ?_
  refine R_iconst (pc := 17) (v := 0) d_X0_visitAtSameTime_17 (by decide) ?_
  refine R_iload_n (pc := 18) d_X0_visitAtSameTime_18 rfl rfl ?_
  refine R_callV (pc := 19) (As := [.int 0, .int v2]) (rest := []) (c_X3_bookedWith (g := g) (rf v0 0) 0 v2 M _ h) rfl rfl cal_RX0_51 ins_X3_bookedWith sel_X3_bookedWith (cls_at k2 clsOK3) (by decide) (by decide) rfl rfl (Nat.le_of_ble_eq_true rfl) d_X0_visitAtSameTime_19 (k_L (fun y8 M7 h => ?_)) (fun _ _ h9 => False.elim h9)
  try dsimp only at h
  refine R_lstore (pc := 22) (L' := [some (.ref (g.1 + v0)), some (.int v1), some (.int v2), some (.ref (g.1 + r6)), some (.long y8), none, none, none]) d_X0_visitAtSameTime_22 (by decide) rfl ?_
  refine R_iconst (pc := 24) (v := 0) d_X0_visitAtSameTime_24 (by decide) ?_
  refine R_istore (pc := 25) (L' := [some (.ref (g.1 + v0)), some (.int v1), some (.int v2), some (.ref (g.1 + r6)), some (.long y8), none, some (.int 0), none]) d_X0_visitAtSameTime_25 (by decide) rfl ?_
  obtain ⟨N, h⟩ := h
  exact WP_sub (B_X0_visitAtSameTime_27 Q N v0 r6 y8 0 M7 h) (by decide) (ls_s (ls_n (ls_n (ls_s (ls_s (ls_n (ls_s (ls_n ls_0))))))))
/-! X0_areClose -/
theorem d_X0_areClose_0 : decode mX0_areClose.2.1 0 = .ok (.aload_n 0, 1) := by decide +kernel
theorem d_X0_areClose_1 : decode mX0_areClose.2.1 1 = .ok (.getfield 9, 3) := by decide +kernel
theorem d_X0_areClose_4 : decode mX0_areClose.2.1 4 = .ok (.getfield 44, 3) := by decide +kernel
theorem d_X0_areClose_7 : decode mX0_areClose.2.1 7 = .ok (.getfield 40, 3) := by decide +kernel
theorem d_X0_areClose_10 : decode mX0_areClose.2.1 10 = .ok (.aload_n 0, 1) := by decide +kernel
theorem d_X0_areClose_11 : decode mX0_areClose.2.1 11 = .ok (.getfield 9, 3) := by decide +kernel
theorem d_X0_areClose_14 : decode mX0_areClose.2.1 14 = .ok (.getfield 19, 3) := by decide +kernel
theorem d_X0_areClose_17 : decode mX0_areClose.2.1 17 = .ok (.getfield 40, 3) := by decide +kernel
theorem d_X0_areClose_20 : decode mX0_areClose.2.1 20 = .ok (.iload_n 1, 1) := by decide +kernel
theorem d_X0_areClose_21 : decode mX0_areClose.2.1 21 = .ok (.aaload, 1) := by decide +kernel
theorem d_X0_areClose_22 : decode mX0_areClose.2.1 22 = .ok (.iconst 4, 1) := by decide +kernel
theorem d_X0_areClose_23 : decode mX0_areClose.2.1 23 = .ok (.iaload, 1) := by decide +kernel
theorem d_X0_areClose_24 : decode mX0_areClose.2.1 24 = .ok (.aaload, 1) := by decide +kernel
theorem d_X0_areClose_25 : decode mX0_areClose.2.1 25 = .ok (.iconst 0, 1) := by decide +kernel
theorem d_X0_areClose_26 : decode mX0_areClose.2.1 26 = .ok (.iaload, 1) := by decide +kernel
theorem d_X0_areClose_27 : decode mX0_areClose.2.1 27 = .ok (.istore_n 3, 1) := by decide +kernel
theorem d_X0_areClose_28 : decode mX0_areClose.2.1 28 = .ok (.aload_n 0, 1) := by decide +kernel
theorem d_X0_areClose_29 : decode mX0_areClose.2.1 29 = .ok (.getfield 9, 3) := by decide +kernel
theorem d_X0_areClose_32 : decode mX0_areClose.2.1 32 = .ok (.getfield 44, 3) := by decide +kernel
theorem d_X0_areClose_35 : decode mX0_areClose.2.1 35 = .ok (.getfield 40, 3) := by decide +kernel
theorem d_X0_areClose_38 : decode mX0_areClose.2.1 38 = .ok (.aload_n 0, 1) := by decide +kernel
theorem d_X0_areClose_39 : decode mX0_areClose.2.1 39 = .ok (.getfield 9, 3) := by decide +kernel
theorem d_X0_areClose_42 : decode mX0_areClose.2.1 42 = .ok (.getfield 19, 3) := by decide +kernel
theorem d_X0_areClose_45 : decode mX0_areClose.2.1 45 = .ok (.getfield 40, 3) := by decide +kernel
theorem d_X0_areClose_48 : decode mX0_areClose.2.1 48 = .ok (.iload_n 2, 1) := by decide +kernel
theorem d_X0_areClose_49 : decode mX0_areClose.2.1 49 = .ok (.aaload, 1) := by decide +kernel
theorem d_X0_areClose_50 : decode mX0_areClose.2.1 50 = .ok (.iconst 4, 1) := by decide +kernel
theorem d_X0_areClose_51 : decode mX0_areClose.2.1 51 = .ok (.iaload, 1) := by decide +kernel
theorem d_X0_areClose_52 : decode mX0_areClose.2.1 52 = .ok (.aaload, 1) := by decide +kernel
theorem d_X0_areClose_53 : decode mX0_areClose.2.1 53 = .ok (.iconst 0, 1) := by decide +kernel
theorem d_X0_areClose_54 : decode mX0_areClose.2.1 54 = .ok (.iaload, 1) := by decide +kernel
theorem d_X0_areClose_55 : decode mX0_areClose.2.1 55 = .ok (.istore 4, 2) := by decide +kernel
theorem d_X0_areClose_57 : decode mX0_areClose.2.1 57 = .ok (.iload_n 3, 1) := by decide +kernel
theorem d_X0_areClose_58 : decode mX0_areClose.2.1 58 = .ok (.iload 4, 2) := by decide +kernel
theorem d_X0_areClose_60 : decode mX0_areClose.2.1 60 = .ok (.isub, 1) := by decide +kernel
theorem d_X0_areClose_61 : decode mX0_areClose.2.1 61 = .ok (.iconst 2, 1) := by decide +kernel
theorem d_X0_areClose_62 : decode mX0_areClose.2.1 62 = .ok (.if_icmp .ge 15, 3) := by decide +kernel
theorem d_X0_areClose_65 : decode mX0_areClose.2.1 65 = .ok (.iload 4, 2) := by decide +kernel
theorem d_X0_areClose_67 : decode mX0_areClose.2.1 67 = .ok (.iload_n 3, 1) := by decide +kernel
theorem d_X0_areClose_68 : decode mX0_areClose.2.1 68 = .ok (.isub, 1) := by decide +kernel
theorem d_X0_areClose_69 : decode mX0_areClose.2.1 69 = .ok (.iconst 2, 1) := by decide +kernel
theorem d_X0_areClose_70 : decode mX0_areClose.2.1 70 = .ok (.if_icmp .ge 7, 3) := by decide +kernel
theorem d_X0_areClose_73 : decode mX0_areClose.2.1 73 = .ok (.iconst 1, 1) := by decide +kernel
theorem d_X0_areClose_74 : decode mX0_areClose.2.1 74 = .ok (.goto 4, 3) := by decide +kernel
theorem d_X0_areClose_77 : decode mX0_areClose.2.1 77 = .ok (.iconst 0, 1) := by decide +kernel
theorem d_X0_areClose_78 : decode mX0_areClose.2.1 78 = .ok (.ireturn, 1) := by decide +kernel
def T_X0_areClose_78 (Q : Int32 → Mem → Prop) (s0 : Int32) (M : Mem) : Prop := ((s0 : Int32) = 0 ∨ (s0 : Int32) = 1) ∧ Q s0 M
set_option maxRecDepth 100000 in
set_option maxHeartbeats 4000000 in
theorem B_X0_areClose_78 {g : GG} (Q : Int32 → Mem → Prop) (s0 : Int32) (M : Mem) (h : T_X0_areClose_78 Q s0 M) : WP g 9 mX0_areClose 78 [none, none, none, none, none] [.int s0] M 0 (oZ Q noX) := by
  unfold T_X0_areClose_78 at h
  exact R_retv (pc := 78) d_X0_areClose_78 h
def T_X0_areClose_77 (Q : Int32 → Mem → Prop) (M : Mem) : Prop := T_X0_areClose_78 Q 0 M
set_option maxRecDepth 100000 in
set_option maxHeartbeats 4000000 in
theorem B_X0_areClose_77 {g : GG} (Q : Int32 → Mem → Prop) (M : Mem) (h : T_X0_areClose_77 Q  M) : WP g 9 mX0_areClose 77 [none, none, none, none, none] [] M 0 (oZ Q noX) := by
  unfold T_X0_areClose_77 at h
  refine R_iconst (pc := 77) (v := 0) d_X0_areClose_77 (by decide) ?_
  exact WP_sub (B_X0_areClose_78 Q 0 M h) (by decide) (ls_n (ls_n (ls_n (ls_n (ls_n ls_0)))))
def T_X0_areClose (Q : Int32 → Mem → Prop) (v0 : Nat) (v1 : Int32) (v2 : Int32) (M : Mem) : Prop := (kd v0 = 0) ∧ (kd (rf v0 0) = 3) ∧ (kd (rf (rf v0 0) 4) = 4) ∧ (kd (rf (rf v0 0) 5) = 4) ∧ (kd (rf (rf (rf v0 0) 5) 0) = 10 ∨ kd (rf (rf (rf v0 0) 5) 0) = 11) ∧ (vp_in v1 (ln (rf (rf (rf v0 0) 5) 0))) ∧ (kd (rf (rf (rf (rf v0 0) 5) 0) (Int32.toNatClampNeg v1)) = 9) ∧ (vp_in 4 (ln (rf (rf (rf (rf v0 0) 5) 0) (Int32.toNatClampNeg v1)))) ∧ (kd (rf (rf (rf v0 0) 4) 0) = 10 ∨ kd (rf (rf (rf v0 0) 4) 0) = 11) ∧ (vp_in (M.1 (rf (rf (rf (rf v0 0) 5) 0) (Int32.toNatClampNeg v1)) (Int32.toNatClampNeg 4)) (ln (rf (rf (rf v0 0) 4) 0))) ∧ (kd (rf (rf (rf (rf v0 0) 4) 0) (Int32.toNatClampNeg (M.1 (rf (rf (rf (rf v0 0) 5) 0) (Int32.toNatClampNeg v1)) (Int32.toNatClampNeg 4)))) = 9) ∧ (vp_in 0 (ln (rf (rf (rf (rf v0 0) 4) 0) (Int32.toNatClampNeg (M.1 (rf (rf (rf (rf v0 0) 5) 0) (Int32.toNatClampNeg v1)) (Int32.toNatClampNeg 4)))))) ∧ ∀ x13 : Int32, x13 = M.1 (rf (rf (rf (rf v0 0) 4) 0) (Int32.toNatClampNeg (M.1 (rf (rf (rf (rf v0 0) 5) 0) (Int32.toNatClampNeg v1)) (Int32.toNatClampNeg 4)))) (Int32.toNatClampNeg 0) → (vp_in v2 (ln (rf (rf (rf v0 0) 5) 0))) ∧ (kd (rf (rf (rf (rf v0 0) 5) 0) (Int32.toNatClampNeg v2)) = 9) ∧ (vp_in 4 (ln (rf (rf (rf (rf v0 0) 5) 0) (Int32.toNatClampNeg v2)))) ∧ (vp_in (M.1 (rf (rf (rf (rf v0 0) 5) 0) (Int32.toNatClampNeg v2)) (Int32.toNatClampNeg 4)) (ln (rf (rf (rf v0 0) 4) 0))) ∧ (kd (rf (rf (rf (rf v0 0) 4) 0) (Int32.toNatClampNeg (M.1 (rf (rf (rf (rf v0 0) 5) 0) (Int32.toNatClampNeg v2)) (Int32.toNatClampNeg 4)))) = 9) ∧ (vp_in 0 (ln (rf (rf (rf (rf v0 0) 4) 0) (Int32.toNatClampNeg (M.1 (rf (rf (rf (rf v0 0) 5) 0) (Int32.toNatClampNeg v2)) (Int32.toNatClampNeg 4)))))) ∧ ∀ x20 : Int32, x20 = M.1 (rf (rf (rf (rf v0 0) 4) 0) (Int32.toNatClampNeg (M.1 (rf (rf (rf (rf v0 0) 5) 0) (Int32.toNatClampNeg v2)) (Int32.toNatClampNeg 4)))) (Int32.toNatClampNeg 0) → if (2 : Int32) ≤ (x13 - x20) then (T_X0_areClose_77 Q M) else (if (2 : Int32) ≤ (x20 - x13) then (T_X0_areClose_77 Q M) else (T_X0_areClose_78 Q 1 M))
set_option maxRecDepth 100000 in
set_option maxHeartbeats 4000000 in
theorem c_X0_areClose {g : GG} (v0 : Nat) (v1 : Int32) (v2 : Int32) (M : Mem) (Q : Int32 → Mem → Prop) (h : T_X0_areClose Q v0 v1 v2 M) : CT g 9 mX0_areClose [.ref (g.1 + v0), .int v1, .int v2] M 0 (oZ Q noX) := by
  refine CT_of (L := [some (.ref (g.1 + v0)), some (.int v1), some (.int v2), none, none]) (by decide) rfl (Nat.le_of_ble_eq_true rfl) (ro_Z rfl) rfl ?_
  unfold T_X0_areClose at h
  refine R_aload_n (pc := 0) d_X0_areClose_0 rfl rfl ?_
  obtain ⟨k1, h⟩ := h
  refine R_getR (pc := 1) fld_RX0_9 rfl rfl k1 d_X0_areClose_1 ?_
  obtain ⟨k2, h⟩ := h
  refine R_getR (pc := 4) fld_RX0_44 rfl rfl k2 d_X0_areClose_4 ?_
  obtain ⟨k3, h⟩ := h
  refine R_getR (pc := 7) fld_RX0_40 rfl rfl k3 d_X0_areClose_7 ?_
  refine R_aload_n (pc := 10) d_X0_areClose_10 rfl rfl ?_
  refine R_getR (pc := 11) fld_RX0_9 rfl rfl k1 d_X0_areClose_11 ?_
  refine R_getR (pc := 14) fld_RX0_19 rfl rfl k2 d_X0_areClose_14 ?_
  obtain ⟨k4, h⟩ := h
  refine R_getR (pc := 17) fld_RX0_40 rfl rfl k4 d_X0_areClose_17 ?_
  refine R_iload_n (pc := 20) d_X0_areClose_20 rfl rfl ?_
  obtain ⟨k5, h⟩ := h
  obtain ⟨k6, h⟩ := h
  refine R_aald (pc := 21) k5 k6 d_X0_areClose_21 ?_
  refine R_iconst (pc := 22) (v := 4) d_X0_areClose_22 (by decide) ?_
  obtain ⟨k7, h⟩ := h
  obtain ⟨k8, h⟩ := h
  refine R_iald (pc := 23) k7 k8 d_X0_areClose_23 ?_
  obtain ⟨k9, h⟩ := h
  obtain ⟨k10, h⟩ := h
  refine R_aald (pc := 24) k9 k10 d_X0_areClose_24 ?_
  refine R_iconst (pc := 25) (v := 0) d_X0_areClose_25 (by decide) ?_
  obtain ⟨k11, h⟩ := h
  obtain ⟨k12, h⟩ := h
  refine R_iald (pc := 26) k11 k12 d_X0_areClose_26 ?_
  refine N_i (fun x13 ex13 => ?_)
  have h := h x13 ex13
  refine R_istore_n (pc := 27) (L' := [some (.ref (g.1 + v0)), some (.int v1), some (.int v2), some (.int x13), none]) d_X0_areClose_27 rfl (by decide) rfl ?_
  refine R_aload_n (pc := 28) d_X0_areClose_28 rfl rfl ?_
  refine R_getR (pc := 29) fld_RX0_9 rfl rfl k1 d_X0_areClose_29 ?_
  refine R_getR (pc := 32) fld_RX0_44 rfl rfl k2 d_X0_areClose_32 ?_
  refine R_getR (pc := 35) fld_RX0_40 rfl rfl k3 d_X0_areClose_35 ?_
  refine R_aload_n (pc := 38) d_X0_areClose_38 rfl rfl ?_
  refine R_getR (pc := 39) fld_RX0_9 rfl rfl k1 d_X0_areClose_39 ?_
  refine R_getR (pc := 42) fld_RX0_19 rfl rfl k2 d_X0_areClose_42 ?_
  refine R_getR (pc := 45) fld_RX0_40 rfl rfl k4 d_X0_areClose_45 ?_
  refine R_iload_n (pc := 48) d_X0_areClose_48 rfl rfl ?_
  obtain ⟨k14, h⟩ := h
  refine R_aald (pc := 49) k5 k14 d_X0_areClose_49 ?_
  refine R_iconst (pc := 50) (v := 4) d_X0_areClose_50 (by decide) ?_
  obtain ⟨k15, h⟩ := h
  obtain ⟨k16, h⟩ := h
  refine R_iald (pc := 51) k15 k16 d_X0_areClose_51 ?_
  obtain ⟨k17, h⟩ := h
  refine R_aald (pc := 52) k9 k17 d_X0_areClose_52 ?_
  refine R_iconst (pc := 53) (v := 0) d_X0_areClose_53 (by decide) ?_
  obtain ⟨k18, h⟩ := h
  obtain ⟨k19, h⟩ := h
  refine R_iald (pc := 54) k18 k19 d_X0_areClose_54 ?_
  refine N_i (fun x20 ex20 => ?_)
  have h := h x20 ex20
  refine R_istore (pc := 55) (L' := [some (.ref (g.1 + v0)), some (.int v1), some (.int v2), some (.int x13), some (.int x20)]) d_X0_areClose_55 (by decide) rfl ?_
  refine R_iload_n (pc := 57) d_X0_areClose_57 rfl rfl ?_
  refine R_iload (pc := 58) d_X0_areClose_58 rfl ?_
  refine R_isub (pc := 60) d_X0_areClose_60 ?_
  refine R_iconst (pc := 61) (v := 2) d_X0_areClose_61 (by decide) ?_
  refine R_icmp_ge (pc := 62) (tgt := 77) d_X0_areClose_62 (by decide) (fun c => ?_) (fun c => ?_)
  · rw [if_pos c] at h
    exact WP_sub (B_X0_areClose_77 Q M h) (by decide) (ls_n (ls_n (ls_n (ls_n (ls_n ls_0)))))
  · rw [if_neg c] at h
    refine R_iload (pc := 65) d_X0_areClose_65 rfl ?_
    refine R_iload_n (pc := 67) d_X0_areClose_67 rfl rfl ?_
    refine R_isub (pc := 68) d_X0_areClose_68 ?_
    refine R_iconst (pc := 69) (v := 2) d_X0_areClose_69 (by decide) ?_
    refine R_icmp_ge (pc := 70) (tgt := 77) d_X0_areClose_70 (by decide) (fun c => ?_) (fun c => ?_)
    · rw [if_pos c] at h
      exact WP_sub (B_X0_areClose_77 Q M h) (by decide) (ls_n (ls_n (ls_n (ls_n (ls_n ls_0)))))
    · rw [if_neg c] at h
      refine R_iconst (pc := 73) (v := 1) d_X0_areClose_73 (by decide) ?_
      refine R_goto (pc := 74) (tgt := 78) d_X0_areClose_74 (by decide) ?_
      exact WP_sub (B_X0_areClose_78 Q 1 M h) (by decide) (ls_n (ls_n (ls_n (ls_n (ls_n ls_0)))))
/-! X0_partPair -/
theorem d_X0_partPair_0 : decode mX0_partPair.2.1 0 = .ok (.iconst 0, 1) := by decide +kernel
theorem d_X0_partPair_1 : decode mX0_partPair.2.1 1 = .ok (.istore_n 2, 1) := by decide +kernel
theorem d_X0_partPair_2 : decode mX0_partPair.2.1 2 = .ok (.aload_n 0, 1) := by decide +kernel
theorem d_X0_partPair_3 : decode mX0_partPair.2.1 3 = .ok (.getfield 9, 3) := by decide +kernel
theorem d_X0_partPair_6 : decode mX0_partPair.2.1 6 = .ok (.iconst 0, 1) := by decide +kernel
theorem d_X0_partPair_7 : decode mX0_partPair.2.1 7 = .ok (.aload_n 1, 1) := by decide +kernel
theorem d_X0_partPair_8 : decode mX0_partPair.2.1 8 = .ok (.iconst 1, 1) := by decide +kernel
theorem d_X0_partPair_9 : decode mX0_partPair.2.1 9 = .ok (.iaload, 1) := by decide +kernel
theorem d_X0_partPair_10 : decode mX0_partPair.2.1 10 = .ok (.invokevirtual 51, 3) := by decide +kernel
theorem d_X0_partPair_13 : decode mX0_partPair.2.1 13 = .ok (.lstore_n 3, 1) := by decide +kernel
theorem d_X0_partPair_14 : decode mX0_partPair.2.1 14 = .ok (.iconst 0, 1) := by decide +kernel
theorem d_X0_partPair_15 : decode mX0_partPair.2.1 15 = .ok (.istore 5, 2) := by decide +kernel
theorem d_X0_partPair_17 : decode mX0_partPair.2.1 17 = .ok (.iload 5, 2) := by decide +kernel
theorem d_X0_partPair_19 : decode mX0_partPair.2.1 19 = .ok (.bipush 60, 2) := by decide +kernel
theorem d_X0_partPair_21 : decode mX0_partPair.2.1 21 = .ok (.if_icmp .ge 118, 3) := by decide +kernel
theorem d_X0_partPair_24 : decode mX0_partPair.2.1 24 = .ok (.lload_n 3, 1) := by decide +kernel
theorem d_X0_partPair_25 : decode mX0_partPair.2.1 25 = .ok (.lconst 0, 1) := by decide +kernel
theorem d_X0_partPair_26 : decode mX0_partPair.2.1 26 = .ok (.lcmp, 1) := by decide +kernel
theorem d_X0_partPair_27 : decode mX0_partPair.2.1 27 = .ok (.ifCond .eq 112, 3) := by decide +kernel
theorem d_X0_partPair_30 : decode mX0_partPair.2.1 30 = .ok (.aload_n 0, 1) := by decide +kernel
theorem d_X0_partPair_31 : decode mX0_partPair.2.1 31 = .ok (.getfield 9, 3) := by decide +kernel
theorem d_X0_partPair_34 : decode mX0_partPair.2.1 34 = .ok (.lload_n 3, 1) := by decide +kernel
theorem d_X0_partPair_35 : decode mX0_partPair.2.1 35 = .ok (.invokevirtual 62, 3) := by decide +kernel
theorem d_X0_partPair_38 : decode mX0_partPair.2.1 38 = .ok (.istore 6, 2) := by decide +kernel
theorem d_X0_partPair_40 : decode mX0_partPair.2.1 40 = .ok (.lload_n 3, 1) := by decide +kernel
theorem d_X0_partPair_41 : decode mX0_partPair.2.1 41 = .ok (.lconst 1, 1) := by decide +kernel
theorem d_X0_partPair_42 : decode mX0_partPair.2.1 42 = .ok (.iload 6, 2) := by decide +kernel
theorem d_X0_partPair_44 : decode mX0_partPair.2.1 44 = .ok (.lshl, 1) := by decide +kernel
theorem d_X0_partPair_45 : decode mX0_partPair.2.1 45 = .ok (.ldc2_w 65, 3) := by decide +kernel
theorem d_X0_partPair_48 : decode mX0_partPair.2.1 48 = .ok (.lxor, 1) := by decide +kernel
theorem d_X0_partPair_49 : decode mX0_partPair.2.1 49 = .ok (.land, 1) := by decide +kernel
theorem d_X0_partPair_50 : decode mX0_partPair.2.1 50 = .ok (.lstore_n 3, 1) := by decide +kernel
theorem d_X0_partPair_51 : decode mX0_partPair.2.1 51 = .ok (.aload_n 0, 1) := by decide +kernel
theorem d_X0_partPair_52 : decode mX0_partPair.2.1 52 = .ok (.iload 6, 2) := by decide +kernel
theorem d_X0_partPair_54 : decode mX0_partPair.2.1 54 = .ok (.aload_n 1, 1) := by decide +kernel
theorem d_X0_partPair_55 : decode mX0_partPair.2.1 55 = .ok (.iconst 2, 1) := by decide +kernel
theorem d_X0_partPair_56 : decode mX0_partPair.2.1 56 = .ok (.iaload, 1) := by decide +kernel
theorem d_X0_partPair_57 : decode mX0_partPair.2.1 57 = .ok (.invokevirtual 106, 3) := by decide +kernel
theorem d_X0_partPair_60 : decode mX0_partPair.2.1 60 = .ok (.istore 7, 2) := by decide +kernel
theorem d_X0_partPair_62 : decode mX0_partPair.2.1 62 = .ok (.aload_n 0, 1) := by decide +kernel
theorem d_X0_partPair_63 : decode mX0_partPair.2.1 63 = .ok (.getfield 9, 3) := by decide +kernel
theorem d_X0_partPair_66 : decode mX0_partPair.2.1 66 = .ok (.getfield 19, 3) := by decide +kernel
theorem d_X0_partPair_69 : decode mX0_partPair.2.1 69 = .ok (.getfield 40, 3) := by decide +kernel
theorem d_X0_partPair_72 : decode mX0_partPair.2.1 72 = .ok (.iload 6, 2) := by decide +kernel
theorem d_X0_partPair_74 : decode mX0_partPair.2.1 74 = .ok (.aaload, 1) := by decide +kernel
theorem d_X0_partPair_75 : decode mX0_partPair.2.1 75 = .ok (.iconst 2, 1) := by decide +kernel
theorem d_X0_partPair_76 : decode mX0_partPair.2.1 76 = .ok (.iaload, 1) := by decide +kernel
theorem d_X0_partPair_77 : decode mX0_partPair.2.1 77 = .ok (.istore 8, 2) := by decide +kernel
theorem d_X0_partPair_79 : decode mX0_partPair.2.1 79 = .ok (.iload 7, 2) := by decide +kernel
theorem d_X0_partPair_81 : decode mX0_partPair.2.1 81 = .ok (.iconst (-1), 1) := by decide +kernel
theorem d_X0_partPair_82 : decode mX0_partPair.2.1 82 = .ok (.if_icmp .eq 51, 3) := by decide +kernel
theorem d_X0_partPair_85 : decode mX0_partPair.2.1 85 = .ok (.iload 8, 2) := by decide +kernel
theorem d_X0_partPair_87 : decode mX0_partPair.2.1 87 = .ok (.aload_n 1, 1) := by decide +kernel
theorem d_X0_partPair_88 : decode mX0_partPair.2.1 88 = .ok (.iconst 3, 1) := by decide +kernel
theorem d_X0_partPair_89 : decode mX0_partPair.2.1 89 = .ok (.iaload, 1) := by decide +kernel
theorem d_X0_partPair_90 : decode mX0_partPair.2.1 90 = .ok (.if_icmp .lt 43, 3) := by decide +kernel
theorem d_X0_partPair_93 : decode mX0_partPair.2.1 93 = .ok (.iload 8, 2) := by decide +kernel
theorem d_X0_partPair_95 : decode mX0_partPair.2.1 95 = .ok (.aload_n 1, 1) := by decide +kernel
theorem d_X0_partPair_96 : decode mX0_partPair.2.1 96 = .ok (.iconst 4, 1) := by decide +kernel
theorem d_X0_partPair_97 : decode mX0_partPair.2.1 97 = .ok (.iaload, 1) := by decide +kernel
theorem d_X0_partPair_98 : decode mX0_partPair.2.1 98 = .ok (.if_icmp .gt 35, 3) := by decide +kernel
theorem d_X0_partPair_101 : decode mX0_partPair.2.1 101 = .ok (.aload_n 0, 1) := by decide +kernel
theorem d_X0_partPair_102 : decode mX0_partPair.2.1 102 = .ok (.iload 6, 2) := by decide +kernel
theorem d_X0_partPair_104 : decode mX0_partPair.2.1 104 = .ok (.iload 7, 2) := by decide +kernel
theorem d_X0_partPair_106 : decode mX0_partPair.2.1 106 = .ok (.invokevirtual 110, 3) := by decide +kernel
theorem d_X0_partPair_109 : decode mX0_partPair.2.1 109 = .ok (.ifCond .eq 24, 3) := by decide +kernel
theorem d_X0_partPair_112 : decode mX0_partPair.2.1 112 = .ok (.aload_n 0, 1) := by decide +kernel
theorem d_X0_partPair_113 : decode mX0_partPair.2.1 113 = .ok (.iload 6, 2) := by decide +kernel
theorem d_X0_partPair_115 : decode mX0_partPair.2.1 115 = .ok (.iload 7, 2) := by decide +kernel
theorem d_X0_partPair_117 : decode mX0_partPair.2.1 117 = .ok (.if_icmp .le 8, 3) := by decide +kernel
theorem d_X0_partPair_120 : decode mX0_partPair.2.1 120 = .ok (.iload 6, 2) := by decide +kernel
theorem d_X0_partPair_122 : decode mX0_partPair.2.1 122 = .ok (.goto 5, 3) := by decide +kernel
theorem d_X0_partPair_125 : decode mX0_partPair.2.1 125 = .ok (.iload 7, 2) := by decide +kernel
theorem d_X0_partPair_127 : decode mX0_partPair.2.1 127 = .ok (.invokevirtual 103, 3) := by decide +kernel
theorem d_X0_partPair_130 : decode mX0_partPair.2.1 130 = .ok (.iinc 2 1, 3) := by decide +kernel
theorem d_X0_partPair_133 : decode mX0_partPair.2.1 133 = .ok (.iinc 5 1, 3) := by decide +kernel
theorem d_X0_partPair_136 : decode mX0_partPair.2.1 136 = .ok (.goto (-119), 3) := by decide +kernel
theorem d_X0_partPair_139 : decode mX0_partPair.2.1 139 = .ok (.iload_n 2, 1) := by decide +kernel
theorem d_X0_partPair_140 : decode mX0_partPair.2.1 140 = .ok (.ireturn, 1) := by decide +kernel
def T_X0_partPair_139 (Q : Int32 → Mem → Prop) (v2 : Int32) (M : Mem) : Prop := Q v2 M
set_option maxRecDepth 100000 in
set_option maxHeartbeats 4000000 in
theorem B_X0_partPair_139 {g : GG} (Q : Int32 → Mem → Prop) (v2 : Int32) (M : Mem) (h : T_X0_partPair_139 Q v2 M) : WP g 12 mX0_partPair 139 [none, none, some (.int v2), none, none, none, none, none, none] [] M 0 (oI Q noX) := by
  unfold T_X0_partPair_139 at h
  refine R_iload_n (pc := 139) d_X0_partPair_139 rfl rfl ?_
  exact R_retv (pc := 140) d_X0_partPair_140 h
def T_X0_partPair_133 (κ17 : Nat → Nat → Int32 → Int64 → Int32 → Mem → Prop) (Q : Int32 → Mem → Prop) (v0 : Nat) (v1 : Nat) (v2 : Int32) (v3 : Int64) (v5 : Int32) (M : Mem) : Prop := ∀ x1 : Int32, x1 = v5 + 1 → κ17 v0 v1 v2 v3 x1 M
set_option maxRecDepth 100000 in
set_option maxHeartbeats 4000000 in
theorem B_X0_partPair_133 {g : GG} (Q : Int32 → Mem → Prop) (κ17 : Nat → Nat → Int32 → Int64 → Int32 → Mem → Prop) (hκ17 : ∀ (v0 : Nat) (v1 : Nat) (v2 : Int32) (v3 : Int64) (v5 : Int32) (M : Mem), κ17 v0 v1 v2 v3 v5 M → WP g 12 mX0_partPair 17 [some (.ref (g.1 + v0)), some (.ref (g.1 + v1)), some (.int v2), some (.long v3), none, some (.int v5), none, none, none] [] M 0 (oI Q noX)) (v0 : Nat) (v1 : Nat) (v2 : Int32) (v3 : Int64) (v5 : Int32) (M : Mem) (h : T_X0_partPair_133 κ17 Q v0 v1 v2 v3 v5 M) : WP g 12 mX0_partPair 133 [some (.ref (g.1 + v0)), some (.ref (g.1 + v1)), some (.int v2), some (.long v3), none, some (.int v5), none, none, none] [] M 0 (oI Q noX) := by
  unfold T_X0_partPair_133 at h
  obtain ⟨x1, ex1⟩ : ∃ z : Int32, z = v5 + 1 := ⟨_, rfl⟩
  have h := h x1 ex1
  refine R_iinc (pc := 133) (v := x1) (L' := [some (.ref (g.1 + v0)), some (.ref (g.1 + v1)), some (.int v2), some (.long v3), none, some (.int x1), none, none, none]) d_X0_partPair_133 rfl (by rw [ex1]; rfl) (by decide) rfl ?_
  refine R_goto (pc := 136) (tgt := 17) d_X0_partPair_136 (by decide) ?_
  exact WP_sub (hκ17 v0 v1 v2 v3 x1 M h) (by decide) (ls_s (ls_s (ls_s (ls_s (ls_n (ls_s (ls_n (ls_n (ls_n ls_0)))))))))
def T_X0_partPair_127 (κ17 : Nat → Nat → Int32 → Int64 → Int32 → Mem → Prop) (Q : Int32 → Mem → Prop) (v0 : Nat) (v1 : Nat) (v2 : Int32) (v3 : Int64) (v5 : Int32) (s0 : Int32) (s1 : Nat) (M : Mem) : Prop := (kd s1 = 0) ∧ T_X0_dropForBan (fun M2 => ∀ x3 : Int32, x3 = v2 + 1 → T_X0_partPair_133 κ17 Q v0 v1 x3 v3 v5 M2)  s1 s0 M
set_option maxRecDepth 100000 in
set_option maxHeartbeats 4000000 in
theorem B_X0_partPair_127 {g : GG} (Q : Int32 → Mem → Prop) (κ17 : Nat → Nat → Int32 → Int64 → Int32 → Mem → Prop) (hκ17 : ∀ (v0 : Nat) (v1 : Nat) (v2 : Int32) (v3 : Int64) (v5 : Int32) (M : Mem), κ17 v0 v1 v2 v3 v5 M → WP g 12 mX0_partPair 17 [some (.ref (g.1 + v0)), some (.ref (g.1 + v1)), some (.int v2), some (.long v3), none, some (.int v5), none, none, none] [] M 0 (oI Q noX)) (v0 : Nat) (v1 : Nat) (v2 : Int32) (v3 : Int64) (v5 : Int32) (s0 : Int32) (s1 : Nat) (M : Mem) (h : T_X0_partPair_127 κ17 Q v0 v1 v2 v3 v5 s0 s1 M) : WP g 12 mX0_partPair 127 [some (.ref (g.1 + v0)), some (.ref (g.1 + v1)), some (.int v2), some (.long v3), none, some (.int v5), none, none, none] [.int s0, .ref (g.1 + s1)] M 0 (oI Q noX) := by
  unfold T_X0_partPair_127 at h
  obtain ⟨k1, h⟩ := h
  refine R_callV (pc := 127) (As := [.int s0]) (rest := []) (c_X0_dropForBan (g := g) s1 s0 M _ h) rfl rfl cal_RX0_103 ins_X0_dropForBan sel_X0_dropForBan (cls_at k1 clsOK0) (by decide) (by decide) rfl rfl (Nat.le_of_ble_eq_true rfl) d_X0_partPair_127 (k_V (fun M2 h => ?_)) (fun _ _ h9 => False.elim h9)
  try dsimp only at h
  obtain ⟨x3, ex3⟩ : ∃ z : Int32, z = v2 + 1 := ⟨_, rfl⟩
  have h := h x3 ex3
  refine R_iinc (pc := 130) (v := x3) (L' := [some (.ref (g.1 + v0)), some (.ref (g.1 + v1)), some (.int x3), some (.long v3), none, some (.int v5), none, none, none]) d_X0_partPair_130 rfl (by rw [ex3]; rfl) (by decide) rfl ?_
  exact WP_sub (B_X0_partPair_133 Q κ17 hκ17 v0 v1 x3 v3 v5 M2 h) (by decide) (ls_s (ls_s (ls_s (ls_s (ls_n (ls_s (ls_n (ls_n (ls_n ls_0)))))))))
def T_X0_partPair_17 (Q : Int32 → Mem → Prop) : Nat → Nat → Nat → Int32 → Int64 → Int32 → Mem → Prop
  | 0, _, _, _, _, _, _ => False
  | n + 1, v0, v1, v2, v3, v5, M => if (60 : Int32) ≤ v5 then (T_X0_partPair_139 Q v2 M) else (if (lg_cmp v3 0) = 0 then (T_X0_partPair_139 Q v2 M) else ((kd v0 = 0) ∧ (kd (rf v0 0) = 3) ∧ T_X3_earliest (fun y4 M3 => ∀ l5 : Int64, l5 = v3 &&& ((1 <<< (Int32.toInt64 y4 &&& 63)) ^^^ (-1)) → (kd v1 = 9) ∧ (vp_in 2 (ln v1)) ∧ T_X0_visitAtSameTime (fun y9 M8 => (kd (rf (rf v0 0) 5) = 4) ∧ (kd (rf (rf (rf v0 0) 5) 0) = 10 ∨ kd (rf (rf (rf v0 0) 5) 0) = 11) ∧ (vp_in y4 (ln (rf (rf (rf v0 0) 5) 0))) ∧ (kd (rf (rf (rf (rf v0 0) 5) 0) (Int32.toNatClampNeg y4)) = 9) ∧ (vp_in 2 (ln (rf (rf (rf (rf v0 0) 5) 0) (Int32.toNatClampNeg y4)))) ∧ ∀ x15 : Int32, x15 = M8.1 (rf (rf (rf (rf v0 0) 5) 0) (Int32.toNatClampNeg y4)) (Int32.toNatClampNeg 2) → if y9 = ((-1) : Int32) then (T_X0_partPair_133 (T_X0_partPair_17 Q n) Q v0 v1 v2 l5 v5 M8) else ((vp_in 3 (ln v1)) ∧ if x15 < (M8.1 v1 (Int32.toNatClampNeg 3)) then (T_X0_partPair_133 (T_X0_partPair_17 Q n) Q v0 v1 v2 l5 v5 M8) else ((vp_in 4 (ln v1)) ∧ if (M8.1 v1 (Int32.toNatClampNeg 4)) < x15 then (T_X0_partPair_133 (T_X0_partPair_17 Q n) Q v0 v1 v2 l5 v5 M8) else (T_X0_areClose (fun y19 M18 => if y19 = 0 then (T_X0_partPair_133 (T_X0_partPair_17 Q n) Q v0 v1 v2 l5 v5 M18) else (if y4 ≤ y9 then (T_X0_partPair_127 (T_X0_partPair_17 Q n) Q v0 v1 v2 l5 v5 y9 v0 M18) else (T_X0_partPair_127 (T_X0_partPair_17 Q n) Q v0 v1 v2 l5 v5 y4 v0 M18)))  v0 y4 y9 M8))))  v0 y4 (M3.1 v1 (Int32.toNatClampNeg 2)) M3)  (rf v0 0) v3 M))
set_option maxRecDepth 100000 in
set_option maxHeartbeats 4000000 in
theorem B_X0_partPair_17 {g : GG} (Q : Int32 → Mem → Prop) : ∀ (n : Nat) (v0 : Nat) (v1 : Nat) (v2 : Int32) (v3 : Int64) (v5 : Int32) (M : Mem), T_X0_partPair_17 Q n v0 v1 v2 v3 v5 M → WP g 12 mX0_partPair 17 [some (.ref (g.1 + v0)), some (.ref (g.1 + v1)), some (.int v2), some (.long v3), none, some (.int v5), none, none, none] [] M 0 (oI Q noX) := by
  intro n
  induction n with
  | zero => intro v0 v1 v2 v3 v5 M h; exact h.elim
  | succ n hκ17 =>
    intro v0 v1 v2 v3 v5 M h
    unfold T_X0_partPair_17 at h
    refine R_iload (pc := 17) d_X0_partPair_17 rfl ?_
    refine R_bipush (pc := 19) (v := 60) d_X0_partPair_19 (by decide) ?_
    refine R_icmp_ge (pc := 21) (tgt := 139) d_X0_partPair_21 (by decide) (fun c => ?_) (fun c => ?_)
    · rw [if_pos c] at h
      exact WP_sub (B_X0_partPair_139 Q v2 M h) (by decide) (ls_n (ls_n (ls_s (ls_n (ls_n (ls_n (ls_n (ls_n (ls_n ls_0)))))))))
    · rw [if_neg c] at h
      refine R_lload_n (pc := 24) d_X0_partPair_24 rfl rfl ?_
      refine R_lconst (pc := 25) (v := 0) d_X0_partPair_25 (by decide) ?_
      refine R_lcmp (pc := 26) d_X0_partPair_26 ?_
      refine R_if_eq (pc := 27) (tgt := 139) d_X0_partPair_27 (by decide) (fun c => ?_) (fun c => ?_)
      · rw [if_pos c] at h
        exact WP_sub (B_X0_partPair_139 Q v2 M h) (by decide) (ls_n (ls_n (ls_s (ls_n (ls_n (ls_n (ls_n (ls_n (ls_n ls_0)))))))))
      · rw [if_neg c] at h
        refine R_aload_n (pc := 30) d_X0_partPair_30 rfl rfl ?_
        obtain ⟨k1, h⟩ := h
        refine R_getR (pc := 31) fld_RX0_9 rfl rfl k1 d_X0_partPair_31 ?_
        refine R_lload_n (pc := 34) d_X0_partPair_34 rfl rfl ?_
        obtain ⟨k2, h⟩ := h
        refine R_callV (pc := 35) (As := [.long v3]) (rest := []) (c_X3_earliest (g := g) (rf v0 0) v3 M _ h) rfl rfl cal_RX0_62 ins_X3_earliest sel_X3_earliest (cls_at k2 clsOK3) (by decide) (by decide) rfl rfl (Nat.le_of_ble_eq_true rfl) d_X0_partPair_35 (k_I (fun y4 M3 h => ?_)) (fun _ _ h9 => False.elim h9)
        try dsimp only at h
        refine R_istore (pc := 38) (L' := [some (.ref (g.1 + v0)), some (.ref (g.1 + v1)), some (.int v2), some (.long v3), none, some (.int v5), some (.int y4), none, none]) d_X0_partPair_38 (by decide) rfl ?_
        refine R_lload_n (pc := 40) d_X0_partPair_40 rfl rfl ?_
        refine R_lconst (pc := 41) (v := 1) d_X0_partPair_41 (by decide) ?_
        refine R_iload (pc := 42) d_X0_partPair_42 rfl ?_
        refine R_lshl (pc := 44) d_X0_partPair_44 ?_
        refine R_ldc2 (pc := 45) rfl cst_RX0_65 d_X0_partPair_45 ?_
        refine R_lxor (pc := 48) d_X0_partPair_48 ?_
        refine R_land (pc := 49) d_X0_partPair_49 ?_
        refine N_l (fun l5 el5 => ?_)
        have h := h l5 el5
        refine R_lstore_n (pc := 50) (L' := [some (.ref (g.1 + v0)), some (.ref (g.1 + v1)), some (.int v2), some (.long l5), none, some (.int v5), some (.int y4), none, none]) d_X0_partPair_50 rfl (by decide) rfl ?_
        refine R_aload_n (pc := 51) d_X0_partPair_51 rfl rfl ?_
        refine R_iload (pc := 52) d_X0_partPair_52 rfl ?_
        refine R_aload_n (pc := 54) d_X0_partPair_54 rfl rfl ?_
        refine R_iconst (pc := 55) (v := 2) d_X0_partPair_55 (by decide) ?_
        obtain ⟨k6, h⟩ := h
        obtain ⟨k7, h⟩ := h
        refine R_iald (pc := 56) k6 k7 d_X0_partPair_56 ?_
        refine R_callV (pc := 57) (As := [.int y4, .int (M3.1 v1 (Int32.toNatClampNeg 2))]) (rest := []) (c_X0_visitAtSameTime (g := g) v0 y4 (M3.1 v1 (Int32.toNatClampNeg 2)) M3 _ h) rfl rfl cal_RX0_106 ins_X0_visitAtSameTime sel_X0_visitAtSameTime (cls_at k1 clsOK0) (by decide) (by decide) rfl rfl (Nat.le_of_ble_eq_true rfl) d_X0_partPair_57 (k_I (fun y9 M8 h => ?_)) (fun _ _ h9 => False.elim h9)
        try dsimp only at h
        refine R_istore (pc := 60) (L' := [some (.ref (g.1 + v0)), some (.ref (g.1 + v1)), some (.int v2), some (.long l5), none, some (.int v5), some (.int y4), some (.int y9), none]) d_X0_partPair_60 (by decide) rfl ?_
        refine R_aload_n (pc := 62) d_X0_partPair_62 rfl rfl ?_
        refine R_getR (pc := 63) fld_RX0_9 rfl rfl k1 d_X0_partPair_63 ?_
        refine R_getR (pc := 66) fld_RX0_19 rfl rfl k2 d_X0_partPair_66 ?_
        obtain ⟨k10, h⟩ := h
        refine R_getR (pc := 69) fld_RX0_40 rfl rfl k10 d_X0_partPair_69 ?_
        refine R_iload (pc := 72) d_X0_partPair_72 rfl ?_
        obtain ⟨k11, h⟩ := h
        obtain ⟨k12, h⟩ := h
        refine R_aald (pc := 74) k11 k12 d_X0_partPair_74 ?_
        refine R_iconst (pc := 75) (v := 2) d_X0_partPair_75 (by decide) ?_
        obtain ⟨k13, h⟩ := h
        obtain ⟨k14, h⟩ := h
        refine R_iald (pc := 76) k13 k14 d_X0_partPair_76 ?_
        refine N_i (fun x15 ex15 => ?_)
        have h := h x15 ex15
        refine R_istore (pc := 77) (L' := [some (.ref (g.1 + v0)), some (.ref (g.1 + v1)), some (.int v2), some (.long l5), none, some (.int v5), some (.int y4), some (.int y9), some (.int x15)]) d_X0_partPair_77 (by decide) rfl ?_
        refine R_iload (pc := 79) d_X0_partPair_79 rfl ?_
        refine R_iconst (pc := 81) (v := (-1)) d_X0_partPair_81 (by decide) ?_
        refine R_icmp_eq (pc := 82) (tgt := 133) d_X0_partPair_82 (by decide) (fun c => ?_) (fun c => ?_)
        · rw [if_pos c] at h
          exact WP_sub (B_X0_partPair_133 Q (T_X0_partPair_17 Q n) hκ17 v0 v1 v2 l5 v5 M8 h) (by decide) (ls_s (ls_s (ls_s (ls_s (ls_n (ls_s (ls_n (ls_n (ls_n ls_0)))))))))
        · rw [if_neg c] at h
          refine R_iload (pc := 85) d_X0_partPair_85 rfl ?_
          refine R_aload_n (pc := 87) d_X0_partPair_87 rfl rfl ?_
          refine R_iconst (pc := 88) (v := 3) d_X0_partPair_88 (by decide) ?_
          obtain ⟨k16, h⟩ := h
          refine R_iald (pc := 89) k6 k16 d_X0_partPair_89 ?_
          refine R_icmp_lt (pc := 90) (tgt := 133) d_X0_partPair_90 (by decide) (fun c => ?_) (fun c => ?_)
          · rw [if_pos c] at h
            exact WP_sub (B_X0_partPair_133 Q (T_X0_partPair_17 Q n) hκ17 v0 v1 v2 l5 v5 M8 h) (by decide) (ls_s (ls_s (ls_s (ls_s (ls_n (ls_s (ls_n (ls_n (ls_n ls_0)))))))))
          · rw [if_neg c] at h
            refine R_iload (pc := 93) d_X0_partPair_93 rfl ?_
            refine R_aload_n (pc := 95) d_X0_partPair_95 rfl rfl ?_
            refine R_iconst (pc := 96) (v := 4) d_X0_partPair_96 (by decide) ?_
            obtain ⟨k17, h⟩ := h
            refine R_iald (pc := 97) k6 k17 d_X0_partPair_97 ?_
            refine R_icmp_gt (pc := 98) (tgt := 133) d_X0_partPair_98 (by decide) (fun c => ?_) (fun c => ?_)
            · rw [if_pos c] at h
              exact WP_sub (B_X0_partPair_133 Q (T_X0_partPair_17 Q n) hκ17 v0 v1 v2 l5 v5 M8 h) (by decide) (ls_s (ls_s (ls_s (ls_s (ls_n (ls_s (ls_n (ls_n (ls_n ls_0)))))))))
            · rw [if_neg c] at h
              refine R_aload_n (pc := 101) d_X0_partPair_101 rfl rfl ?_
              refine R_iload (pc := 102) d_X0_partPair_102 rfl ?_
              refine R_iload (pc := 104) d_X0_partPair_104 rfl ?_
              refine R_callV (pc := 106) (As := [.int y4, .int y9]) (rest := []) (c_X0_areClose (g := g) v0 y4 y9 M8 _ h) rfl rfl cal_RX0_110 ins_X0_areClose sel_X0_areClose (cls_at k1 clsOK0) (by decide) (by decide) rfl rfl (Nat.le_of_ble_eq_true rfl) d_X0_partPair_106 (k_Z (fun y19 M18 h => ?_)) (fun _ _ h9 => False.elim h9)
              try dsimp only at h
              refine R_if_eq (pc := 109) (tgt := 133) d_X0_partPair_109 (by decide) (fun c => ?_) (fun c => ?_)
              · rw [if_pos c] at h
                exact WP_sub (B_X0_partPair_133 Q (T_X0_partPair_17 Q n) hκ17 v0 v1 v2 l5 v5 M18 h) (by decide) (ls_s (ls_s (ls_s (ls_s (ls_n (ls_s (ls_n (ls_n (ls_n ls_0)))))))))
              · rw [if_neg c] at h
                refine R_aload_n (pc := 112) d_X0_partPair_112 rfl rfl ?_
                refine R_iload (pc := 113) d_X0_partPair_113 rfl ?_
                refine R_iload (pc := 115) d_X0_partPair_115 rfl ?_
                refine R_icmp_le (pc := 117) (tgt := 125) d_X0_partPair_117 (by decide) (fun c => ?_) (fun c => ?_)
                · rw [if_pos c] at h
                  refine R_iload (pc := 125) d_X0_partPair_125 rfl ?_
                  exact WP_sub (B_X0_partPair_127 Q (T_X0_partPair_17 Q n) hκ17 v0 v1 v2 l5 v5 y9 v0 M18 h) (by decide) (ls_s (ls_s (ls_s (ls_s (ls_n (ls_s (ls_n (ls_n (ls_n ls_0)))))))))
                · rw [if_neg c] at h
                  refine R_iload (pc := 120) d_X0_partPair_120 rfl ?_
                  refine R_goto (pc := 122) (tgt := 127) d_X0_partPair_122 (by decide) ?_
                  exact WP_sub (B_X0_partPair_127 Q (T_X0_partPair_17 Q n) hκ17 v0 v1 v2 l5 v5 y4 v0 M18 h) (by decide) (ls_s (ls_s (ls_s (ls_s (ls_n (ls_s (ls_n (ls_n (ls_n ls_0)))))))))
def T_X0_partPair (Q : Int32 → Mem → Prop) (v0 : Nat) (v1 : Nat) (M : Mem) : Prop := (kd v0 = 0) ∧ (kd v1 = 9) ∧ (vp_in 1 (ln v1)) ∧ (kd (rf v0 0) = 3) ∧ T_X3_bookedWith (fun y6 M5 => (∃ N : Nat, T_X0_partPair_17 Q N v0 v1 0 y6 0 M5))  (rf v0 0) 0 (M.1 v1 (Int32.toNatClampNeg 1)) M
set_option maxRecDepth 100000 in
set_option maxHeartbeats 4000000 in
theorem c_X0_partPair {g : GG} (v0 : Nat) (v1 : Nat) (M : Mem) (Q : Int32 → Mem → Prop) (h : T_X0_partPair Q v0 v1 M) : CT g 12 mX0_partPair [.ref (g.1 + v0), .ref (g.1 + v1)] M 0 (oI Q noX) := by
  refine CT_of (L := [some (.ref (g.1 + v0)), some (.ref (g.1 + v1)), none, none, none, none, none, none, none]) (by decide) rfl (Nat.le_of_ble_eq_true rfl) (ro_I rfl) rfl ?_
  unfold T_X0_partPair at h
  refine R_iconst (pc := 0) (v := 0) d_X0_partPair_0 (by decide) ?_
  refine R_istore_n (pc := 1) (L' := [some (.ref (g.1 + v0)), some (.ref (g.1 + v1)), some (.int 0), none, none, none, none, none, none]) d_X0_partPair_1 rfl (by decide) rfl ?_
  refine R_aload_n (pc := 2) d_X0_partPair_2 rfl rfl ?_
  obtain ⟨k1, h⟩ := h
  refine R_getR (pc := 3) fld_RX0_9 rfl rfl k1 d_X0_partPair_3 ?_
  refine R_iconst (pc := 6) (v := 0) d_X0_partPair_6 (by decide) ?_
  refine R_aload_n (pc := 7) d_X0_partPair_7 rfl rfl ?_
  refine R_iconst (pc := 8) (v := 1) d_X0_partPair_8 (by decide) ?_
  obtain ⟨k2, h⟩ := h
  obtain ⟨k3, h⟩ := h
  refine R_iald (pc := 9) k2 k3 d_X0_partPair_9 ?_
  obtain ⟨k4, h⟩ := h
  refine R_callV (pc := 10) (As := [.int 0, .int (M.1 v1 (Int32.toNatClampNeg 1))]) (rest := []) (c_X3_bookedWith (g := g) (rf v0 0) 0 (M.1 v1 (Int32.toNatClampNeg 1)) M _ h) rfl rfl cal_RX0_51 ins_X3_bookedWith sel_X3_bookedWith (cls_at k4 clsOK3) (by decide) (by decide) rfl rfl (Nat.le_of_ble_eq_true rfl) d_X0_partPair_10 (k_L (fun y6 M5 h => ?_)) (fun _ _ h9 => False.elim h9)
  try dsimp only at h
  refine R_lstore_n (pc := 13) (L' := [some (.ref (g.1 + v0)), some (.ref (g.1 + v1)), some (.int 0), some (.long y6), none, none, none, none, none]) d_X0_partPair_13 rfl (by decide) rfl ?_
  refine R_iconst (pc := 14) (v := 0) d_X0_partPair_14 (by decide) ?_
  refine R_istore (pc := 15) (L' := [some (.ref (g.1 + v0)), some (.ref (g.1 + v1)), some (.int 0), some (.long y6), none, some (.int 0), none, none, none]) d_X0_partPair_15 (by decide) rfl ?_
  obtain ⟨N, h⟩ := h
  exact WP_sub (B_X0_partPair_17 Q N v0 v1 0 y6 0 M5 h) (by decide) (ls_s (ls_s (ls_s (ls_s (ls_n (ls_s (ls_n (ls_n (ls_n ls_0)))))))))
