/-! X6_setOpen -/
theorem d_X6_setOpen_0 : decode mX6_setOpen.2.1 0 = .ok (.iload_n 1, 1) := by decide +kernel
theorem d_X6_setOpen_1 : decode mX6_setOpen.2.1 1 = .ok (.aload_n 0, 1) := by decide +kernel
theorem d_X6_setOpen_2 : decode mX6_setOpen.2.1 2 = .ok (.getfield 10, 3) := by decide +kernel
theorem d_X6_setOpen_5 : decode mX6_setOpen.2.1 5 = .ok (.getfield 107, 3) := by decide +kernel
theorem d_X6_setOpen_8 : decode mX6_setOpen.2.1 8 = .ok (.getfield 94, 3) := by decide +kernel
theorem d_X6_setOpen_11 : decode mX6_setOpen.2.1 11 = .ok (.invokestatic 64, 3) := by decide +kernel
theorem d_X6_setOpen_14 : decode mX6_setOpen.2.1 14 = .ok (.ifCond .ne 13, 3) := by decide +kernel
theorem d_X6_setOpen_17 : decode mX6_setOpen.2.1 17 = .ok (.new 112, 3) := by decide +kernel
theorem d_X6_setOpen_20 : decode mX6_setOpen.2.1 20 = .ok (.dup, 1) := by decide +kernel
theorem d_X6_setOpen_21 : decode mX6_setOpen.2.1 21 = .ok (.ldc 114, 2) := by decide +kernel
theorem d_X6_setOpen_23 : decode mX6_setOpen.2.1 23 = .ok (.invokespecial 116, 3) := by decide +kernel
theorem d_X6_setOpen_26 : decode mX6_setOpen.2.1 26 = .ok (.athrow, 1) := by decide +kernel
theorem d_X6_setOpen_27 : decode mX6_setOpen.2.1 27 = .ok (.aload_n 0, 1) := by decide +kernel
theorem d_X6_setOpen_28 : decode mX6_setOpen.2.1 28 = .ok (.getfield 26, 3) := by decide +kernel
theorem d_X6_setOpen_31 : decode mX6_setOpen.2.1 31 = .ok (.aload_n 0, 1) := by decide +kernel
theorem d_X6_setOpen_32 : decode mX6_setOpen.2.1 32 = .ok (.getfield 10, 3) := by decide +kernel
theorem d_X6_setOpen_35 : decode mX6_setOpen.2.1 35 = .ok (.invokevirtual 87, 3) := by decide +kernel
theorem d_X6_setOpen_38 : decode mX6_setOpen.2.1 38 = .ok (.iload_n 2, 1) := by decide +kernel
theorem d_X6_setOpen_39 : decode mX6_setOpen.2.1 39 = .ok (.ifCond .eq 14, 3) := by decide +kernel
theorem d_X6_setOpen_42 : decode mX6_setOpen.2.1 42 = .ok (.aload_n 0, 1) := by decide +kernel
theorem d_X6_setOpen_43 : decode mX6_setOpen.2.1 43 = .ok (.getfield 44, 3) := by decide +kernel
theorem d_X6_setOpen_46 : decode mX6_setOpen.2.1 46 = .ok (.iload_n 1, 1) := by decide +kernel
theorem d_X6_setOpen_47 : decode mX6_setOpen.2.1 47 = .ok (.invokevirtual 117, 3) := by decide +kernel
theorem d_X6_setOpen_50 : decode mX6_setOpen.2.1 50 = .ok (.goto 11, 3) := by decide +kernel
theorem d_X6_setOpen_53 : decode mX6_setOpen.2.1 53 = .ok (.aload_n 0, 1) := by decide +kernel
theorem d_X6_setOpen_54 : decode mX6_setOpen.2.1 54 = .ok (.getfield 44, 3) := by decide +kernel
theorem d_X6_setOpen_57 : decode mX6_setOpen.2.1 57 = .ok (.iload_n 1, 1) := by decide +kernel
theorem d_X6_setOpen_58 : decode mX6_setOpen.2.1 58 = .ok (.invokevirtual 121, 3) := by decide +kernel
theorem d_X6_setOpen_61 : decode mX6_setOpen.2.1 61 = .ok (.ireturn, 1) := by decide +kernel
def T_X6_setOpen_61 (Q : Int32 → Mem → Prop) (X : String → Mem → Prop) (s0 : Int32) (M : Mem) : Prop := Q s0 M
set_option maxRecDepth 100000 in
set_option maxHeartbeats 4000000 in
theorem B_X6_setOpen_61 {g : GG} (Q : Int32 → Mem → Prop) (X : String → Mem → Prop) (s0 : Int32) (M : Mem) (h : T_X6_setOpen_61 Q X s0 M) : WP g 16 mX6_setOpen 61 [none, none, none] [.int s0] M 1 (oI Q X) := by
  unfold T_X6_setOpen_61 at h
  exact R_retv (pc := 61) d_X6_setOpen_61 h
def T_X6_setOpen (Q : Int32 → Mem → Prop) (X : String → Mem → Prop) (v0 : Nat) (v1 : Int32) (v2 : Int32) (M : Mem) : Prop := (kd v0 = 6) ∧ (kd (rf v0 0) = 3) ∧ (kd (rf (rf v0 0) 4) = 4) ∧ T_X6_isBelow (fun y5 M4 => if y5 = 0 then (X "java/lang/IndexOutOfBoundsException" M4) else ((kd (rf v0 3) = 1) ∧ T_X1_keep (fun M7 => if v2 = 0 then ((kd (rf v0 5) = 0) ∧ T_X0_closeRoom (fun y10 M9 => T_X6_setOpen_61 Q X y10 M9)  (rf v0 5) v1 M7) else ((kd (rf v0 5) = 0) ∧ T_X0_openRoom (fun y13 M12 => T_X6_setOpen_61 Q X y13 M12)  (rf v0 5) v1 M7))  (rf v0 3) (rf v0 0) M4))  v1 (M.1 (rf (rf v0 0) 4) 2) M
set_option maxRecDepth 100000 in
set_option maxHeartbeats 4000000 in
theorem c_X6_setOpen {g : GG} (v0 : Nat) (v1 : Int32) (v2 : Int32) (M : Mem) (Q : Int32 → Mem → Prop) (X : String → Mem → Prop) (h : T_X6_setOpen Q X v0 v1 v2 M) : CT g 16 mX6_setOpen [.ref (g.1 + v0), .int v1, .int v2] M 1 (oI Q X) := by
  refine CT_of (L := [some (.ref (g.1 + v0)), some (.int v1), some (.int v2)]) (by decide) rfl (Nat.le_of_ble_eq_true rfl) (ro_I rfl) rfl ?_
  unfold T_X6_setOpen at h
  refine R_iload_n (pc := 0) d_X6_setOpen_0 rfl rfl ?_
  refine R_aload_n (pc := 1) d_X6_setOpen_1 rfl rfl ?_
  obtain ⟨k1, h⟩ := h
  refine R_getR (pc := 2) fld_RX6_10 rfl rfl k1 d_X6_setOpen_2 ?_
  obtain ⟨k2, h⟩ := h
  refine R_getR (pc := 5) fld_RX6_107 rfl rfl k2 d_X6_setOpen_5 ?_
  obtain ⟨k3, h⟩ := h
  refine R_getI (pc := 8) fld_RX6_94 rfl rfl k3 d_X6_setOpen_8 ?_
  refine R_callS (pc := 11) (As := [.int v1, .int (M.1 (rf (rf v0 0) 4) 2)]) (rest := []) (c_X6_isBelow (g := g) v1 (M.1 (rf (rf v0 0) 4) 2) M _ h) rfl rfl cal_RX6_64 sta_X6_isBelow (by decide) (by decide) rfl rfl (Nat.le_of_ble_eq_true rfl) d_X6_setOpen_11 (k_Z (fun y5 M4 h => ?_)) (fun _ _ h9 => False.elim h9)
  try dsimp only at h
  refine R_if_ne (pc := 14) (tgt := 27) d_X6_setOpen_14 (by decide) (fun c => ?_) (fun c => ?_)
  · rw [if_neg c] at h
    refine R_aload_n (pc := 27) d_X6_setOpen_27 rfl rfl ?_
    refine R_getR (pc := 28) fld_RX6_26 rfl rfl k1 d_X6_setOpen_28 ?_
    refine R_aload_n (pc := 31) d_X6_setOpen_31 rfl rfl ?_
    refine R_getR (pc := 32) fld_RX6_10 rfl rfl k1 d_X6_setOpen_32 ?_
    obtain ⟨k6, h⟩ := h
    refine R_callV (pc := 35) (As := [.ref (g.1 + (rf v0 0))]) (rest := []) (c_X1_keep (g := g) (rf v0 3) (rf v0 0) M4 _ h) rfl rfl cal_RX6_87 ins_X1_keep sel_X1_keep (cls_at k6 clsOK1) (by decide) (by decide) rfl rfl (Nat.le_of_ble_eq_true rfl) d_X6_setOpen_35 (k_V (fun M7 h => ?_)) (fun _ _ h9 => False.elim h9)
    try dsimp only at h
    refine R_iload_n (pc := 38) d_X6_setOpen_38 rfl rfl ?_
    refine R_if_eq (pc := 39) (tgt := 53) d_X6_setOpen_39 (by decide) (fun c => ?_) (fun c => ?_)
    · rw [if_pos c] at h
      refine R_aload_n (pc := 53) d_X6_setOpen_53 rfl rfl ?_
      refine R_getR (pc := 54) fld_RX6_44 rfl rfl k1 d_X6_setOpen_54 ?_
      refine R_iload_n (pc := 57) d_X6_setOpen_57 rfl rfl ?_
      obtain ⟨k8, h⟩ := h
      refine R_callV (pc := 58) (As := [.int v1]) (rest := []) (c_X0_closeRoom (g := g) (rf v0 5) v1 M7 _ h) rfl rfl cal_RX6_121 ins_X0_closeRoom sel_X0_closeRoom (cls_at k8 clsOK0) (by decide) (by decide) rfl rfl (Nat.le_of_ble_eq_true rfl) d_X6_setOpen_58 (k_I (fun y10 M9 h => ?_)) (fun _ _ h9 => False.elim h9)
      try dsimp only at h
      exact WP_sub (B_X6_setOpen_61 Q X y10 M9 h) (by decide) (ls_n (ls_n (ls_n ls_0)))
    · rw [if_neg c] at h
      refine R_aload_n (pc := 42) d_X6_setOpen_42 rfl rfl ?_
      refine R_getR (pc := 43) fld_RX6_44 rfl rfl k1 d_X6_setOpen_43 ?_
      refine R_iload_n (pc := 46) d_X6_setOpen_46 rfl rfl ?_
      obtain ⟨k11, h⟩ := h
      refine R_callV (pc := 47) (As := [.int v1]) (rest := []) (c_X0_openRoom (g := g) (rf v0 5) v1 M7 _ h) rfl rfl cal_RX6_117 ins_X0_openRoom sel_X0_openRoom (cls_at k11 clsOK0) (by decide) (by decide) rfl rfl (Nat.le_of_ble_eq_true rfl) d_X6_setOpen_47 (k_I (fun y13 M12 h => ?_)) (fun _ _ h9 => False.elim h9)
      try dsimp only at h
      refine R_goto (pc := 50) (tgt := 61) d_X6_setOpen_50 (by decide) ?_
      exact WP_sub (B_X6_setOpen_61 Q X y13 M12 h) (by decide) (ls_n (ls_n (ls_n ls_0)))
  · rw [if_pos c] at h
    exact R_throw rfl rfl thr_RX6_112_114_116 (by decide) (by decide) (Nat.le_of_ble_eq_true rfl) d_X6_setOpen_17 d_X6_setOpen_20 d_X6_setOpen_21 d_X6_setOpen_23 d_X6_setOpen_26 h
/-! X6_setLevel -/
theorem d_X6_setLevel_0 : decode mX6_setLevel.2.1 0 = .ok (.iload_n 1, 1) := by decide +kernel
theorem d_X6_setLevel_1 : decode mX6_setLevel.2.1 1 = .ok (.aload_n 0, 1) := by decide +kernel
theorem d_X6_setLevel_2 : decode mX6_setLevel.2.1 2 = .ok (.getfield 10, 3) := by decide +kernel
theorem d_X6_setLevel_5 : decode mX6_setLevel.2.1 5 = .ok (.getfield 75, 3) := by decide +kernel
theorem d_X6_setLevel_8 : decode mX6_setLevel.2.1 8 = .ok (.getfield 94, 3) := by decide +kernel
theorem d_X6_setLevel_11 : decode mX6_setLevel.2.1 11 = .ok (.invokestatic 64, 3) := by decide +kernel
theorem d_X6_setLevel_14 : decode mX6_setLevel.2.1 14 = .ok (.ifCond .ne 13, 3) := by decide +kernel
theorem d_X6_setLevel_17 : decode mX6_setLevel.2.1 17 = .ok (.new 112, 3) := by decide +kernel
theorem d_X6_setLevel_20 : decode mX6_setLevel.2.1 20 = .ok (.dup, 1) := by decide +kernel
theorem d_X6_setLevel_21 : decode mX6_setLevel.2.1 21 = .ok (.ldc 124, 2) := by decide +kernel
theorem d_X6_setLevel_23 : decode mX6_setLevel.2.1 23 = .ok (.invokespecial 116, 3) := by decide +kernel
theorem d_X6_setLevel_26 : decode mX6_setLevel.2.1 26 = .ok (.athrow, 1) := by decide +kernel
theorem d_X6_setLevel_27 : decode mX6_setLevel.2.1 27 = .ok (.iload_n 2, 1) := by decide +kernel
theorem d_X6_setLevel_28 : decode mX6_setLevel.2.1 28 = .ok (.iconst 3, 1) := by decide +kernel
theorem d_X6_setLevel_29 : decode mX6_setLevel.2.1 29 = .ok (.invokestatic 64, 3) := by decide +kernel
theorem d_X6_setLevel_32 : decode mX6_setLevel.2.1 32 = .ok (.ifCond .ne 13, 3) := by decide +kernel
theorem d_X6_setLevel_35 : decode mX6_setLevel.2.1 35 = .ok (.new 68, 3) := by decide +kernel
theorem d_X6_setLevel_38 : decode mX6_setLevel.2.1 38 = .ok (.dup, 1) := by decide +kernel
theorem d_X6_setLevel_39 : decode mX6_setLevel.2.1 39 = .ok (.ldc 126, 2) := by decide +kernel
theorem d_X6_setLevel_41 : decode mX6_setLevel.2.1 41 = .ok (.invokespecial 72, 3) := by decide +kernel
theorem d_X6_setLevel_44 : decode mX6_setLevel.2.1 44 = .ok (.athrow, 1) := by decide +kernel
theorem d_X6_setLevel_45 : decode mX6_setLevel.2.1 45 = .ok (.aload_n 0, 1) := by decide +kernel
theorem d_X6_setLevel_46 : decode mX6_setLevel.2.1 46 = .ok (.getfield 26, 3) := by decide +kernel
theorem d_X6_setLevel_49 : decode mX6_setLevel.2.1 49 = .ok (.aload_n 0, 1) := by decide +kernel
theorem d_X6_setLevel_50 : decode mX6_setLevel.2.1 50 = .ok (.getfield 10, 3) := by decide +kernel
theorem d_X6_setLevel_53 : decode mX6_setLevel.2.1 53 = .ok (.invokevirtual 87, 3) := by decide +kernel
theorem d_X6_setLevel_56 : decode mX6_setLevel.2.1 56 = .ok (.aload_n 0, 1) := by decide +kernel
theorem d_X6_setLevel_57 : decode mX6_setLevel.2.1 57 = .ok (.getfield 10, 3) := by decide +kernel
theorem d_X6_setLevel_60 : decode mX6_setLevel.2.1 60 = .ok (.getfield 75, 3) := by decide +kernel
theorem d_X6_setLevel_63 : decode mX6_setLevel.2.1 63 = .ok (.getfield 128, 3) := by decide +kernel
theorem d_X6_setLevel_66 : decode mX6_setLevel.2.1 66 = .ok (.iload_n 1, 1) := by decide +kernel
theorem d_X6_setLevel_67 : decode mX6_setLevel.2.1 67 = .ok (.aaload, 1) := by decide +kernel
theorem d_X6_setLevel_68 : decode mX6_setLevel.2.1 68 = .ok (.astore_n 3, 1) := by decide +kernel
theorem d_X6_setLevel_69 : decode mX6_setLevel.2.1 69 = .ok (.aload_n 3, 1) := by decide +kernel
theorem d_X6_setLevel_70 : decode mX6_setLevel.2.1 70 = .ok (.iconst 1, 1) := by decide +kernel
theorem d_X6_setLevel_71 : decode mX6_setLevel.2.1 71 = .ok (.iaload, 1) := by decide +kernel
theorem d_X6_setLevel_72 : decode mX6_setLevel.2.1 72 = .ok (.istore 4, 2) := by decide +kernel
theorem d_X6_setLevel_74 : decode mX6_setLevel.2.1 74 = .ok (.aload_n 3, 1) := by decide +kernel
theorem d_X6_setLevel_75 : decode mX6_setLevel.2.1 75 = .ok (.iconst 1, 1) := by decide +kernel
theorem d_X6_setLevel_76 : decode mX6_setLevel.2.1 76 = .ok (.iload_n 2, 1) := by decide +kernel
theorem d_X6_setLevel_77 : decode mX6_setLevel.2.1 77 = .ok (.iastore, 1) := by decide +kernel
theorem d_X6_setLevel_78 : decode mX6_setLevel.2.1 78 = .ok (.iload 4, 2) := by decide +kernel
theorem d_X6_setLevel_80 : decode mX6_setLevel.2.1 80 = .ok (.ireturn, 1) := by decide +kernel
def T_X6_setLevel (Q : Int32 → Mem → Prop) (X : String → Mem → Prop) (v0 : Nat) (v1 : Int32) (v2 : Int32) (M : Mem) : Prop := (kd v0 = 6) ∧ (kd (rf v0 0) = 3) ∧ (kd (rf (rf v0 0) 2) = 4) ∧ T_X6_isBelow (fun y5 M4 => if y5 = 0 then (X "java/lang/IndexOutOfBoundsException" M4) else (T_X6_isBelow (fun y7 M6 => if y7 = 0 then (X "java/lang/IllegalArgumentException" M6) else ((kd (rf v0 3) = 1) ∧ T_X1_keep (fun M9 => (kd (rf (rf (rf v0 0) 2) 0) = 10 ∨ kd (rf (rf (rf v0 0) 2) 0) = 11) ∧ (vp_in v1 (ln (rf (rf (rf v0 0) 2) 0))) ∧ ∀ r12 : Nat, r12 = rf (rf (rf (rf v0 0) 2) 0) (Int32.toNatClampNeg v1) → (kd r12 = 9) ∧ (vp_in 1 (ln r12)) ∧ ∀ x15 : Int32, x15 = M9.1 r12 (Int32.toNatClampNeg 1) → ∀ M16 : Mem, M16 = mset M9 r12 (Int32.toNatClampNeg 1) v2 → Q x15 M16)  (rf v0 3) (rf v0 0) M6))  v2 3 M4))  v1 (M.1 (rf (rf v0 0) 2) 2) M
set_option maxRecDepth 100000 in
set_option maxHeartbeats 4000000 in
theorem c_X6_setLevel {g : GG} (v0 : Nat) (v1 : Int32) (v2 : Int32) (M : Mem) (Q : Int32 → Mem → Prop) (X : String → Mem → Prop) (h : T_X6_setLevel Q X v0 v1 v2 M) : CT g 13 mX6_setLevel [.ref (g.1 + v0), .int v1, .int v2] M 1 (oI Q X) := by
  refine CT_of (L := [some (.ref (g.1 + v0)), some (.int v1), some (.int v2), none, none]) (by decide) rfl (Nat.le_of_ble_eq_true rfl) (ro_I rfl) rfl ?_
  unfold T_X6_setLevel at h
  refine R_iload_n (pc := 0) d_X6_setLevel_0 rfl rfl ?_
  refine R_aload_n (pc := 1) d_X6_setLevel_1 rfl rfl ?_
  obtain ⟨k1, h⟩ := h
  refine R_getR (pc := 2) fld_RX6_10 rfl rfl k1 d_X6_setLevel_2 ?_
  obtain ⟨k2, h⟩ := h
  refine R_getR (pc := 5) fld_RX6_75 rfl rfl k2 d_X6_setLevel_5 ?_
  obtain ⟨k3, h⟩ := h
  refine R_getI (pc := 8) fld_RX6_94 rfl rfl k3 d_X6_setLevel_8 ?_
  refine R_callS (pc := 11) (As := [.int v1, .int (M.1 (rf (rf v0 0) 2) 2)]) (rest := []) (c_X6_isBelow (g := g) v1 (M.1 (rf (rf v0 0) 2) 2) M _ h) rfl rfl cal_RX6_64 sta_X6_isBelow (by decide) (by decide) rfl rfl (Nat.le_of_ble_eq_true rfl) d_X6_setLevel_11 (k_Z (fun y5 M4 h => ?_)) (fun _ _ h9 => False.elim h9)
  try dsimp only at h
  refine R_if_ne (pc := 14) (tgt := 27) d_X6_setLevel_14 (by decide) (fun c => ?_) (fun c => ?_)
  · rw [if_neg c] at h
    refine R_iload_n (pc := 27) d_X6_setLevel_27 rfl rfl ?_
    refine R_iconst (pc := 28) (v := 3) d_X6_setLevel_28 (by decide) ?_
    refine R_callS (pc := 29) (As := [.int v2, .int 3]) (rest := []) (c_X6_isBelow (g := g) v2 3 M4 _ h) rfl rfl cal_RX6_64 sta_X6_isBelow (by decide) (by decide) rfl rfl (Nat.le_of_ble_eq_true rfl) d_X6_setLevel_29 (k_Z (fun y7 M6 h => ?_)) (fun _ _ h9 => False.elim h9)
    try dsimp only at h
    refine R_if_ne (pc := 32) (tgt := 45) d_X6_setLevel_32 (by decide) (fun c => ?_) (fun c => ?_)
    · rw [if_neg c] at h
      refine R_aload_n (pc := 45) d_X6_setLevel_45 rfl rfl ?_
      refine R_getR (pc := 46) fld_RX6_26 rfl rfl k1 d_X6_setLevel_46 ?_
      refine R_aload_n (pc := 49) d_X6_setLevel_49 rfl rfl ?_
      refine R_getR (pc := 50) fld_RX6_10 rfl rfl k1 d_X6_setLevel_50 ?_
      obtain ⟨k8, h⟩ := h
      refine R_callV (pc := 53) (As := [.ref (g.1 + (rf v0 0))]) (rest := []) (c_X1_keep (g := g) (rf v0 3) (rf v0 0) M6 _ h) rfl rfl cal_RX6_87 ins_X1_keep sel_X1_keep (cls_at k8 clsOK1) (by decide) (by decide) rfl rfl (Nat.le_of_ble_eq_true rfl) d_X6_setLevel_53 (k_V (fun M9 h => ?_)) (fun _ _ h9 => False.elim h9)
      try dsimp only at h
      refine R_aload_n (pc := 56) d_X6_setLevel_56 rfl rfl ?_
      refine R_getR (pc := 57) fld_RX6_10 rfl rfl k1 d_X6_setLevel_57 ?_
      refine R_getR (pc := 60) fld_RX6_75 rfl rfl k2 d_X6_setLevel_60 ?_
      refine R_getR (pc := 63) fld_RX6_128 rfl rfl k3 d_X6_setLevel_63 ?_
      refine R_iload_n (pc := 66) d_X6_setLevel_66 rfl rfl ?_
      obtain ⟨k10, h⟩ := h
      obtain ⟨k11, h⟩ := h
      refine R_aald (pc := 67) k10 k11 d_X6_setLevel_67 ?_
      refine N_r (fun r12 er12 => ?_)
      have h := h r12 er12
      refine R_astore_n (pc := 68) (L' := [some (.ref (g.1 + v0)), some (.int v1), some (.int v2), some (.ref (g.1 + r12)), none]) d_X6_setLevel_68 rfl (by decide) rfl ?_
      refine R_aload_n (pc := 69) d_X6_setLevel_69 rfl rfl ?_
      refine R_iconst (pc := 70) (v := 1) d_X6_setLevel_70 (by decide) ?_
      obtain ⟨k13, h⟩ := h
      obtain ⟨k14, h⟩ := h
      refine R_iald (pc := 71) k13 k14 d_X6_setLevel_71 ?_
      refine N_i (fun x15 ex15 => ?_)
      have h := h x15 ex15
      refine R_istore (pc := 72) (L' := [some (.ref (g.1 + v0)), some (.int v1), some (.int v2), some (.ref (g.1 + r12)), some (.int x15)]) d_X6_setLevel_72 (by decide) rfl ?_
      refine R_aload_n (pc := 74) d_X6_setLevel_74 rfl rfl ?_
      refine R_iconst (pc := 75) (v := 1) d_X6_setLevel_75 (by decide) ?_
      refine R_iload_n (pc := 76) d_X6_setLevel_76 rfl rfl ?_
      refine R_iast (pc := 77) k13 k14 d_X6_setLevel_77 (N_M (fun M16 eM16 => ?_))
      have h := h M16 eM16
      refine R_iload (pc := 78) d_X6_setLevel_78 rfl ?_
      exact R_retv (pc := 80) d_X6_setLevel_80 h
    · rw [if_pos c] at h
      exact R_throw rfl rfl thr_RX6_68_126_72 (by decide) (by decide) (Nat.le_of_ble_eq_true rfl) d_X6_setLevel_35 d_X6_setLevel_38 d_X6_setLevel_39 d_X6_setLevel_41 d_X6_setLevel_44 h
  · rw [if_pos c] at h
    exact R_throw rfl rfl thr_RX6_112_124_116 (by decide) (by decide) (Nat.le_of_ble_eq_true rfl) d_X6_setLevel_17 d_X6_setLevel_20 d_X6_setLevel_21 d_X6_setLevel_23 d_X6_setLevel_26 h
/-! X6_faultOfMove -/
theorem d_X6_faultOfMove_0 : decode mX6_faultOfMove.2.1 0 = .ok (.iload_n 1, 1) := by decide +kernel
theorem d_X6_faultOfMove_1 : decode mX6_faultOfMove.2.1 1 = .ok (.aload_n 0, 1) := by decide +kernel
theorem d_X6_faultOfMove_2 : decode mX6_faultOfMove.2.1 2 = .ok (.getfield 10, 3) := by decide +kernel
theorem d_X6_faultOfMove_5 : decode mX6_faultOfMove.2.1 5 = .ok (.getfield 75, 3) := by decide +kernel
theorem d_X6_faultOfMove_8 : decode mX6_faultOfMove.2.1 8 = .ok (.getfield 94, 3) := by decide +kernel
theorem d_X6_faultOfMove_11 : decode mX6_faultOfMove.2.1 11 = .ok (.invokestatic 64, 3) := by decide +kernel
theorem d_X6_faultOfMove_14 : decode mX6_faultOfMove.2.1 14 = .ok (.ifCond .ne 5, 3) := by decide +kernel
theorem d_X6_faultOfMove_17 : decode mX6_faultOfMove.2.1 17 = .ok (.iconst 1, 1) := by decide +kernel
theorem d_X6_faultOfMove_18 : decode mX6_faultOfMove.2.1 18 = .ok (.ireturn, 1) := by decide +kernel
theorem d_X6_faultOfMove_19 : decode mX6_faultOfMove.2.1 19 = .ok (.iload_n 2, 1) := by decide +kernel
theorem d_X6_faultOfMove_20 : decode mX6_faultOfMove.2.1 20 = .ok (.iconst 4, 1) := by decide +kernel
theorem d_X6_faultOfMove_21 : decode mX6_faultOfMove.2.1 21 = .ok (.invokestatic 64, 3) := by decide +kernel
theorem d_X6_faultOfMove_24 : decode mX6_faultOfMove.2.1 24 = .ok (.ifCond .eq 7, 3) := by decide +kernel
theorem d_X6_faultOfMove_27 : decode mX6_faultOfMove.2.1 27 = .ok (.iconst 0, 1) := by decide +kernel
theorem d_X6_faultOfMove_28 : decode mX6_faultOfMove.2.1 28 = .ok (.goto 4, 3) := by decide +kernel
theorem d_X6_faultOfMove_31 : decode mX6_faultOfMove.2.1 31 = .ok (.iconst 2, 1) := by decide +kernel
theorem d_X6_faultOfMove_32 : decode mX6_faultOfMove.2.1 32 = .ok (.ireturn, 1) := by decide +kernel
def T_X6_faultOfMove_32 (Q : Int32 → Mem → Prop) (s0 : Int32) (M : Mem) : Prop := Q s0 M
set_option maxRecDepth 100000 in
set_option maxHeartbeats 4000000 in
theorem B_X6_faultOfMove_32 {g : GG} (Q : Int32 → Mem → Prop) (s0 : Int32) (M : Mem) (h : T_X6_faultOfMove_32 Q s0 M) : WP g 10 mX6_faultOfMove 32 [none, none, none] [.int s0] M 0 (oI Q noX) := by
  unfold T_X6_faultOfMove_32 at h
  exact R_retv (pc := 32) d_X6_faultOfMove_32 h
def T_X6_faultOfMove (Q : Int32 → Mem → Prop) (v0 : Nat) (v1 : Int32) (v2 : Int32) (M : Mem) : Prop := (kd v0 = 6) ∧ (kd (rf v0 0) = 3) ∧ (kd (rf (rf v0 0) 2) = 4) ∧ T_X6_isBelow (fun y5 M4 => if y5 = 0 then (Q 1 M4) else (T_X6_isBelow (fun y7 M6 => if y7 = 0 then (T_X6_faultOfMove_32 Q 2 M6) else (T_X6_faultOfMove_32 Q 0 M6))  v2 4 M4))  v1 (M.1 (rf (rf v0 0) 2) 2) M
set_option maxRecDepth 100000 in
set_option maxHeartbeats 4000000 in
theorem c_X6_faultOfMove {g : GG} (v0 : Nat) (v1 : Int32) (v2 : Int32) (M : Mem) (Q : Int32 → Mem → Prop) (h : T_X6_faultOfMove Q v0 v1 v2 M) : CT g 10 mX6_faultOfMove [.ref (g.1 + v0), .int v1, .int v2] M 0 (oI Q noX) := by
  refine CT_of (L := [some (.ref (g.1 + v0)), some (.int v1), some (.int v2)]) (by decide) rfl (Nat.le_of_ble_eq_true rfl) (ro_I rfl) rfl ?_
  unfold T_X6_faultOfMove at h
  refine R_iload_n (pc := 0) d_X6_faultOfMove_0 rfl rfl ?_
  refine R_aload_n (pc := 1) d_X6_faultOfMove_1 rfl rfl ?_
  obtain ⟨k1, h⟩ := h
  refine R_getR (pc := 2) fld_RX6_10 rfl rfl k1 d_X6_faultOfMove_2 ?_
  obtain ⟨k2, h⟩ := h
  refine R_getR (pc := 5) fld_RX6_75 rfl rfl k2 d_X6_faultOfMove_5 ?_
  obtain ⟨k3, h⟩ := h
  refine R_getI (pc := 8) fld_RX6_94 rfl rfl k3 d_X6_faultOfMove_8 ?_
  refine R_callS (pc := 11) (As := [.int v1, .int (M.1 (rf (rf v0 0) 2) 2)]) (rest := []) (c_X6_isBelow (g := g) v1 (M.1 (rf (rf v0 0) 2) 2) M _ h) rfl rfl cal_RX6_64 sta_X6_isBelow (by decide) (by decide) rfl rfl (Nat.le_of_ble_eq_true rfl) d_X6_faultOfMove_11 (k_Z (fun y5 M4 h => ?_)) (fun _ _ h9 => False.elim h9)
  try dsimp only at h
  refine R_if_ne (pc := 14) (tgt := 19) d_X6_faultOfMove_14 (by decide) (fun c => ?_) (fun c => ?_)
  · rw [if_neg c] at h
    refine R_iload_n (pc := 19) d_X6_faultOfMove_19 rfl rfl ?_
    refine R_iconst (pc := 20) (v := 4) d_X6_faultOfMove_20 (by decide) ?_
    refine R_callS (pc := 21) (As := [.int v2, .int 4]) (rest := []) (c_X6_isBelow (g := g) v2 4 M4 _ h) rfl rfl cal_RX6_64 sta_X6_isBelow (by decide) (by decide) rfl rfl (Nat.le_of_ble_eq_true rfl) d_X6_faultOfMove_21 (k_Z (fun y7 M6 h => ?_)) (fun _ _ h9 => False.elim h9)
    try dsimp only at h
    refine R_if_eq (pc := 24) (tgt := 31) d_X6_faultOfMove_24 (by decide) (fun c => ?_) (fun c => ?_)
    · rw [if_pos c] at h
      refine R_iconst (pc := 31) (v := 2) d_X6_faultOfMove_31 (by decide) ?_
      exact WP_sub (B_X6_faultOfMove_32 Q 2 M6 h) (by decide) (ls_n (ls_n (ls_n ls_0)))
    · rw [if_neg c] at h
      refine R_iconst (pc := 27) (v := 0) d_X6_faultOfMove_27 (by decide) ?_
      refine R_goto (pc := 28) (tgt := 32) d_X6_faultOfMove_28 (by decide) ?_
      exact WP_sub (B_X6_faultOfMove_32 Q 0 M6 h) (by decide) (ls_n (ls_n (ls_n ls_0)))
  · rw [if_pos c] at h
    refine R_iconst (pc := 17) (v := 1) d_X6_faultOfMove_17 (by decide) ?_
    exact R_retv (pc := 18) d_X6_faultOfMove_18 h
/-! X6_throwFor -/
theorem d_X6_throwFor_0 : decode mX6_throwFor.2.1 0 = .ok (.iload_n 0, 1) := by decide +kernel
theorem d_X6_throwFor_1 : decode mX6_throwFor.2.1 1 = .ok (.iconst 1, 1) := by decide +kernel
theorem d_X6_throwFor_2 : decode mX6_throwFor.2.1 2 = .ok (.if_icmp .ne 14, 3) := by decide +kernel
theorem d_X6_throwFor_5 : decode mX6_throwFor.2.1 5 = .ok (.new 112, 3) := by decide +kernel
theorem d_X6_throwFor_8 : decode mX6_throwFor.2.1 8 = .ok (.dup, 1) := by decide +kernel
theorem d_X6_throwFor_9 : decode mX6_throwFor.2.1 9 = .ok (.ldc_w 368, 3) := by decide +kernel
theorem d_X6_throwFor_12 : decode mX6_throwFor.2.1 12 = .ok (.invokespecial 116, 3) := by decide +kernel
theorem d_X6_throwFor_15 : decode mX6_throwFor.2.1 15 = .ok (.athrow, 1) := by decide +kernel
theorem d_X6_throwFor_16 : decode mX6_throwFor.2.1 16 = .ok (.iload_n 0, 1) := by decide +kernel
theorem d_X6_throwFor_17 : decode mX6_throwFor.2.1 17 = .ok (.iconst 2, 1) := by decide +kernel
theorem d_X6_throwFor_18 : decode mX6_throwFor.2.1 18 = .ok (.if_icmp .ne 14, 3) := by decide +kernel
theorem d_X6_throwFor_21 : decode mX6_throwFor.2.1 21 = .ok (.new 68, 3) := by decide +kernel
theorem d_X6_throwFor_24 : decode mX6_throwFor.2.1 24 = .ok (.dup, 1) := by decide +kernel
theorem d_X6_throwFor_25 : decode mX6_throwFor.2.1 25 = .ok (.ldc_w 370, 3) := by decide +kernel
theorem d_X6_throwFor_28 : decode mX6_throwFor.2.1 28 = .ok (.invokespecial 72, 3) := by decide +kernel
theorem d_X6_throwFor_31 : decode mX6_throwFor.2.1 31 = .ok (.athrow, 1) := by decide +kernel
theorem d_X6_throwFor_32 : decode mX6_throwFor.2.1 32 = .ok (.iload_n 0, 1) := by decide +kernel
theorem d_X6_throwFor_33 : decode mX6_throwFor.2.1 33 = .ok (.iconst 3, 1) := by decide +kernel
theorem d_X6_throwFor_34 : decode mX6_throwFor.2.1 34 = .ok (.if_icmp .ne 14, 3) := by decide +kernel
theorem d_X6_throwFor_37 : decode mX6_throwFor.2.1 37 = .ok (.new 82, 3) := by decide +kernel
theorem d_X6_throwFor_40 : decode mX6_throwFor.2.1 40 = .ok (.dup, 1) := by decide +kernel
theorem d_X6_throwFor_41 : decode mX6_throwFor.2.1 41 = .ok (.ldc_w 372, 3) := by decide +kernel
theorem d_X6_throwFor_44 : decode mX6_throwFor.2.1 44 = .ok (.invokespecial 86, 3) := by decide +kernel
theorem d_X6_throwFor_47 : decode mX6_throwFor.2.1 47 = .ok (.athrow, 1) := by decide +kernel
theorem d_X6_throwFor_48 : decode mX6_throwFor.2.1 48 = .ok (.return_, 1) := by decide +kernel
def T_X6_throwFor (Q : Mem → Prop) (X : String → Mem → Prop) (v0 : Int32) (M : Mem) : Prop := if v0 = (1 : Int32) then (X "java/lang/IndexOutOfBoundsException" M) else (if v0 = (2 : Int32) then (X "java/lang/IllegalArgumentException" M) else (if v0 = (3 : Int32) then (X "java/lang/IllegalStateException" M) else (Q M)))
set_option maxRecDepth 100000 in
set_option maxHeartbeats 4000000 in
theorem c_X6_throwFor {g : GG} (v0 : Int32) (M : Mem) (Q : Mem → Prop) (X : String → Mem → Prop) (h : T_X6_throwFor Q X v0 M) : CT g 9 mX6_throwFor [.int v0] M 1 (oV Q X) := by
  refine CT_of (L := [some (.int v0)]) (by decide) rfl (Nat.le_of_ble_eq_true rfl) (ro_V rfl) rfl ?_
  unfold T_X6_throwFor at h
  refine R_iload_n (pc := 0) d_X6_throwFor_0 rfl rfl ?_
  refine R_iconst (pc := 1) (v := 1) d_X6_throwFor_1 (by decide) ?_
  refine R_icmp_ne (pc := 2) (tgt := 16) d_X6_throwFor_2 (by decide) (fun c => ?_) (fun c => ?_)
  · rw [if_neg c] at h
    refine R_iload_n (pc := 16) d_X6_throwFor_16 rfl rfl ?_
    refine R_iconst (pc := 17) (v := 2) d_X6_throwFor_17 (by decide) ?_
    refine R_icmp_ne (pc := 18) (tgt := 32) d_X6_throwFor_18 (by decide) (fun c => ?_) (fun c => ?_)
    · rw [if_neg c] at h
      refine R_iload_n (pc := 32) d_X6_throwFor_32 rfl rfl ?_
      refine R_iconst (pc := 33) (v := 3) d_X6_throwFor_33 (by decide) ?_
      refine R_icmp_ne (pc := 34) (tgt := 48) d_X6_throwFor_34 (by decide) (fun c => ?_) (fun c => ?_)
      · rw [if_neg c] at h
        exact R_ret (pc := 48) d_X6_throwFor_48 h
      · rw [if_pos c] at h
        exact R_throwW rfl rfl thr_RX6_82_372_86 (by decide) (by decide) (Nat.le_of_ble_eq_true rfl) d_X6_throwFor_37 d_X6_throwFor_40 d_X6_throwFor_41 d_X6_throwFor_44 d_X6_throwFor_47 h
    · rw [if_pos c] at h
      exact R_throwW rfl rfl thr_RX6_68_370_72 (by decide) (by decide) (Nat.le_of_ble_eq_true rfl) d_X6_throwFor_21 d_X6_throwFor_24 d_X6_throwFor_25 d_X6_throwFor_28 d_X6_throwFor_31 h
  · rw [if_pos c] at h
    exact R_throwW rfl rfl thr_RX6_112_368_116 (by decide) (by decide) (Nat.le_of_ble_eq_true rfl) d_X6_throwFor_5 d_X6_throwFor_8 d_X6_throwFor_9 d_X6_throwFor_12 d_X6_throwFor_15 h
/-! X6_move -/
theorem d_X6_move_0 : decode mX6_move.2.1 0 = .ok (.aload_n 0, 1) := by decide +kernel
theorem d_X6_move_1 : decode mX6_move.2.1 1 = .ok (.iload_n 1, 1) := by decide +kernel
theorem d_X6_move_2 : decode mX6_move.2.1 2 = .ok (.iload_n 2, 1) := by decide +kernel
theorem d_X6_move_3 : decode mX6_move.2.1 3 = .ok (.invokevirtual 132, 3) := by decide +kernel
theorem d_X6_move_6 : decode mX6_move.2.1 6 = .ok (.invokestatic 136, 3) := by decide +kernel
theorem d_X6_move_9 : decode mX6_move.2.1 9 = .ok (.aload_n 0, 1) := by decide +kernel
theorem d_X6_move_10 : decode mX6_move.2.1 10 = .ok (.getfield 26, 3) := by decide +kernel
theorem d_X6_move_13 : decode mX6_move.2.1 13 = .ok (.aload_n 0, 1) := by decide +kernel
theorem d_X6_move_14 : decode mX6_move.2.1 14 = .ok (.getfield 10, 3) := by decide +kernel
theorem d_X6_move_17 : decode mX6_move.2.1 17 = .ok (.invokevirtual 87, 3) := by decide +kernel
theorem d_X6_move_20 : decode mX6_move.2.1 20 = .ok (.aload_n 0, 1) := by decide +kernel
theorem d_X6_move_21 : decode mX6_move.2.1 21 = .ok (.getfield 44, 3) := by decide +kernel
theorem d_X6_move_24 : decode mX6_move.2.1 24 = .ok (.iload_n 1, 1) := by decide +kernel
theorem d_X6_move_25 : decode mX6_move.2.1 25 = .ok (.iload_n 2, 1) := by decide +kernel
theorem d_X6_move_26 : decode mX6_move.2.1 26 = .ok (.invokevirtual 140, 3) := by decide +kernel
theorem d_X6_move_29 : decode mX6_move.2.1 29 = .ok (.ireturn, 1) := by decide +kernel
def T_X6_move (Q : Int32 → Mem → Prop) (X : String → Mem → Prop) (v0 : Nat) (v1 : Int32) (v2 : Int32) (M : Mem) : Prop := (kd v0 = 6) ∧ T_X6_faultOfMove (fun y3 M2 => T_X6_throwFor (fun M4 => (kd (rf v0 3) = 1) ∧ T_X1_keep (fun M6 => (kd (rf v0 5) = 0) ∧ T_X0_moveInmate (fun y9 M8 => Q y9 M8)  (rf v0 5) v1 v2 M6)  (rf v0 3) (rf v0 0) M4) X y3 M2)  v0 v1 v2 M
set_option maxRecDepth 100000 in
set_option maxHeartbeats 4000000 in
theorem c_X6_move {g : GG} (v0 : Nat) (v1 : Int32) (v2 : Int32) (M : Mem) (Q : Int32 → Mem → Prop) (X : String → Mem → Prop) (h : T_X6_move Q X v0 v1 v2 M) : CT g 15 mX6_move [.ref (g.1 + v0), .int v1, .int v2] M 1 (oI Q X) := by
  refine CT_of (L := [some (.ref (g.1 + v0)), some (.int v1), some (.int v2)]) (by decide) rfl (Nat.le_of_ble_eq_true rfl) (ro_I rfl) rfl ?_
  unfold T_X6_move at h
  refine R_aload_n (pc := 0) d_X6_move_0 rfl rfl ?_
  refine R_iload_n (pc := 1) d_X6_move_1 rfl rfl ?_
  refine R_iload_n (pc := 2) d_X6_move_2 rfl rfl ?_
  obtain ⟨k1, h⟩ := h
  refine R_callV (pc := 3) (As := [.int v1, .int v2]) (rest := []) (c_X6_faultOfMove (g := g) v0 v1 v2 M _ h) rfl rfl cal_RX6_132 ins_X6_faultOfMove sel_X6_faultOfMove (cls_at k1 clsOK6) (by decide) (by decide) rfl rfl (Nat.le_of_ble_eq_true rfl) d_X6_move_3 (k_I (fun y3 M2 h => ?_)) (fun _ _ h9 => False.elim h9)
  try dsimp only at h
  refine R_callS (pc := 6) (As := [.int y3]) (rest := []) (c_X6_throwFor (g := g) y3 M2 _ _ h) rfl rfl cal_RX6_136 sta_X6_throwFor (by decide) (by decide) rfl rfl (Nat.le_of_ble_eq_true rfl) d_X6_move_6 (k_V (fun M4 h => ?_)) (fun _ _ h9 => h9)
  try dsimp only at h
  refine R_aload_n (pc := 9) d_X6_move_9 rfl rfl ?_
  refine R_getR (pc := 10) fld_RX6_26 rfl rfl k1 d_X6_move_10 ?_
  refine R_aload_n (pc := 13) d_X6_move_13 rfl rfl ?_
  refine R_getR (pc := 14) fld_RX6_10 rfl rfl k1 d_X6_move_14 ?_
  obtain ⟨k5, h⟩ := h
  refine R_callV (pc := 17) (As := [.ref (g.1 + (rf v0 0))]) (rest := []) (c_X1_keep (g := g) (rf v0 3) (rf v0 0) M4 _ h) rfl rfl cal_RX6_87 ins_X1_keep sel_X1_keep (cls_at k5 clsOK1) (by decide) (by decide) rfl rfl (Nat.le_of_ble_eq_true rfl) d_X6_move_17 (k_V (fun M6 h => ?_)) (fun _ _ h9 => False.elim h9)
  try dsimp only at h
  refine R_aload_n (pc := 20) d_X6_move_20 rfl rfl ?_
  refine R_getR (pc := 21) fld_RX6_44 rfl rfl k1 d_X6_move_21 ?_
  refine R_iload_n (pc := 24) d_X6_move_24 rfl rfl ?_
  refine R_iload_n (pc := 25) d_X6_move_25 rfl rfl ?_
  obtain ⟨k7, h⟩ := h
  refine R_callV (pc := 26) (As := [.int v1, .int v2]) (rest := []) (c_X0_moveInmate (g := g) (rf v0 5) v1 v2 M6 _ h) rfl rfl cal_RX6_140 ins_X0_moveInmate sel_X0_moveInmate (cls_at k7 clsOK0) (by decide) (by decide) rfl rfl (Nat.le_of_ble_eq_true rfl) d_X6_move_26 (k_I (fun y9 M8 h => ?_)) (fun _ _ h9 => False.elim h9)
  try dsimp only at h
  exact R_retv (pc := 29) d_X6_move_29 h
/-! X6_confine -/
theorem d_X6_confine_0 : decode mX6_confine.2.1 0 = .ok (.iload_n 1, 1) := by decide +kernel
theorem d_X6_confine_1 : decode mX6_confine.2.1 1 = .ok (.aload_n 0, 1) := by decide +kernel
theorem d_X6_confine_2 : decode mX6_confine.2.1 2 = .ok (.getfield 10, 3) := by decide +kernel
theorem d_X6_confine_5 : decode mX6_confine.2.1 5 = .ok (.getfield 75, 3) := by decide +kernel
theorem d_X6_confine_8 : decode mX6_confine.2.1 8 = .ok (.getfield 94, 3) := by decide +kernel
theorem d_X6_confine_11 : decode mX6_confine.2.1 11 = .ok (.invokestatic 64, 3) := by decide +kernel
theorem d_X6_confine_14 : decode mX6_confine.2.1 14 = .ok (.ifCond .ne 13, 3) := by decide +kernel
theorem d_X6_confine_17 : decode mX6_confine.2.1 17 = .ok (.new 112, 3) := by decide +kernel
theorem d_X6_confine_20 : decode mX6_confine.2.1 20 = .ok (.dup, 1) := by decide +kernel
theorem d_X6_confine_21 : decode mX6_confine.2.1 21 = .ok (.ldc 124, 2) := by decide +kernel
theorem d_X6_confine_23 : decode mX6_confine.2.1 23 = .ok (.invokespecial 116, 3) := by decide +kernel
theorem d_X6_confine_26 : decode mX6_confine.2.1 26 = .ok (.athrow, 1) := by decide +kernel
theorem d_X6_confine_27 : decode mX6_confine.2.1 27 = .ok (.aload_n 0, 1) := by decide +kernel
theorem d_X6_confine_28 : decode mX6_confine.2.1 28 = .ok (.getfield 26, 3) := by decide +kernel
theorem d_X6_confine_31 : decode mX6_confine.2.1 31 = .ok (.aload_n 0, 1) := by decide +kernel
theorem d_X6_confine_32 : decode mX6_confine.2.1 32 = .ok (.getfield 10, 3) := by decide +kernel
theorem d_X6_confine_35 : decode mX6_confine.2.1 35 = .ok (.invokevirtual 87, 3) := by decide +kernel
theorem d_X6_confine_38 : decode mX6_confine.2.1 38 = .ok (.aload_n 0, 1) := by decide +kernel
theorem d_X6_confine_39 : decode mX6_confine.2.1 39 = .ok (.getfield 44, 3) := by decide +kernel
theorem d_X6_confine_42 : decode mX6_confine.2.1 42 = .ok (.iload_n 1, 1) := by decide +kernel
theorem d_X6_confine_43 : decode mX6_confine.2.1 43 = .ok (.iload_n 2, 1) := by decide +kernel
theorem d_X6_confine_44 : decode mX6_confine.2.1 44 = .ok (.invokevirtual 143, 3) := by decide +kernel
theorem d_X6_confine_47 : decode mX6_confine.2.1 47 = .ok (.ireturn, 1) := by decide +kernel
def T_X6_confine (Q : Int32 → Mem → Prop) (X : String → Mem → Prop) (v0 : Nat) (v1 : Int32) (v2 : Int32) (M : Mem) : Prop := (kd v0 = 6) ∧ (kd (rf v0 0) = 3) ∧ (kd (rf (rf v0 0) 2) = 4) ∧ T_X6_isBelow (fun y5 M4 => if y5 = 0 then (X "java/lang/IndexOutOfBoundsException" M4) else ((kd (rf v0 3) = 1) ∧ T_X1_keep (fun M7 => (kd (rf v0 5) = 0) ∧ T_X0_confineInmate (fun y10 M9 => Q y10 M9)  (rf v0 5) v1 v2 M7)  (rf v0 3) (rf v0 0) M4))  v1 (M.1 (rf (rf v0 0) 2) 2) M
set_option maxRecDepth 100000 in
set_option maxHeartbeats 4000000 in
theorem c_X6_confine {g : GG} (v0 : Nat) (v1 : Int32) (v2 : Int32) (M : Mem) (Q : Int32 → Mem → Prop) (X : String → Mem → Prop) (h : T_X6_confine Q X v0 v1 v2 M) : CT g 15 mX6_confine [.ref (g.1 + v0), .int v1, .int v2] M 1 (oI Q X) := by
  refine CT_of (L := [some (.ref (g.1 + v0)), some (.int v1), some (.int v2)]) (by decide) rfl (Nat.le_of_ble_eq_true rfl) (ro_I rfl) rfl ?_
  unfold T_X6_confine at h
  refine R_iload_n (pc := 0) d_X6_confine_0 rfl rfl ?_
  refine R_aload_n (pc := 1) d_X6_confine_1 rfl rfl ?_
  obtain ⟨k1, h⟩ := h
  refine R_getR (pc := 2) fld_RX6_10 rfl rfl k1 d_X6_confine_2 ?_
  obtain ⟨k2, h⟩ := h
  refine R_getR (pc := 5) fld_RX6_75 rfl rfl k2 d_X6_confine_5 ?_
  obtain ⟨k3, h⟩ := h
  refine R_getI (pc := 8) fld_RX6_94 rfl rfl k3 d_X6_confine_8 ?_
  refine R_callS (pc := 11) (As := [.int v1, .int (M.1 (rf (rf v0 0) 2) 2)]) (rest := []) (c_X6_isBelow (g := g) v1 (M.1 (rf (rf v0 0) 2) 2) M _ h) rfl rfl cal_RX6_64 sta_X6_isBelow (by decide) (by decide) rfl rfl (Nat.le_of_ble_eq_true rfl) d_X6_confine_11 (k_Z (fun y5 M4 h => ?_)) (fun _ _ h9 => False.elim h9)
  try dsimp only at h
  refine R_if_ne (pc := 14) (tgt := 27) d_X6_confine_14 (by decide) (fun c => ?_) (fun c => ?_)
  · rw [if_neg c] at h
    refine R_aload_n (pc := 27) d_X6_confine_27 rfl rfl ?_
    refine R_getR (pc := 28) fld_RX6_26 rfl rfl k1 d_X6_confine_28 ?_
    refine R_aload_n (pc := 31) d_X6_confine_31 rfl rfl ?_
    refine R_getR (pc := 32) fld_RX6_10 rfl rfl k1 d_X6_confine_32 ?_
    obtain ⟨k6, h⟩ := h
    refine R_callV (pc := 35) (As := [.ref (g.1 + (rf v0 0))]) (rest := []) (c_X1_keep (g := g) (rf v0 3) (rf v0 0) M4 _ h) rfl rfl cal_RX6_87 ins_X1_keep sel_X1_keep (cls_at k6 clsOK1) (by decide) (by decide) rfl rfl (Nat.le_of_ble_eq_true rfl) d_X6_confine_35 (k_V (fun M7 h => ?_)) (fun _ _ h9 => False.elim h9)
    try dsimp only at h
    refine R_aload_n (pc := 38) d_X6_confine_38 rfl rfl ?_
    refine R_getR (pc := 39) fld_RX6_44 rfl rfl k1 d_X6_confine_39 ?_
    refine R_iload_n (pc := 42) d_X6_confine_42 rfl rfl ?_
    refine R_iload_n (pc := 43) d_X6_confine_43 rfl rfl ?_
    obtain ⟨k8, h⟩ := h
    refine R_callV (pc := 44) (As := [.int v1, .int v2]) (rest := []) (c_X0_confineInmate (g := g) (rf v0 5) v1 v2 M7 _ h) rfl rfl cal_RX6_143 ins_X0_confineInmate sel_X0_confineInmate (cls_at k8 clsOK0) (by decide) (by decide) rfl rfl (Nat.le_of_ble_eq_true rfl) d_X6_confine_44 (k_I (fun y10 M9 h => ?_)) (fun _ _ h9 => False.elim h9)
    try dsimp only at h
    exact R_retv (pc := 47) d_X6_confine_47 h
  · rw [if_pos c] at h
    exact R_throw rfl rfl thr_RX6_112_124_116 (by decide) (by decide) (Nat.le_of_ble_eq_true rfl) d_X6_confine_17 d_X6_confine_20 d_X6_confine_21 d_X6_confine_23 d_X6_confine_26 h
/-! X6_set -/
theorem d_X6_set_0 : decode mX6_set.2.1 0 = .ok (.iload_n 1, 1) := by decide +kernel
theorem d_X6_set_1 : decode mX6_set.2.1 1 = .ok (.iconst 4, 1) := by decide +kernel
theorem d_X6_set_2 : decode mX6_set.2.1 2 = .ok (.invokestatic 64, 3) := by decide +kernel
theorem d_X6_set_5 : decode mX6_set.2.1 5 = .ok (.ifCond .ne 13, 3) := by decide +kernel
theorem d_X6_set_8 : decode mX6_set.2.1 8 = .ok (.new 112, 3) := by decide +kernel
theorem d_X6_set_11 : decode mX6_set.2.1 11 = .ok (.dup, 1) := by decide +kernel
theorem d_X6_set_12 : decode mX6_set.2.1 12 = .ok (.ldc 147, 2) := by decide +kernel
theorem d_X6_set_14 : decode mX6_set.2.1 14 = .ok (.invokespecial 116, 3) := by decide +kernel
theorem d_X6_set_17 : decode mX6_set.2.1 17 = .ok (.athrow, 1) := by decide +kernel
theorem d_X6_set_18 : decode mX6_set.2.1 18 = .ok (.iload_n 1, 1) := by decide +kernel
theorem d_X6_set_19 : decode mX6_set.2.1 19 = .ok (.iconst 3, 1) := by decide +kernel
theorem d_X6_set_20 : decode mX6_set.2.1 20 = .ok (.if_icmp .ne 8, 3) := by decide +kernel
theorem d_X6_set_23 : decode mX6_set.2.1 23 = .ok (.bipush 12, 2) := by decide +kernel
theorem d_X6_set_25 : decode mX6_set.2.1 25 = .ok (.goto 5, 3) := by decide +kernel
theorem d_X6_set_28 : decode mX6_set.2.1 28 = .ok (.bipush 9, 2) := by decide +kernel
theorem d_X6_set_30 : decode mX6_set.2.1 30 = .ok (.istore_n 3, 1) := by decide +kernel
theorem d_X6_set_31 : decode mX6_set.2.1 31 = .ok (.iload_n 2, 1) := by decide +kernel
theorem d_X6_set_32 : decode mX6_set.2.1 32 = .ok (.ifCond .lt 8, 3) := by decide +kernel
theorem d_X6_set_35 : decode mX6_set.2.1 35 = .ok (.iload_n 2, 1) := by decide +kernel
theorem d_X6_set_36 : decode mX6_set.2.1 36 = .ok (.iload_n 3, 1) := by decide +kernel
theorem d_X6_set_37 : decode mX6_set.2.1 37 = .ok (.if_icmp .le 13, 3) := by decide +kernel
theorem d_X6_set_40 : decode mX6_set.2.1 40 = .ok (.new 68, 3) := by decide +kernel
theorem d_X6_set_43 : decode mX6_set.2.1 43 = .ok (.dup, 1) := by decide +kernel
theorem d_X6_set_44 : decode mX6_set.2.1 44 = .ok (.ldc 149, 2) := by decide +kernel
theorem d_X6_set_46 : decode mX6_set.2.1 46 = .ok (.invokespecial 72, 3) := by decide +kernel
theorem d_X6_set_49 : decode mX6_set.2.1 49 = .ok (.athrow, 1) := by decide +kernel
theorem d_X6_set_50 : decode mX6_set.2.1 50 = .ok (.aload_n 0, 1) := by decide +kernel
theorem d_X6_set_51 : decode mX6_set.2.1 51 = .ok (.getfield 26, 3) := by decide +kernel
theorem d_X6_set_54 : decode mX6_set.2.1 54 = .ok (.aload_n 0, 1) := by decide +kernel
theorem d_X6_set_55 : decode mX6_set.2.1 55 = .ok (.getfield 10, 3) := by decide +kernel
theorem d_X6_set_58 : decode mX6_set.2.1 58 = .ok (.invokevirtual 87, 3) := by decide +kernel
theorem d_X6_set_61 : decode mX6_set.2.1 61 = .ok (.aload_n 0, 1) := by decide +kernel
theorem d_X6_set_62 : decode mX6_set.2.1 62 = .ok (.getfield 10, 3) := by decide +kernel
theorem d_X6_set_65 : decode mX6_set.2.1 65 = .ok (.getfield 151, 3) := by decide +kernel
theorem d_X6_set_68 : decode mX6_set.2.1 68 = .ok (.iload_n 1, 1) := by decide +kernel
theorem d_X6_set_69 : decode mX6_set.2.1 69 = .ok (.iaload, 1) := by decide +kernel
theorem d_X6_set_70 : decode mX6_set.2.1 70 = .ok (.istore 4, 2) := by decide +kernel
theorem d_X6_set_72 : decode mX6_set.2.1 72 = .ok (.aload_n 0, 1) := by decide +kernel
theorem d_X6_set_73 : decode mX6_set.2.1 73 = .ok (.getfield 10, 3) := by decide +kernel
theorem d_X6_set_76 : decode mX6_set.2.1 76 = .ok (.getfield 151, 3) := by decide +kernel
theorem d_X6_set_79 : decode mX6_set.2.1 79 = .ok (.iload_n 1, 1) := by decide +kernel
theorem d_X6_set_80 : decode mX6_set.2.1 80 = .ok (.iload_n 2, 1) := by decide +kernel
theorem d_X6_set_81 : decode mX6_set.2.1 81 = .ok (.iastore, 1) := by decide +kernel
theorem d_X6_set_82 : decode mX6_set.2.1 82 = .ok (.iload 4, 2) := by decide +kernel
theorem d_X6_set_84 : decode mX6_set.2.1 84 = .ok (.ireturn, 1) := by decide +kernel
def T_X6_set_40 (Q : Int32 → Mem → Prop) (X : String → Mem → Prop) (M : Mem) : Prop := X "java/lang/IllegalArgumentException" M
set_option maxRecDepth 100000 in
set_option maxHeartbeats 4000000 in
theorem B_X6_set_40 {g : GG} (Q : Int32 → Mem → Prop) (X : String → Mem → Prop) (M : Mem) (h : T_X6_set_40 Q X  M) : WP g 13 mX6_set 40 [none, none, none, none, none] [] M 1 (oI Q X) := by
  unfold T_X6_set_40 at h
  exact R_throw rfl rfl thr_RX6_68_149_72 (by decide) (by decide) (Nat.le_of_ble_eq_true rfl) d_X6_set_40 d_X6_set_43 d_X6_set_44 d_X6_set_46 d_X6_set_49 h
def T_X6_set_30 (Q : Int32 → Mem → Prop) (X : String → Mem → Prop) (v0 : Nat) (v1 : Int32) (v2 : Int32) (s0 : Int32) (M : Mem) : Prop := if v2 < 0 then (T_X6_set_40 Q X M) else (if v2 ≤ s0 then ((kd v0 = 6) ∧ (kd (rf v0 3) = 1) ∧ T_X1_keep (fun M3 => (kd (rf v0 0) = 3) ∧ (kd (rf (rf v0 0) 1) = 9) ∧ (vp_in v1 (ln (rf (rf v0 0) 1))) ∧ ∀ x7 : Int32, x7 = M3.1 (rf (rf v0 0) 1) (Int32.toNatClampNeg v1) → ∀ M8 : Mem, M8 = mset M3 (rf (rf v0 0) 1) (Int32.toNatClampNeg v1) v2 → Q x7 M8)  (rf v0 3) (rf v0 0) M) else (T_X6_set_40 Q X M))
set_option maxRecDepth 100000 in
set_option maxHeartbeats 4000000 in
theorem B_X6_set_30 {g : GG} (Q : Int32 → Mem → Prop) (X : String → Mem → Prop) (v0 : Nat) (v1 : Int32) (v2 : Int32) (s0 : Int32) (M : Mem) (h : T_X6_set_30 Q X v0 v1 v2 s0 M) : WP g 13 mX6_set 30 [some (.ref (g.1 + v0)), some (.int v1), some (.int v2), none, none] [.int s0] M 1 (oI Q X) := by
  unfold T_X6_set_30 at h
  refine R_istore_n (pc := 30) (L' := [some (.ref (g.1 + v0)), some (.int v1), some (.int v2), some (.int s0), none]) d_X6_set_30 rfl (by decide) rfl ?_
  refine R_iload_n (pc := 31) d_X6_set_31 rfl rfl ?_
  refine R_if_lt (pc := 32) (tgt := 40) d_X6_set_32 (by decide) (fun c => ?_) (fun c => ?_)
  · rw [if_pos c] at h
    exact WP_sub (B_X6_set_40 Q X M h) (by decide) (ls_n (ls_n (ls_n (ls_n (ls_n ls_0)))))
  · rw [if_neg c] at h
    refine R_iload_n (pc := 35) d_X6_set_35 rfl rfl ?_
    refine R_iload_n (pc := 36) d_X6_set_36 rfl rfl ?_
    refine R_icmp_le (pc := 37) (tgt := 50) d_X6_set_37 (by decide) (fun c => ?_) (fun c => ?_)
    · rw [if_pos c] at h
      refine R_aload_n (pc := 50) d_X6_set_50 rfl rfl ?_
      obtain ⟨k1, h⟩ := h
      refine R_getR (pc := 51) fld_RX6_26 rfl rfl k1 d_X6_set_51 ?_
      refine R_aload_n (pc := 54) d_X6_set_54 rfl rfl ?_
      refine R_getR (pc := 55) fld_RX6_10 rfl rfl k1 d_X6_set_55 ?_
      obtain ⟨k2, h⟩ := h
      refine R_callV (pc := 58) (As := [.ref (g.1 + (rf v0 0))]) (rest := []) (c_X1_keep (g := g) (rf v0 3) (rf v0 0) M _ h) rfl rfl cal_RX6_87 ins_X1_keep sel_X1_keep (cls_at k2 clsOK1) (by decide) (by decide) rfl rfl (Nat.le_of_ble_eq_true rfl) d_X6_set_58 (k_V (fun M3 h => ?_)) (fun _ _ h9 => False.elim h9)
      try dsimp only at h
      refine R_aload_n (pc := 61) d_X6_set_61 rfl rfl ?_
      refine R_getR (pc := 62) fld_RX6_10 rfl rfl k1 d_X6_set_62 ?_
      obtain ⟨k4, h⟩ := h
      refine R_getR (pc := 65) fld_RX6_151 rfl rfl k4 d_X6_set_65 ?_
      refine R_iload_n (pc := 68) d_X6_set_68 rfl rfl ?_
      obtain ⟨k5, h⟩ := h
      obtain ⟨k6, h⟩ := h
      refine R_iald (pc := 69) k5 k6 d_X6_set_69 ?_
      refine N_i (fun x7 ex7 => ?_)
      have h := h x7 ex7
      refine R_istore (pc := 70) (L' := [some (.ref (g.1 + v0)), some (.int v1), some (.int v2), some (.int s0), some (.int x7)]) d_X6_set_70 (by decide) rfl ?_
      refine R_aload_n (pc := 72) d_X6_set_72 rfl rfl ?_
      refine R_getR (pc := 73) fld_RX6_10 rfl rfl k1 d_X6_set_73 ?_
      refine R_getR (pc := 76) fld_RX6_151 rfl rfl k4 d_X6_set_76 ?_
      refine R_iload_n (pc := 79) d_X6_set_79 rfl rfl ?_
      refine R_iload_n (pc := 80) d_X6_set_80 rfl rfl ?_
      refine R_iast (pc := 81) k5 k6 d_X6_set_81 (N_M (fun M8 eM8 => ?_))
      have h := h M8 eM8
      refine R_iload (pc := 82) d_X6_set_82 rfl ?_
      exact R_retv (pc := 84) d_X6_set_84 h
    · rw [if_neg c] at h
      exact WP_sub (B_X6_set_40 Q X M h) (by decide) (ls_n (ls_n (ls_n (ls_n (ls_n ls_0)))))
def T_X6_set (Q : Int32 → Mem → Prop) (X : String → Mem → Prop) (v0 : Nat) (v1 : Int32) (v2 : Int32) (M : Mem) : Prop := T_X6_isBelow (fun y2 M1 => if y2 = 0 then (X "java/lang/IndexOutOfBoundsException" M1) else (if v1 = (3 : Int32) then (T_X6_set_30 Q X v0 v1 v2 12 M1) else (T_X6_set_30 Q X v0 v1 v2 9 M1)))  v1 4 M
set_option maxRecDepth 100000 in
set_option maxHeartbeats 4000000 in
theorem c_X6_set {g : GG} (v0 : Nat) (v1 : Int32) (v2 : Int32) (M : Mem) (Q : Int32 → Mem → Prop) (X : String → Mem → Prop) (h : T_X6_set Q X v0 v1 v2 M) : CT g 13 mX6_set [.ref (g.1 + v0), .int v1, .int v2] M 1 (oI Q X) := by
  refine CT_of (L := [some (.ref (g.1 + v0)), some (.int v1), some (.int v2), none, none]) (by decide) rfl (Nat.le_of_ble_eq_true rfl) (ro_I rfl) rfl ?_
  unfold T_X6_set at h
  refine R_iload_n (pc := 0) d_X6_set_0 rfl rfl ?_
  refine R_iconst (pc := 1) (v := 4) d_X6_set_1 (by decide) ?_
  refine R_callS (pc := 2) (As := [.int v1, .int 4]) (rest := []) (c_X6_isBelow (g := g) v1 4 M _ h) rfl rfl cal_RX6_64 sta_X6_isBelow (by decide) (by decide) rfl rfl (Nat.le_of_ble_eq_true rfl) d_X6_set_2 (k_Z (fun y2 M1 h => ?_)) (fun _ _ h9 => False.elim h9)
  try dsimp only at h
  refine R_if_ne (pc := 5) (tgt := 18) d_X6_set_5 (by decide) (fun c => ?_) (fun c => ?_)
  · rw [if_neg c] at h
    refine R_iload_n (pc := 18) d_X6_set_18 rfl rfl ?_
    refine R_iconst (pc := 19) (v := 3) d_X6_set_19 (by decide) ?_
    refine R_icmp_ne (pc := 20) (tgt := 28) d_X6_set_20 (by decide) (fun c => ?_) (fun c => ?_)
    · rw [if_neg c] at h
      refine R_bipush (pc := 28) (v := 9) d_X6_set_28 (by decide) ?_
      exact WP_sub (B_X6_set_30 Q X v0 v1 v2 9 M1 h) (by decide) (ls_s (ls_s (ls_s (ls_n (ls_n ls_0)))))
    · rw [if_pos c] at h
      refine R_bipush (pc := 23) (v := 12) d_X6_set_23 (by decide) ?_
      refine R_goto (pc := 25) (tgt := 30) d_X6_set_25 (by decide) ?_
      exact WP_sub (B_X6_set_30 Q X v0 v1 v2 12 M1 h) (by decide) (ls_s (ls_s (ls_s (ls_n (ls_n ls_0)))))
  · rw [if_pos c] at h
    exact R_throw rfl rfl thr_RX6_112_147_116 (by decide) (by decide) (Nat.le_of_ble_eq_true rfl) d_X6_set_8 d_X6_set_11 d_X6_set_12 d_X6_set_14 d_X6_set_17 h
/-! J13_bitCount_95d88 -/
theorem d_J13_bitCount_95d88_0 : decode mJ13_bitCount_95d88.2.1 0 = .ok (.lload_n 0, 1) := by decide +kernel
theorem d_J13_bitCount_95d88_1 : decode mJ13_bitCount_95d88.2.1 1 = .ok (.lload_n 0, 1) := by decide +kernel
theorem d_J13_bitCount_95d88_2 : decode mJ13_bitCount_95d88.2.1 2 = .ok (.iconst 1, 1) := by decide +kernel
theorem d_J13_bitCount_95d88_3 : decode mJ13_bitCount_95d88.2.1 3 = .ok (.lushr, 1) := by decide +kernel
theorem d_J13_bitCount_95d88_4 : decode mJ13_bitCount_95d88.2.1 4 = .ok (.ldc2_w 314, 3) := by decide +kernel
theorem d_J13_bitCount_95d88_7 : decode mJ13_bitCount_95d88.2.1 7 = .ok (.land, 1) := by decide +kernel
theorem d_J13_bitCount_95d88_8 : decode mJ13_bitCount_95d88.2.1 8 = .ok (.lsub, 1) := by decide +kernel
theorem d_J13_bitCount_95d88_9 : decode mJ13_bitCount_95d88.2.1 9 = .ok (.lstore_n 0, 1) := by decide +kernel
theorem d_J13_bitCount_95d88_10 : decode mJ13_bitCount_95d88.2.1 10 = .ok (.lload_n 0, 1) := by decide +kernel
theorem d_J13_bitCount_95d88_11 : decode mJ13_bitCount_95d88.2.1 11 = .ok (.ldc2_w 316, 3) := by decide +kernel
theorem d_J13_bitCount_95d88_14 : decode mJ13_bitCount_95d88.2.1 14 = .ok (.land, 1) := by decide +kernel
theorem d_J13_bitCount_95d88_15 : decode mJ13_bitCount_95d88.2.1 15 = .ok (.lload_n 0, 1) := by decide +kernel
theorem d_J13_bitCount_95d88_16 : decode mJ13_bitCount_95d88.2.1 16 = .ok (.iconst 2, 1) := by decide +kernel
theorem d_J13_bitCount_95d88_17 : decode mJ13_bitCount_95d88.2.1 17 = .ok (.lushr, 1) := by decide +kernel
theorem d_J13_bitCount_95d88_18 : decode mJ13_bitCount_95d88.2.1 18 = .ok (.ldc2_w 316, 3) := by decide +kernel
theorem d_J13_bitCount_95d88_21 : decode mJ13_bitCount_95d88.2.1 21 = .ok (.land, 1) := by decide +kernel
theorem d_J13_bitCount_95d88_22 : decode mJ13_bitCount_95d88.2.1 22 = .ok (.ladd, 1) := by decide +kernel
theorem d_J13_bitCount_95d88_23 : decode mJ13_bitCount_95d88.2.1 23 = .ok (.lstore_n 0, 1) := by decide +kernel
theorem d_J13_bitCount_95d88_24 : decode mJ13_bitCount_95d88.2.1 24 = .ok (.lload_n 0, 1) := by decide +kernel
theorem d_J13_bitCount_95d88_25 : decode mJ13_bitCount_95d88.2.1 25 = .ok (.lload_n 0, 1) := by decide +kernel
theorem d_J13_bitCount_95d88_26 : decode mJ13_bitCount_95d88.2.1 26 = .ok (.iconst 4, 1) := by decide +kernel
theorem d_J13_bitCount_95d88_27 : decode mJ13_bitCount_95d88.2.1 27 = .ok (.lushr, 1) := by decide +kernel
theorem d_J13_bitCount_95d88_28 : decode mJ13_bitCount_95d88.2.1 28 = .ok (.ladd, 1) := by decide +kernel
theorem d_J13_bitCount_95d88_29 : decode mJ13_bitCount_95d88.2.1 29 = .ok (.ldc2_w 318, 3) := by decide +kernel
theorem d_J13_bitCount_95d88_32 : decode mJ13_bitCount_95d88.2.1 32 = .ok (.land, 1) := by decide +kernel
theorem d_J13_bitCount_95d88_33 : decode mJ13_bitCount_95d88.2.1 33 = .ok (.lstore_n 0, 1) := by decide +kernel
theorem d_J13_bitCount_95d88_34 : decode mJ13_bitCount_95d88.2.1 34 = .ok (.lload_n 0, 1) := by decide +kernel
theorem d_J13_bitCount_95d88_35 : decode mJ13_bitCount_95d88.2.1 35 = .ok (.lload_n 0, 1) := by decide +kernel
theorem d_J13_bitCount_95d88_36 : decode mJ13_bitCount_95d88.2.1 36 = .ok (.bipush 8, 2) := by decide +kernel
theorem d_J13_bitCount_95d88_38 : decode mJ13_bitCount_95d88.2.1 38 = .ok (.lushr, 1) := by decide +kernel
theorem d_J13_bitCount_95d88_39 : decode mJ13_bitCount_95d88.2.1 39 = .ok (.ladd, 1) := by decide +kernel
theorem d_J13_bitCount_95d88_40 : decode mJ13_bitCount_95d88.2.1 40 = .ok (.lstore_n 0, 1) := by decide +kernel
theorem d_J13_bitCount_95d88_41 : decode mJ13_bitCount_95d88.2.1 41 = .ok (.lload_n 0, 1) := by decide +kernel
theorem d_J13_bitCount_95d88_42 : decode mJ13_bitCount_95d88.2.1 42 = .ok (.lload_n 0, 1) := by decide +kernel
theorem d_J13_bitCount_95d88_43 : decode mJ13_bitCount_95d88.2.1 43 = .ok (.bipush 16, 2) := by decide +kernel
theorem d_J13_bitCount_95d88_45 : decode mJ13_bitCount_95d88.2.1 45 = .ok (.lushr, 1) := by decide +kernel
theorem d_J13_bitCount_95d88_46 : decode mJ13_bitCount_95d88.2.1 46 = .ok (.ladd, 1) := by decide +kernel
theorem d_J13_bitCount_95d88_47 : decode mJ13_bitCount_95d88.2.1 47 = .ok (.lstore_n 0, 1) := by decide +kernel
theorem d_J13_bitCount_95d88_48 : decode mJ13_bitCount_95d88.2.1 48 = .ok (.lload_n 0, 1) := by decide +kernel
theorem d_J13_bitCount_95d88_49 : decode mJ13_bitCount_95d88.2.1 49 = .ok (.lload_n 0, 1) := by decide +kernel
theorem d_J13_bitCount_95d88_50 : decode mJ13_bitCount_95d88.2.1 50 = .ok (.bipush 32, 2) := by decide +kernel
theorem d_J13_bitCount_95d88_52 : decode mJ13_bitCount_95d88.2.1 52 = .ok (.lushr, 1) := by decide +kernel
theorem d_J13_bitCount_95d88_53 : decode mJ13_bitCount_95d88.2.1 53 = .ok (.ladd, 1) := by decide +kernel
theorem d_J13_bitCount_95d88_54 : decode mJ13_bitCount_95d88.2.1 54 = .ok (.lstore_n 0, 1) := by decide +kernel
theorem d_J13_bitCount_95d88_55 : decode mJ13_bitCount_95d88.2.1 55 = .ok (.lload_n 0, 1) := by decide +kernel
theorem d_J13_bitCount_95d88_56 : decode mJ13_bitCount_95d88.2.1 56 = .ok (.l2i, 1) := by decide +kernel
theorem d_J13_bitCount_95d88_57 : decode mJ13_bitCount_95d88.2.1 57 = .ok (.bipush 127, 2) := by decide +kernel
theorem d_J13_bitCount_95d88_59 : decode mJ13_bitCount_95d88.2.1 59 = .ok (.iand, 1) := by decide +kernel
theorem d_J13_bitCount_95d88_60 : decode mJ13_bitCount_95d88.2.1 60 = .ok (.ireturn, 1) := by decide +kernel
def T_J13_bitCount_95d88 (Q : Int32 → Mem → Prop) (v0 : Int64) (M : Mem) : Prop := ∀ l1 : Int64, l1 = v0 - (((Int64.toUInt64 v0 >>> ((Int32.toInt64 1).toUInt64 &&& Int64.toUInt64 63)).toInt64) &&& 6148914691236517205) → ∀ l2 : Int64, l2 = (l1 &&& 3689348814741910323) + (((Int64.toUInt64 l1 >>> ((Int32.toInt64 2).toUInt64 &&& Int64.toUInt64 63)).toInt64) &&& 3689348814741910323) → ∀ l3 : Int64, l3 = (l2 + ((Int64.toUInt64 l2 >>> ((Int32.toInt64 4).toUInt64 &&& Int64.toUInt64 63)).toInt64)) &&& 1085102592571150095 → ∀ l4 : Int64, l4 = l3 + ((Int64.toUInt64 l3 >>> ((Int32.toInt64 8).toUInt64 &&& Int64.toUInt64 63)).toInt64) → ∀ l5 : Int64, l5 = l4 + ((Int64.toUInt64 l4 >>> ((Int32.toInt64 16).toUInt64 &&& Int64.toUInt64 63)).toInt64) → ∀ l6 : Int64, l6 = l5 + ((Int64.toUInt64 l5 >>> ((Int32.toInt64 32).toUInt64 &&& Int64.toUInt64 63)).toInt64) → Q ((Int64.toInt32 l6) &&& 127) M
set_option maxRecDepth 100000 in
set_option maxHeartbeats 4000000 in
theorem c_J13_bitCount_95d88 {g : GG} (v0 : Int64) (M : Mem) (Q : Int32 → Mem → Prop) (h : T_J13_bitCount_95d88 Q v0 M) : CT g 9 mJ13_bitCount_95d88 [.long v0] M 0 (oI Q noX) := by
  refine CT_of (L := [some (.long v0), none]) (by decide) rfl (Nat.le_of_ble_eq_true rfl) (ro_I rfl) rfl ?_
  unfold T_J13_bitCount_95d88 at h
  refine R_lload_n (pc := 0) d_J13_bitCount_95d88_0 rfl rfl ?_
  refine R_lload_n (pc := 1) d_J13_bitCount_95d88_1 rfl rfl ?_
  refine R_iconst (pc := 2) (v := 1) d_J13_bitCount_95d88_2 (by decide) ?_
  refine R_lushr (pc := 3) d_J13_bitCount_95d88_3 ?_
  refine R_ldc2 (pc := 4) rfl cst_java_lang_Long_314 d_J13_bitCount_95d88_4 ?_
  refine R_land (pc := 7) d_J13_bitCount_95d88_7 ?_
  refine R_lsub (pc := 8) d_J13_bitCount_95d88_8 ?_
  refine N_l (fun l1 el1 => ?_)
  have h := h l1 el1
  refine R_lstore_n (pc := 9) (L' := [some (.long l1), none]) d_J13_bitCount_95d88_9 rfl (by decide) rfl ?_
  refine R_lload_n (pc := 10) d_J13_bitCount_95d88_10 rfl rfl ?_
  refine R_ldc2 (pc := 11) rfl cst_java_lang_Long_316 d_J13_bitCount_95d88_11 ?_
  refine R_land (pc := 14) d_J13_bitCount_95d88_14 ?_
  refine R_lload_n (pc := 15) d_J13_bitCount_95d88_15 rfl rfl ?_
  refine R_iconst (pc := 16) (v := 2) d_J13_bitCount_95d88_16 (by decide) ?_
  refine R_lushr (pc := 17) d_J13_bitCount_95d88_17 ?_
  refine R_ldc2 (pc := 18) rfl cst_java_lang_Long_316 d_J13_bitCount_95d88_18 ?_
  refine R_land (pc := 21) d_J13_bitCount_95d88_21 ?_
  refine R_ladd (pc := 22) d_J13_bitCount_95d88_22 ?_
  refine N_l (fun l2 el2 => ?_)
  have h := h l2 el2
  refine R_lstore_n (pc := 23) (L' := [some (.long l2), none]) d_J13_bitCount_95d88_23 rfl (by decide) rfl ?_
  refine R_lload_n (pc := 24) d_J13_bitCount_95d88_24 rfl rfl ?_
  refine R_lload_n (pc := 25) d_J13_bitCount_95d88_25 rfl rfl ?_
  refine R_iconst (pc := 26) (v := 4) d_J13_bitCount_95d88_26 (by decide) ?_
  refine R_lushr (pc := 27) d_J13_bitCount_95d88_27 ?_
  refine R_ladd (pc := 28) d_J13_bitCount_95d88_28 ?_
  refine R_ldc2 (pc := 29) rfl cst_java_lang_Long_318 d_J13_bitCount_95d88_29 ?_
  refine R_land (pc := 32) d_J13_bitCount_95d88_32 ?_
  refine N_l (fun l3 el3 => ?_)
  have h := h l3 el3
  refine R_lstore_n (pc := 33) (L' := [some (.long l3), none]) d_J13_bitCount_95d88_33 rfl (by decide) rfl ?_
  refine R_lload_n (pc := 34) d_J13_bitCount_95d88_34 rfl rfl ?_
  refine R_lload_n (pc := 35) d_J13_bitCount_95d88_35 rfl rfl ?_
  refine R_bipush (pc := 36) (v := 8) d_J13_bitCount_95d88_36 (by decide) ?_
  refine R_lushr (pc := 38) d_J13_bitCount_95d88_38 ?_
  refine R_ladd (pc := 39) d_J13_bitCount_95d88_39 ?_
  refine N_l (fun l4 el4 => ?_)
  have h := h l4 el4
  refine R_lstore_n (pc := 40) (L' := [some (.long l4), none]) d_J13_bitCount_95d88_40 rfl (by decide) rfl ?_
  refine R_lload_n (pc := 41) d_J13_bitCount_95d88_41 rfl rfl ?_
  refine R_lload_n (pc := 42) d_J13_bitCount_95d88_42 rfl rfl ?_
  refine R_bipush (pc := 43) (v := 16) d_J13_bitCount_95d88_43 (by decide) ?_
  refine R_lushr (pc := 45) d_J13_bitCount_95d88_45 ?_
  refine R_ladd (pc := 46) d_J13_bitCount_95d88_46 ?_
  refine N_l (fun l5 el5 => ?_)
  have h := h l5 el5
  refine R_lstore_n (pc := 47) (L' := [some (.long l5), none]) d_J13_bitCount_95d88_47 rfl (by decide) rfl ?_
  refine R_lload_n (pc := 48) d_J13_bitCount_95d88_48 rfl rfl ?_
  refine R_lload_n (pc := 49) d_J13_bitCount_95d88_49 rfl rfl ?_
  refine R_bipush (pc := 50) (v := 32) d_J13_bitCount_95d88_50 (by decide) ?_
  refine R_lushr (pc := 52) d_J13_bitCount_95d88_52 ?_
  refine R_ladd (pc := 53) d_J13_bitCount_95d88_53 ?_
  refine N_l (fun l6 el6 => ?_)
  have h := h l6 el6
  refine R_lstore_n (pc := 54) (L' := [some (.long l6), none]) d_J13_bitCount_95d88_54 rfl (by decide) rfl ?_
  refine R_lload_n (pc := 55) d_J13_bitCount_95d88_55 rfl rfl ?_
  refine R_l2i (pc := 56) d_J13_bitCount_95d88_56 ?_
  refine R_bipush (pc := 57) (v := 127) d_J13_bitCount_95d88_57 (by decide) ?_
  refine R_iand (pc := 59) d_J13_bitCount_95d88_59 ?_
  exact R_retv (pc := 60) d_J13_bitCount_95d88_60 h
/-! X6_inmate -/
theorem d_X6_inmate_0 : decode mX6_inmate.2.1 0 = .ok (.iload_n 1, 1) := by decide +kernel
theorem d_X6_inmate_1 : decode mX6_inmate.2.1 1 = .ok (.aload_n 0, 1) := by decide +kernel
theorem d_X6_inmate_2 : decode mX6_inmate.2.1 2 = .ok (.getfield 10, 3) := by decide +kernel
theorem d_X6_inmate_5 : decode mX6_inmate.2.1 5 = .ok (.getfield 75, 3) := by decide +kernel
theorem d_X6_inmate_8 : decode mX6_inmate.2.1 8 = .ok (.getfield 94, 3) := by decide +kernel
theorem d_X6_inmate_11 : decode mX6_inmate.2.1 11 = .ok (.invokestatic 64, 3) := by decide +kernel
theorem d_X6_inmate_14 : decode mX6_inmate.2.1 14 = .ok (.ifCond .ne 13, 3) := by decide +kernel
theorem d_X6_inmate_17 : decode mX6_inmate.2.1 17 = .ok (.new 112, 3) := by decide +kernel
theorem d_X6_inmate_20 : decode mX6_inmate.2.1 20 = .ok (.dup, 1) := by decide +kernel
theorem d_X6_inmate_21 : decode mX6_inmate.2.1 21 = .ok (.ldc 124, 2) := by decide +kernel
theorem d_X6_inmate_23 : decode mX6_inmate.2.1 23 = .ok (.invokespecial 116, 3) := by decide +kernel
theorem d_X6_inmate_26 : decode mX6_inmate.2.1 26 = .ok (.athrow, 1) := by decide +kernel
theorem d_X6_inmate_27 : decode mX6_inmate.2.1 27 = .ok (.iload_n 2, 1) := by decide +kernel
theorem d_X6_inmate_28 : decode mX6_inmate.2.1 28 = .ok (.iconst 5, 1) := by decide +kernel
theorem d_X6_inmate_29 : decode mX6_inmate.2.1 29 = .ok (.invokestatic 64, 3) := by decide +kernel
theorem d_X6_inmate_32 : decode mX6_inmate.2.1 32 = .ok (.ifCond .ne 13, 3) := by decide +kernel
theorem d_X6_inmate_35 : decode mX6_inmate.2.1 35 = .ok (.new 68, 3) := by decide +kernel
theorem d_X6_inmate_38 : decode mX6_inmate.2.1 38 = .ok (.dup, 1) := by decide +kernel
theorem d_X6_inmate_39 : decode mX6_inmate.2.1 39 = .ok (.ldc 155, 2) := by decide +kernel
theorem d_X6_inmate_41 : decode mX6_inmate.2.1 41 = .ok (.invokespecial 72, 3) := by decide +kernel
theorem d_X6_inmate_44 : decode mX6_inmate.2.1 44 = .ok (.athrow, 1) := by decide +kernel
theorem d_X6_inmate_45 : decode mX6_inmate.2.1 45 = .ok (.iload_n 2, 1) := by decide +kernel
theorem d_X6_inmate_46 : decode mX6_inmate.2.1 46 = .ok (.iconst 3, 1) := by decide +kernel
theorem d_X6_inmate_47 : decode mX6_inmate.2.1 47 = .ok (.if_icmp .ge 18, 3) := by decide +kernel
theorem d_X6_inmate_50 : decode mX6_inmate.2.1 50 = .ok (.aload_n 0, 1) := by decide +kernel
theorem d_X6_inmate_51 : decode mX6_inmate.2.1 51 = .ok (.getfield 10, 3) := by decide +kernel
theorem d_X6_inmate_54 : decode mX6_inmate.2.1 54 = .ok (.getfield 75, 3) := by decide +kernel
theorem d_X6_inmate_57 : decode mX6_inmate.2.1 57 = .ok (.getfield 128, 3) := by decide +kernel
theorem d_X6_inmate_60 : decode mX6_inmate.2.1 60 = .ok (.iload_n 1, 1) := by decide +kernel
theorem d_X6_inmate_61 : decode mX6_inmate.2.1 61 = .ok (.aaload, 1) := by decide +kernel
theorem d_X6_inmate_62 : decode mX6_inmate.2.1 62 = .ok (.iload_n 2, 1) := by decide +kernel
theorem d_X6_inmate_63 : decode mX6_inmate.2.1 63 = .ok (.iaload, 1) := by decide +kernel
theorem d_X6_inmate_64 : decode mX6_inmate.2.1 64 = .ok (.ireturn, 1) := by decide +kernel
theorem d_X6_inmate_65 : decode mX6_inmate.2.1 65 = .ok (.iload_n 2, 1) := by decide +kernel
theorem d_X6_inmate_66 : decode mX6_inmate.2.1 66 = .ok (.iconst 3, 1) := by decide +kernel
theorem d_X6_inmate_67 : decode mX6_inmate.2.1 67 = .ok (.if_icmp .ne 16, 3) := by decide +kernel
theorem d_X6_inmate_70 : decode mX6_inmate.2.1 70 = .ok (.aload_n 0, 1) := by decide +kernel
theorem d_X6_inmate_71 : decode mX6_inmate.2.1 71 = .ok (.getfield 10, 3) := by decide +kernel
theorem d_X6_inmate_74 : decode mX6_inmate.2.1 74 = .ok (.iconst 0, 1) := by decide +kernel
theorem d_X6_inmate_75 : decode mX6_inmate.2.1 75 = .ok (.iload_n 1, 1) := by decide +kernel
theorem d_X6_inmate_76 : decode mX6_inmate.2.1 76 = .ok (.invokevirtual 157, 3) := by decide +kernel
theorem d_X6_inmate_79 : decode mX6_inmate.2.1 79 = .ok (.invokestatic 161, 3) := by decide +kernel
theorem d_X6_inmate_82 : decode mX6_inmate.2.1 82 = .ok (.ireturn, 1) := by decide +kernel
theorem d_X6_inmate_83 : decode mX6_inmate.2.1 83 = .ok (.aload_n 0, 1) := by decide +kernel
theorem d_X6_inmate_84 : decode mX6_inmate.2.1 84 = .ok (.getfield 10, 3) := by decide +kernel
theorem d_X6_inmate_87 : decode mX6_inmate.2.1 87 = .ok (.iload_n 1, 1) := by decide +kernel
theorem d_X6_inmate_88 : decode mX6_inmate.2.1 88 = .ok (.aload_n 0, 1) := by decide +kernel
theorem d_X6_inmate_89 : decode mX6_inmate.2.1 89 = .ok (.getfield 10, 3) := by decide +kernel
theorem d_X6_inmate_92 : decode mX6_inmate.2.1 92 = .ok (.getfield 167, 3) := by decide +kernel
theorem d_X6_inmate_95 : decode mX6_inmate.2.1 95 = .ok (.bipush 7, 2) := by decide +kernel
theorem d_X6_inmate_97 : decode mX6_inmate.2.1 97 = .ok (.idiv, 1) := by decide +kernel
theorem d_X6_inmate_98 : decode mX6_inmate.2.1 98 = .ok (.invokevirtual 170, 3) := by decide +kernel
theorem d_X6_inmate_101 : decode mX6_inmate.2.1 101 = .ok (.ireturn, 1) := by decide +kernel
def T_X6_inmate (Q : Int32 → Mem → Prop) (X : String → Mem → Prop) (v0 : Nat) (v1 : Int32) (v2 : Int32) (M : Mem) : Prop := (kd v0 = 6) ∧ (kd (rf v0 0) = 3) ∧ (kd (rf (rf v0 0) 2) = 4) ∧ T_X6_isBelow (fun y5 M4 => if y5 = 0 then (X "java/lang/IndexOutOfBoundsException" M4) else (T_X6_isBelow (fun y7 M6 => if y7 = 0 then (X "java/lang/IllegalArgumentException" M6) else (if (3 : Int32) ≤ v2 then (if v2 = (3 : Int32) then (T_X3_bookedWith (fun y11 M10 => T_J13_bitCount_95d88 (fun y13 M12 => Q y13 M12)  y11 M10)  (rf v0 0) 0 v1 M6) else (T_X3_countedVisits (fun y9 M8 => Q y9 M8)  (rf v0 0) v1 ((M6.1 (rf v0 0) 0) / 7) M6)) else ((kd (rf (rf (rf v0 0) 2) 0) = 10 ∨ kd (rf (rf (rf v0 0) 2) 0) = 11) ∧ (vp_in v1 (ln (rf (rf (rf v0 0) 2) 0))) ∧ (kd (rf (rf (rf (rf v0 0) 2) 0) (Int32.toNatClampNeg v1)) = 9) ∧ (vp_in v2 (ln (rf (rf (rf (rf v0 0) 2) 0) (Int32.toNatClampNeg v1)))) ∧ Q (M6.1 (rf (rf (rf (rf v0 0) 2) 0) (Int32.toNatClampNeg v1)) (Int32.toNatClampNeg v2)) M6)))  v2 5 M4))  v1 (M.1 (rf (rf v0 0) 2) 2) M
set_option maxRecDepth 100000 in
set_option maxHeartbeats 4000000 in
theorem c_X6_inmate {g : GG} (v0 : Nat) (v1 : Int32) (v2 : Int32) (M : Mem) (Q : Int32 → Mem → Prop) (X : String → Mem → Prop) (h : T_X6_inmate Q X v0 v1 v2 M) : CT g 11 mX6_inmate [.ref (g.1 + v0), .int v1, .int v2] M 1 (oI Q X) := by
  refine CT_of (L := [some (.ref (g.1 + v0)), some (.int v1), some (.int v2)]) (by decide) rfl (Nat.le_of_ble_eq_true rfl) (ro_I rfl) rfl ?_
  unfold T_X6_inmate at h
  refine R_iload_n (pc := 0) d_X6_inmate_0 rfl rfl ?_
  refine R_aload_n (pc := 1) d_X6_inmate_1 rfl rfl ?_
  obtain ⟨k1, h⟩ := h
  refine R_getR (pc := 2) fld_RX6_10 rfl rfl k1 d_X6_inmate_2 ?_
  obtain ⟨k2, h⟩ := h
  refine R_getR (pc := 5) fld_RX6_75 rfl rfl k2 d_X6_inmate_5 ?_
  obtain ⟨k3, h⟩ := h
  refine R_getI (pc := 8) fld_RX6_94 rfl rfl k3 d_X6_inmate_8 ?_
  refine R_callS (pc := 11) (As := [.int v1, .int (M.1 (rf (rf v0 0) 2) 2)]) (rest := []) (c_X6_isBelow (g := g) v1 (M.1 (rf (rf v0 0) 2) 2) M _ h) rfl rfl cal_RX6_64 sta_X6_isBelow (by decide) (by decide) rfl rfl (Nat.le_of_ble_eq_true rfl) d_X6_inmate_11 (k_Z (fun y5 M4 h => ?_)) (fun _ _ h9 => False.elim h9)
  try dsimp only at h
  refine R_if_ne (pc := 14) (tgt := 27) d_X6_inmate_14 (by decide) (fun c => ?_) (fun c => ?_)
  · rw [if_neg c] at h
    refine R_iload_n (pc := 27) d_X6_inmate_27 rfl rfl ?_
    refine R_iconst (pc := 28) (v := 5) d_X6_inmate_28 (by decide) ?_
    refine R_callS (pc := 29) (As := [.int v2, .int 5]) (rest := []) (c_X6_isBelow (g := g) v2 5 M4 _ h) rfl rfl cal_RX6_64 sta_X6_isBelow (by decide) (by decide) rfl rfl (Nat.le_of_ble_eq_true rfl) d_X6_inmate_29 (k_Z (fun y7 M6 h => ?_)) (fun _ _ h9 => False.elim h9)
    try dsimp only at h
    refine R_if_ne (pc := 32) (tgt := 45) d_X6_inmate_32 (by decide) (fun c => ?_) (fun c => ?_)
    · rw [if_neg c] at h
      refine R_iload_n (pc := 45) d_X6_inmate_45 rfl rfl ?_
      refine R_iconst (pc := 46) (v := 3) d_X6_inmate_46 (by decide) ?_
      refine R_icmp_ge (pc := 47) (tgt := 65) d_X6_inmate_47 (by decide) (fun c => ?_) (fun c => ?_)
      · rw [if_pos c] at h
        refine R_iload_n (pc := 65) d_X6_inmate_65 rfl rfl ?_
        refine R_iconst (pc := 66) (v := 3) d_X6_inmate_66 (by decide) ?_
        refine R_icmp_ne (pc := 67) (tgt := 83) d_X6_inmate_67 (by decide) (fun c => ?_) (fun c => ?_)
        · rw [if_neg c] at h
          refine R_aload_n (pc := 83) d_X6_inmate_83 rfl rfl ?_
          refine R_getR (pc := 84) fld_RX6_10 rfl rfl k1 d_X6_inmate_84 ?_
          refine R_iload_n (pc := 87) d_X6_inmate_87 rfl rfl ?_
          refine R_aload_n (pc := 88) d_X6_inmate_88 rfl rfl ?_
          refine R_getR (pc := 89) fld_RX6_10 rfl rfl k1 d_X6_inmate_89 ?_
          refine R_getI (pc := 92) fld_RX6_167 rfl rfl k2 d_X6_inmate_92 ?_
          refine R_bipush (pc := 95) (v := 7) d_X6_inmate_95 (by decide) ?_
          refine R_idiv (pc := 97) d_X6_inmate_97 (by decide) ?_
          refine R_callV (pc := 98) (As := [.int v1, .int ((M6.1 (rf v0 0) 0) / 7)]) (rest := []) (c_X3_countedVisits (g := g) (rf v0 0) v1 ((M6.1 (rf v0 0) 0) / 7) M6 _ h) rfl rfl cal_RX6_170 ins_X3_countedVisits sel_X3_countedVisits (cls_at k2 clsOK3) (by decide) (by decide) rfl rfl (Nat.le_of_ble_eq_true rfl) d_X6_inmate_98 (k_I (fun y9 M8 h => ?_)) (fun _ _ h9 => False.elim h9)
          try dsimp only at h
          exact R_retv (pc := 101) d_X6_inmate_101 h
        · rw [if_pos c] at h
          refine R_aload_n (pc := 70) d_X6_inmate_70 rfl rfl ?_
          refine R_getR (pc := 71) fld_RX6_10 rfl rfl k1 d_X6_inmate_71 ?_
          refine R_iconst (pc := 74) (v := 0) d_X6_inmate_74 (by decide) ?_
          refine R_iload_n (pc := 75) d_X6_inmate_75 rfl rfl ?_
          refine R_callV (pc := 76) (As := [.int 0, .int v1]) (rest := []) (c_X3_bookedWith (g := g) (rf v0 0) 0 v1 M6 _ h) rfl rfl cal_RX6_157 ins_X3_bookedWith sel_X3_bookedWith (cls_at k2 clsOK3) (by decide) (by decide) rfl rfl (Nat.le_of_ble_eq_true rfl) d_X6_inmate_76 (k_L (fun y11 M10 h => ?_)) (fun _ _ h9 => False.elim h9)
          try dsimp only at h
          refine R_callS (pc := 79) (As := [.long y11]) (rest := []) (c_J13_bitCount_95d88 (g := g) y11 M10 _ h) rfl rfl cal_RX6_161 sta_J13_bitCount_95d88 (by decide) (by decide) rfl rfl (Nat.le_of_ble_eq_true rfl) d_X6_inmate_79 (k_I (fun y13 M12 h => ?_)) (fun _ _ h9 => False.elim h9)
          try dsimp only at h
          exact R_retv (pc := 82) d_X6_inmate_82 h
      · rw [if_neg c] at h
        refine R_aload_n (pc := 50) d_X6_inmate_50 rfl rfl ?_
        refine R_getR (pc := 51) fld_RX6_10 rfl rfl k1 d_X6_inmate_51 ?_
        refine R_getR (pc := 54) fld_RX6_75 rfl rfl k2 d_X6_inmate_54 ?_
        refine R_getR (pc := 57) fld_RX6_128 rfl rfl k3 d_X6_inmate_57 ?_
        refine R_iload_n (pc := 60) d_X6_inmate_60 rfl rfl ?_
        obtain ⟨k14, h⟩ := h
        obtain ⟨k15, h⟩ := h
        refine R_aald (pc := 61) k14 k15 d_X6_inmate_61 ?_
        refine R_iload_n (pc := 62) d_X6_inmate_62 rfl rfl ?_
        obtain ⟨k16, h⟩ := h
        obtain ⟨k17, h⟩ := h
        refine R_iald (pc := 63) k16 k17 d_X6_inmate_63 ?_
        exact R_retv (pc := 64) d_X6_inmate_64 h
    · rw [if_pos c] at h
      exact R_throw rfl rfl thr_RX6_68_155_72 (by decide) (by decide) (Nat.le_of_ble_eq_true rfl) d_X6_inmate_35 d_X6_inmate_38 d_X6_inmate_39 d_X6_inmate_41 d_X6_inmate_44 h
  · rw [if_pos c] at h
    exact R_throw rfl rfl thr_RX6_112_124_116 (by decide) (by decide) (Nat.le_of_ble_eq_true rfl) d_X6_inmate_17 d_X6_inmate_20 d_X6_inmate_21 d_X6_inmate_23 d_X6_inmate_26 h
/-! X6_room -/
theorem d_X6_room_0 : decode mX6_room.2.1 0 = .ok (.iload_n 1, 1) := by decide +kernel
theorem d_X6_room_1 : decode mX6_room.2.1 1 = .ok (.aload_n 0, 1) := by decide +kernel
theorem d_X6_room_2 : decode mX6_room.2.1 2 = .ok (.getfield 10, 3) := by decide +kernel
theorem d_X6_room_5 : decode mX6_room.2.1 5 = .ok (.getfield 107, 3) := by decide +kernel
theorem d_X6_room_8 : decode mX6_room.2.1 8 = .ok (.getfield 94, 3) := by decide +kernel
theorem d_X6_room_11 : decode mX6_room.2.1 11 = .ok (.invokestatic 64, 3) := by decide +kernel
theorem d_X6_room_14 : decode mX6_room.2.1 14 = .ok (.ifCond .ne 13, 3) := by decide +kernel
theorem d_X6_room_17 : decode mX6_room.2.1 17 = .ok (.new 112, 3) := by decide +kernel
theorem d_X6_room_20 : decode mX6_room.2.1 20 = .ok (.dup, 1) := by decide +kernel
theorem d_X6_room_21 : decode mX6_room.2.1 21 = .ok (.ldc 114, 2) := by decide +kernel
theorem d_X6_room_23 : decode mX6_room.2.1 23 = .ok (.invokespecial 116, 3) := by decide +kernel
theorem d_X6_room_26 : decode mX6_room.2.1 26 = .ok (.athrow, 1) := by decide +kernel
theorem d_X6_room_27 : decode mX6_room.2.1 27 = .ok (.iload_n 2, 1) := by decide +kernel
theorem d_X6_room_28 : decode mX6_room.2.1 28 = .ok (.iconst 5, 1) := by decide +kernel
theorem d_X6_room_29 : decode mX6_room.2.1 29 = .ok (.invokestatic 64, 3) := by decide +kernel
theorem d_X6_room_32 : decode mX6_room.2.1 32 = .ok (.ifCond .ne 13, 3) := by decide +kernel
theorem d_X6_room_35 : decode mX6_room.2.1 35 = .ok (.new 68, 3) := by decide +kernel
theorem d_X6_room_38 : decode mX6_room.2.1 38 = .ok (.dup, 1) := by decide +kernel
theorem d_X6_room_39 : decode mX6_room.2.1 39 = .ok (.ldc 155, 2) := by decide +kernel
theorem d_X6_room_41 : decode mX6_room.2.1 41 = .ok (.invokespecial 72, 3) := by decide +kernel
theorem d_X6_room_44 : decode mX6_room.2.1 44 = .ok (.athrow, 1) := by decide +kernel
theorem d_X6_room_45 : decode mX6_room.2.1 45 = .ok (.iload_n 2, 1) := by decide +kernel
theorem d_X6_room_46 : decode mX6_room.2.1 46 = .ok (.iconst 4, 1) := by decide +kernel
theorem d_X6_room_47 : decode mX6_room.2.1 47 = .ok (.if_icmp .ge 18, 3) := by decide +kernel
theorem d_X6_room_50 : decode mX6_room.2.1 50 = .ok (.aload_n 0, 1) := by decide +kernel
theorem d_X6_room_51 : decode mX6_room.2.1 51 = .ok (.getfield 10, 3) := by decide +kernel
theorem d_X6_room_54 : decode mX6_room.2.1 54 = .ok (.getfield 107, 3) := by decide +kernel
theorem d_X6_room_57 : decode mX6_room.2.1 57 = .ok (.getfield 128, 3) := by decide +kernel
theorem d_X6_room_60 : decode mX6_room.2.1 60 = .ok (.iload_n 1, 1) := by decide +kernel
theorem d_X6_room_61 : decode mX6_room.2.1 61 = .ok (.aaload, 1) := by decide +kernel
theorem d_X6_room_62 : decode mX6_room.2.1 62 = .ok (.iload_n 2, 1) := by decide +kernel
theorem d_X6_room_63 : decode mX6_room.2.1 63 = .ok (.iaload, 1) := by decide +kernel
theorem d_X6_room_64 : decode mX6_room.2.1 64 = .ok (.ireturn, 1) := by decide +kernel
theorem d_X6_room_65 : decode mX6_room.2.1 65 = .ok (.aload_n 0, 1) := by decide +kernel
theorem d_X6_room_66 : decode mX6_room.2.1 66 = .ok (.getfield 10, 3) := by decide +kernel
theorem d_X6_room_69 : decode mX6_room.2.1 69 = .ok (.iconst 4, 1) := by decide +kernel
theorem d_X6_room_70 : decode mX6_room.2.1 70 = .ok (.iload_n 1, 1) := by decide +kernel
theorem d_X6_room_71 : decode mX6_room.2.1 71 = .ok (.invokevirtual 157, 3) := by decide +kernel
theorem d_X6_room_74 : decode mX6_room.2.1 74 = .ok (.invokestatic 161, 3) := by decide +kernel
theorem d_X6_room_77 : decode mX6_room.2.1 77 = .ok (.ireturn, 1) := by decide +kernel
def T_X6_room (Q : Int32 → Mem → Prop) (X : String → Mem → Prop) (v0 : Nat) (v1 : Int32) (v2 : Int32) (M : Mem) : Prop := (kd v0 = 6) ∧ (kd (rf v0 0) = 3) ∧ (kd (rf (rf v0 0) 4) = 4) ∧ T_X6_isBelow (fun y5 M4 => if y5 = 0 then (X "java/lang/IndexOutOfBoundsException" M4) else (T_X6_isBelow (fun y7 M6 => if y7 = 0 then (X "java/lang/IllegalArgumentException" M6) else (if (4 : Int32) ≤ v2 then (T_X3_bookedWith (fun y9 M8 => T_J13_bitCount_95d88 (fun y11 M10 => Q y11 M10)  y9 M8)  (rf v0 0) 4 v1 M6) else ((kd (rf (rf (rf v0 0) 4) 0) = 10 ∨ kd (rf (rf (rf v0 0) 4) 0) = 11) ∧ (vp_in v1 (ln (rf (rf (rf v0 0) 4) 0))) ∧ (kd (rf (rf (rf (rf v0 0) 4) 0) (Int32.toNatClampNeg v1)) = 9) ∧ (vp_in v2 (ln (rf (rf (rf (rf v0 0) 4) 0) (Int32.toNatClampNeg v1)))) ∧ Q (M6.1 (rf (rf (rf (rf v0 0) 4) 0) (Int32.toNatClampNeg v1)) (Int32.toNatClampNeg v2)) M6)))  v2 5 M4))  v1 (M.1 (rf (rf v0 0) 4) 2) M
set_option maxRecDepth 100000 in
set_option maxHeartbeats 4000000 in
theorem c_X6_room {g : GG} (v0 : Nat) (v1 : Int32) (v2 : Int32) (M : Mem) (Q : Int32 → Mem → Prop) (X : String → Mem → Prop) (h : T_X6_room Q X v0 v1 v2 M) : CT g 10 mX6_room [.ref (g.1 + v0), .int v1, .int v2] M 1 (oI Q X) := by
  refine CT_of (L := [some (.ref (g.1 + v0)), some (.int v1), some (.int v2)]) (by decide) rfl (Nat.le_of_ble_eq_true rfl) (ro_I rfl) rfl ?_
  unfold T_X6_room at h
  refine R_iload_n (pc := 0) d_X6_room_0 rfl rfl ?_
  refine R_aload_n (pc := 1) d_X6_room_1 rfl rfl ?_
  obtain ⟨k1, h⟩ := h
  refine R_getR (pc := 2) fld_RX6_10 rfl rfl k1 d_X6_room_2 ?_
  obtain ⟨k2, h⟩ := h
  refine R_getR (pc := 5) fld_RX6_107 rfl rfl k2 d_X6_room_5 ?_
  obtain ⟨k3, h⟩ := h
  refine R_getI (pc := 8) fld_RX6_94 rfl rfl k3 d_X6_room_8 ?_
  refine R_callS (pc := 11) (As := [.int v1, .int (M.1 (rf (rf v0 0) 4) 2)]) (rest := []) (c_X6_isBelow (g := g) v1 (M.1 (rf (rf v0 0) 4) 2) M _ h) rfl rfl cal_RX6_64 sta_X6_isBelow (by decide) (by decide) rfl rfl (Nat.le_of_ble_eq_true rfl) d_X6_room_11 (k_Z (fun y5 M4 h => ?_)) (fun _ _ h9 => False.elim h9)
  try dsimp only at h
  refine R_if_ne (pc := 14) (tgt := 27) d_X6_room_14 (by decide) (fun c => ?_) (fun c => ?_)
  · rw [if_neg c] at h
    refine R_iload_n (pc := 27) d_X6_room_27 rfl rfl ?_
    refine R_iconst (pc := 28) (v := 5) d_X6_room_28 (by decide) ?_
    refine R_callS (pc := 29) (As := [.int v2, .int 5]) (rest := []) (c_X6_isBelow (g := g) v2 5 M4 _ h) rfl rfl cal_RX6_64 sta_X6_isBelow (by decide) (by decide) rfl rfl (Nat.le_of_ble_eq_true rfl) d_X6_room_29 (k_Z (fun y7 M6 h => ?_)) (fun _ _ h9 => False.elim h9)
    try dsimp only at h
    refine R_if_ne (pc := 32) (tgt := 45) d_X6_room_32 (by decide) (fun c => ?_) (fun c => ?_)
    · rw [if_neg c] at h
      refine R_iload_n (pc := 45) d_X6_room_45 rfl rfl ?_
      refine R_iconst (pc := 46) (v := 4) d_X6_room_46 (by decide) ?_
      refine R_icmp_ge (pc := 47) (tgt := 65) d_X6_room_47 (by decide) (fun c => ?_) (fun c => ?_)
      · rw [if_pos c] at h
        refine R_aload_n (pc := 65) d_X6_room_65 rfl rfl ?_
        refine R_getR (pc := 66) fld_RX6_10 rfl rfl k1 d_X6_room_66 ?_
        refine R_iconst (pc := 69) (v := 4) d_X6_room_69 (by decide) ?_
        refine R_iload_n (pc := 70) d_X6_room_70 rfl rfl ?_
        refine R_callV (pc := 71) (As := [.int 4, .int v1]) (rest := []) (c_X3_bookedWith (g := g) (rf v0 0) 4 v1 M6 _ h) rfl rfl cal_RX6_157 ins_X3_bookedWith sel_X3_bookedWith (cls_at k2 clsOK3) (by decide) (by decide) rfl rfl (Nat.le_of_ble_eq_true rfl) d_X6_room_71 (k_L (fun y9 M8 h => ?_)) (fun _ _ h9 => False.elim h9)
        try dsimp only at h
        refine R_callS (pc := 74) (As := [.long y9]) (rest := []) (c_J13_bitCount_95d88 (g := g) y9 M8 _ h) rfl rfl cal_RX6_161 sta_J13_bitCount_95d88 (by decide) (by decide) rfl rfl (Nat.le_of_ble_eq_true rfl) d_X6_room_74 (k_I (fun y11 M10 h => ?_)) (fun _ _ h9 => False.elim h9)
        try dsimp only at h
        exact R_retv (pc := 77) d_X6_room_77 h
      · rw [if_neg c] at h
        refine R_aload_n (pc := 50) d_X6_room_50 rfl rfl ?_
        refine R_getR (pc := 51) fld_RX6_10 rfl rfl k1 d_X6_room_51 ?_
        refine R_getR (pc := 54) fld_RX6_107 rfl rfl k2 d_X6_room_54 ?_
        refine R_getR (pc := 57) fld_RX6_128 rfl rfl k3 d_X6_room_57 ?_
        refine R_iload_n (pc := 60) d_X6_room_60 rfl rfl ?_
        obtain ⟨k12, h⟩ := h
        obtain ⟨k13, h⟩ := h
        refine R_aald (pc := 61) k12 k13 d_X6_room_61 ?_
        refine R_iload_n (pc := 62) d_X6_room_62 rfl rfl ?_
        obtain ⟨k14, h⟩ := h
        obtain ⟨k15, h⟩ := h
        refine R_iald (pc := 63) k14 k15 d_X6_room_63 ?_
        exact R_retv (pc := 64) d_X6_room_64 h
    · rw [if_pos c] at h
      exact R_throw rfl rfl thr_RX6_68_155_72 (by decide) (by decide) (Nat.le_of_ble_eq_true rfl) d_X6_room_35 d_X6_room_38 d_X6_room_39 d_X6_room_41 d_X6_room_44 h
  · rw [if_pos c] at h
    exact R_throw rfl rfl thr_RX6_112_114_116 (by decide) (by decide) (Nat.le_of_ble_eq_true rfl) d_X6_room_17 d_X6_room_20 d_X6_room_21 d_X6_room_23 d_X6_room_26 h
/-! X6_ordered -/
theorem d_X6_ordered_0 : decode mX6_ordered.2.1 0 = .ok (.iload_n 1, 1) := by decide +kernel
theorem d_X6_ordered_1 : decode mX6_ordered.2.1 1 = .ok (.aload_n 0, 1) := by decide +kernel
theorem d_X6_ordered_2 : decode mX6_ordered.2.1 2 = .ok (.getfield 10, 3) := by decide +kernel
theorem d_X6_ordered_5 : decode mX6_ordered.2.1 5 = .ok (.getfield 75, 3) := by decide +kernel
theorem d_X6_ordered_8 : decode mX6_ordered.2.1 8 = .ok (.getfield 94, 3) := by decide +kernel
theorem d_X6_ordered_11 : decode mX6_ordered.2.1 11 = .ok (.invokestatic 64, 3) := by decide +kernel
theorem d_X6_ordered_14 : decode mX6_ordered.2.1 14 = .ok (.ifCond .ne 13, 3) := by decide +kernel
theorem d_X6_ordered_17 : decode mX6_ordered.2.1 17 = .ok (.new 112, 3) := by decide +kernel
theorem d_X6_ordered_20 : decode mX6_ordered.2.1 20 = .ok (.dup, 1) := by decide +kernel
theorem d_X6_ordered_21 : decode mX6_ordered.2.1 21 = .ok (.ldc 124, 2) := by decide +kernel
theorem d_X6_ordered_23 : decode mX6_ordered.2.1 23 = .ok (.invokespecial 116, 3) := by decide +kernel
theorem d_X6_ordered_26 : decode mX6_ordered.2.1 26 = .ok (.athrow, 1) := by decide +kernel
theorem d_X6_ordered_27 : decode mX6_ordered.2.1 27 = .ok (.iload_n 2, 1) := by decide +kernel
theorem d_X6_ordered_28 : decode mX6_ordered.2.1 28 = .ok (.aload_n 0, 1) := by decide +kernel
theorem d_X6_ordered_29 : decode mX6_ordered.2.1 29 = .ok (.getfield 10, 3) := by decide +kernel
theorem d_X6_ordered_32 : decode mX6_ordered.2.1 32 = .ok (.getfield 107, 3) := by decide +kernel
theorem d_X6_ordered_35 : decode mX6_ordered.2.1 35 = .ok (.getfield 94, 3) := by decide +kernel
theorem d_X6_ordered_38 : decode mX6_ordered.2.1 38 = .ok (.invokestatic 64, 3) := by decide +kernel
theorem d_X6_ordered_41 : decode mX6_ordered.2.1 41 = .ok (.ifCond .ne 13, 3) := by decide +kernel
theorem d_X6_ordered_44 : decode mX6_ordered.2.1 44 = .ok (.new 173, 3) := by decide +kernel
theorem d_X6_ordered_47 : decode mX6_ordered.2.1 47 = .ok (.dup, 1) := by decide +kernel
theorem d_X6_ordered_48 : decode mX6_ordered.2.1 48 = .ok (.ldc 175, 2) := by decide +kernel
theorem d_X6_ordered_50 : decode mX6_ordered.2.1 50 = .ok (.invokespecial 177, 3) := by decide +kernel
theorem d_X6_ordered_53 : decode mX6_ordered.2.1 53 = .ok (.athrow, 1) := by decide +kernel
theorem d_X6_ordered_54 : decode mX6_ordered.2.1 54 = .ok (.iconst 1, 1) := by decide +kernel
theorem d_X6_ordered_55 : decode mX6_ordered.2.1 55 = .ok (.aload_n 0, 1) := by decide +kernel
theorem d_X6_ordered_56 : decode mX6_ordered.2.1 56 = .ok (.getfield 10, 3) := by decide +kernel
theorem d_X6_ordered_59 : decode mX6_ordered.2.1 59 = .ok (.getfield 107, 3) := by decide +kernel
theorem d_X6_ordered_62 : decode mX6_ordered.2.1 62 = .ok (.getfield 94, 3) := by decide +kernel
theorem d_X6_ordered_65 : decode mX6_ordered.2.1 65 = .ok (.ishl, 1) := by decide +kernel
theorem d_X6_ordered_66 : decode mX6_ordered.2.1 66 = .ok (.iconst 1, 1) := by decide +kernel
theorem d_X6_ordered_67 : decode mX6_ordered.2.1 67 = .ok (.isub, 1) := by decide +kernel
theorem d_X6_ordered_68 : decode mX6_ordered.2.1 68 = .ok (.istore_n 3, 1) := by decide +kernel
theorem d_X6_ordered_69 : decode mX6_ordered.2.1 69 = .ok (.aload_n 0, 1) := by decide +kernel
theorem d_X6_ordered_70 : decode mX6_ordered.2.1 70 = .ok (.getfield 10, 3) := by decide +kernel
theorem d_X6_ordered_73 : decode mX6_ordered.2.1 73 = .ok (.iload_n 1, 1) := by decide +kernel
theorem d_X6_ordered_74 : decode mX6_ordered.2.1 74 = .ok (.iload_n 3, 1) := by decide +kernel
theorem d_X6_ordered_75 : decode mX6_ordered.2.1 75 = .ok (.invokevirtual 178, 3) := by decide +kernel
theorem d_X6_ordered_78 : decode mX6_ordered.2.1 78 = .ok (.istore 4, 2) := by decide +kernel
theorem d_X6_ordered_80 : decode mX6_ordered.2.1 80 = .ok (.iconst 0, 1) := by decide +kernel
theorem d_X6_ordered_81 : decode mX6_ordered.2.1 81 = .ok (.istore 5, 2) := by decide +kernel
theorem d_X6_ordered_83 : decode mX6_ordered.2.1 83 = .ok (.iload 5, 2) := by decide +kernel
theorem d_X6_ordered_85 : decode mX6_ordered.2.1 85 = .ok (.iload_n 2, 1) := by decide +kernel
theorem d_X6_ordered_86 : decode mX6_ordered.2.1 86 = .ok (.if_icmp .ge 29, 3) := by decide +kernel
theorem d_X6_ordered_89 : decode mX6_ordered.2.1 89 = .ok (.iload_n 3, 1) := by decide +kernel
theorem d_X6_ordered_90 : decode mX6_ordered.2.1 90 = .ok (.iconst 1, 1) := by decide +kernel
theorem d_X6_ordered_91 : decode mX6_ordered.2.1 91 = .ok (.iload 4, 2) := by decide +kernel
theorem d_X6_ordered_93 : decode mX6_ordered.2.1 93 = .ok (.ishl, 1) := by decide +kernel
theorem d_X6_ordered_94 : decode mX6_ordered.2.1 94 = .ok (.iconst (-1), 1) := by decide +kernel
theorem d_X6_ordered_95 : decode mX6_ordered.2.1 95 = .ok (.ixor, 1) := by decide +kernel
theorem d_X6_ordered_96 : decode mX6_ordered.2.1 96 = .ok (.iand, 1) := by decide +kernel
theorem d_X6_ordered_97 : decode mX6_ordered.2.1 97 = .ok (.istore_n 3, 1) := by decide +kernel
theorem d_X6_ordered_98 : decode mX6_ordered.2.1 98 = .ok (.aload_n 0, 1) := by decide +kernel
theorem d_X6_ordered_99 : decode mX6_ordered.2.1 99 = .ok (.getfield 10, 3) := by decide +kernel
theorem d_X6_ordered_102 : decode mX6_ordered.2.1 102 = .ok (.iload_n 1, 1) := by decide +kernel
theorem d_X6_ordered_103 : decode mX6_ordered.2.1 103 = .ok (.iload_n 3, 1) := by decide +kernel
theorem d_X6_ordered_104 : decode mX6_ordered.2.1 104 = .ok (.invokevirtual 178, 3) := by decide +kernel
theorem d_X6_ordered_107 : decode mX6_ordered.2.1 107 = .ok (.istore 4, 2) := by decide +kernel
theorem d_X6_ordered_109 : decode mX6_ordered.2.1 109 = .ok (.iinc 5 1, 3) := by decide +kernel
theorem d_X6_ordered_112 : decode mX6_ordered.2.1 112 = .ok (.goto (-29), 3) := by decide +kernel
theorem d_X6_ordered_115 : decode mX6_ordered.2.1 115 = .ok (.iload 4, 2) := by decide +kernel
theorem d_X6_ordered_117 : decode mX6_ordered.2.1 117 = .ok (.ireturn, 1) := by decide +kernel
def T_X6_ordered_83 (Q : Int32 → Mem → Prop) (X : String → Mem → Prop) : Nat → Nat → Int32 → Int32 → Int32 → Int32 → Int32 → Mem → Prop
  | 0, _, _, _, _, _, _, _ => False
  | n + 1, v0, v1, v2, v3, v4, v5, M => if v2 ≤ v5 then (Q v4 M) else (∀ x1 : Int32, x1 = v3 &&& ((1 <<< (v4 &&& 31)) ^^^ (-1)) → (kd v0 = 6) ∧ (kd (rf v0 0) = 3) ∧ T_X3_firstRoom (fun y5 M4 => ∀ x6 : Int32, x6 = v5 + 1 → (T_X6_ordered_83 Q X n) v0 v1 v2 x1 y5 x6 M4)  (rf v0 0) v1 x1 M)
set_option maxRecDepth 100000 in
set_option maxHeartbeats 4000000 in
theorem B_X6_ordered_83 {g : GG} (Q : Int32 → Mem → Prop) (X : String → Mem → Prop) : ∀ (n : Nat) (v0 : Nat) (v1 : Int32) (v2 : Int32) (v3 : Int32) (v4 : Int32) (v5 : Int32) (M : Mem), T_X6_ordered_83 Q X n v0 v1 v2 v3 v4 v5 M → WP g 11 mX6_ordered 83 [some (.ref (g.1 + v0)), some (.int v1), some (.int v2), some (.int v3), some (.int v4), some (.int v5)] [] M 1 (oI Q X) := by
  intro n
  induction n with
  | zero => intro v0 v1 v2 v3 v4 v5 M h; exact h.elim
  | succ n hκ83 =>
    intro v0 v1 v2 v3 v4 v5 M h
    unfold T_X6_ordered_83 at h
    refine R_iload (pc := 83) d_X6_ordered_83 rfl ?_
    refine R_iload_n (pc := 85) d_X6_ordered_85 rfl rfl ?_
    refine R_icmp_ge (pc := 86) (tgt := 115) d_X6_ordered_86 (by decide) (fun c => ?_) (fun c => ?_)
    · rw [if_pos c] at h
      refine R_iload (pc := 115) d_X6_ordered_115 rfl ?_
      exact R_retv (pc := 117) d_X6_ordered_117 h
    · rw [if_neg c] at h
      refine R_iload_n (pc := 89) d_X6_ordered_89 rfl rfl ?_
      refine R_iconst (pc := 90) (v := 1) d_X6_ordered_90 (by decide) ?_
      refine R_iload (pc := 91) d_X6_ordered_91 rfl ?_
      refine R_ishl (pc := 93) d_X6_ordered_93 ?_
      refine R_iconst (pc := 94) (v := (-1)) d_X6_ordered_94 (by decide) ?_
      refine R_ixor (pc := 95) d_X6_ordered_95 ?_
      refine R_iand (pc := 96) d_X6_ordered_96 ?_
      refine N_i (fun x1 ex1 => ?_)
      have h := h x1 ex1
      refine R_istore_n (pc := 97) (L' := [some (.ref (g.1 + v0)), some (.int v1), some (.int v2), some (.int x1), some (.int v4), some (.int v5)]) d_X6_ordered_97 rfl (by decide) rfl ?_
      refine R_aload_n (pc := 98) d_X6_ordered_98 rfl rfl ?_
      obtain ⟨k2, h⟩ := h
      refine R_getR (pc := 99) fld_RX6_10 rfl rfl k2 d_X6_ordered_99 ?_
      refine R_iload_n (pc := 102) d_X6_ordered_102 rfl rfl ?_
      refine R_iload_n (pc := 103) d_X6_ordered_103 rfl rfl ?_
      obtain ⟨k3, h⟩ := h
      refine R_callV (pc := 104) (As := [.int v1, .int x1]) (rest := []) (c_X3_firstRoom (g := g) (rf v0 0) v1 x1 M _ h) rfl rfl cal_RX6_178 ins_X3_firstRoom sel_X3_firstRoom (cls_at k3 clsOK3) (by decide) (by decide) rfl rfl (Nat.le_of_ble_eq_true rfl) d_X6_ordered_104 (k_I (fun y5 M4 h => ?_)) (fun _ _ h9 => False.elim h9)
      try dsimp only at h
      refine R_istore (pc := 107) (L' := [some (.ref (g.1 + v0)), some (.int v1), some (.int v2), some (.int x1), some (.int y5), some (.int v5)]) d_X6_ordered_107 (by decide) rfl ?_
      obtain ⟨x6, ex6⟩ : ∃ z : Int32, z = v5 + 1 := ⟨_, rfl⟩
      have h := h x6 ex6
      refine R_iinc (pc := 109) (v := x6) (L' := [some (.ref (g.1 + v0)), some (.int v1), some (.int v2), some (.int x1), some (.int y5), some (.int x6)]) d_X6_ordered_109 rfl (by rw [ex6]; rfl) (by decide) rfl ?_
      refine R_goto (pc := 112) (tgt := 83) d_X6_ordered_112 (by decide) ?_
      exact WP_sub (hκ83 v0 v1 v2 x1 y5 x6 M4 h) (by decide) (ls_s (ls_s (ls_s (ls_s (ls_s (ls_s ls_0))))))
def T_X6_ordered (Q : Int32 → Mem → Prop) (X : String → Mem → Prop) (v0 : Nat) (v1 : Int32) (v2 : Int32) (M : Mem) : Prop := (kd v0 = 6) ∧ (kd (rf v0 0) = 3) ∧ (kd (rf (rf v0 0) 2) = 4) ∧ T_X6_isBelow (fun y5 M4 => if y5 = 0 then (X "java/lang/IndexOutOfBoundsException" M4) else ((kd (rf (rf v0 0) 4) = 4) ∧ T_X6_isBelow (fun y8 M7 => if y8 = 0 then (X "java/util/NoSuchElementException" M7) else (∀ x9 : Int32, x9 = (1 <<< ((M7.1 (rf (rf v0 0) 4) 2) &&& 31)) - 1 → T_X3_firstRoom (fun y11 M10 => (∃ N : Nat, T_X6_ordered_83 Q X N v0 v1 v2 x9 y11 0 M10))  (rf v0 0) v1 x9 M7))  v2 (M4.1 (rf (rf v0 0) 4) 2) M4))  v1 (M.1 (rf (rf v0 0) 2) 2) M
set_option maxRecDepth 100000 in
set_option maxHeartbeats 4000000 in
theorem c_X6_ordered {g : GG} (v0 : Nat) (v1 : Int32) (v2 : Int32) (M : Mem) (Q : Int32 → Mem → Prop) (X : String → Mem → Prop) (h : T_X6_ordered Q X v0 v1 v2 M) : CT g 11 mX6_ordered [.ref (g.1 + v0), .int v1, .int v2] M 1 (oI Q X) := by
  refine CT_of (L := [some (.ref (g.1 + v0)), some (.int v1), some (.int v2), none, none, none]) (by decide) rfl (Nat.le_of_ble_eq_true rfl) (ro_I rfl) rfl ?_
  unfold T_X6_ordered at h
  refine R_iload_n (pc := 0) d_X6_ordered_0 rfl rfl ?_
  refine R_aload_n (pc := 1) d_X6_ordered_1 rfl rfl ?_
  obtain ⟨k1, h⟩ := h
  refine R_getR (pc := 2) fld_RX6_10 rfl rfl k1 d_X6_ordered_2 ?_
  obtain ⟨k2, h⟩ := h
  refine R_getR (pc := 5) fld_RX6_75 rfl rfl k2 d_X6_ordered_5 ?_
  obtain ⟨k3, h⟩ := h
  refine R_getI (pc := 8) fld_RX6_94 rfl rfl k3 d_X6_ordered_8 ?_
  refine R_callS (pc := 11) (As := [.int v1, .int (M.1 (rf (rf v0 0) 2) 2)]) (rest := []) (c_X6_isBelow (g := g) v1 (M.1 (rf (rf v0 0) 2) 2) M _ h) rfl rfl cal_RX6_64 sta_X6_isBelow (by decide) (by decide) rfl rfl (Nat.le_of_ble_eq_true rfl) d_X6_ordered_11 (k_Z (fun y5 M4 h => ?_)) (fun _ _ h9 => False.elim h9)
  try dsimp only at h
  refine R_if_ne (pc := 14) (tgt := 27) d_X6_ordered_14 (by decide) (fun c => ?_) (fun c => ?_)
  · rw [if_neg c] at h
    refine R_iload_n (pc := 27) d_X6_ordered_27 rfl rfl ?_
    refine R_aload_n (pc := 28) d_X6_ordered_28 rfl rfl ?_
    refine R_getR (pc := 29) fld_RX6_10 rfl rfl k1 d_X6_ordered_29 ?_
    refine R_getR (pc := 32) fld_RX6_107 rfl rfl k2 d_X6_ordered_32 ?_
    obtain ⟨k6, h⟩ := h
    refine R_getI (pc := 35) fld_RX6_94 rfl rfl k6 d_X6_ordered_35 ?_
    refine R_callS (pc := 38) (As := [.int v2, .int (M4.1 (rf (rf v0 0) 4) 2)]) (rest := []) (c_X6_isBelow (g := g) v2 (M4.1 (rf (rf v0 0) 4) 2) M4 _ h) rfl rfl cal_RX6_64 sta_X6_isBelow (by decide) (by decide) rfl rfl (Nat.le_of_ble_eq_true rfl) d_X6_ordered_38 (k_Z (fun y8 M7 h => ?_)) (fun _ _ h9 => False.elim h9)
    try dsimp only at h
    refine R_if_ne (pc := 41) (tgt := 54) d_X6_ordered_41 (by decide) (fun c => ?_) (fun c => ?_)
    · rw [if_neg c] at h
      refine R_iconst (pc := 54) (v := 1) d_X6_ordered_54 (by decide) ?_
      refine R_aload_n (pc := 55) d_X6_ordered_55 rfl rfl ?_
      refine R_getR (pc := 56) fld_RX6_10 rfl rfl k1 d_X6_ordered_56 ?_
      refine R_getR (pc := 59) fld_RX6_107 rfl rfl k2 d_X6_ordered_59 ?_
      refine R_getI (pc := 62) fld_RX6_94 rfl rfl k6 d_X6_ordered_62 ?_
      refine R_ishl (pc := 65) d_X6_ordered_65 ?_
      refine R_iconst (pc := 66) (v := 1) d_X6_ordered_66 (by decide) ?_
      refine R_isub (pc := 67) d_X6_ordered_67 ?_
      refine N_i (fun x9 ex9 => ?_)
      have h := h x9 ex9
      refine R_istore_n (pc := 68) (L' := [some (.ref (g.1 + v0)), some (.int v1), some (.int v2), some (.int x9), none, none]) d_X6_ordered_68 rfl (by decide) rfl ?_
      refine R_aload_n (pc := 69) d_X6_ordered_69 rfl rfl ?_
      refine R_getR (pc := 70) fld_RX6_10 rfl rfl k1 d_X6_ordered_70 ?_
      refine R_iload_n (pc := 73) d_X6_ordered_73 rfl rfl ?_
      refine R_iload_n (pc := 74) d_X6_ordered_74 rfl rfl ?_
      refine R_callV (pc := 75) (As := [.int v1, .int x9]) (rest := []) (c_X3_firstRoom (g := g) (rf v0 0) v1 x9 M7 _ h) rfl rfl cal_RX6_178 ins_X3_firstRoom sel_X3_firstRoom (cls_at k2 clsOK3) (by decide) (by decide) rfl rfl (Nat.le_of_ble_eq_true rfl) d_X6_ordered_75 (k_I (fun y11 M10 h => ?_)) (fun _ _ h9 => False.elim h9)
      try dsimp only at h
      refine R_istore (pc := 78) (L' := [some (.ref (g.1 + v0)), some (.int v1), some (.int v2), some (.int x9), some (.int y11), none]) d_X6_ordered_78 (by decide) rfl ?_
      refine R_iconst (pc := 80) (v := 0) d_X6_ordered_80 (by decide) ?_
      refine R_istore (pc := 81) (L' := [some (.ref (g.1 + v0)), some (.int v1), some (.int v2), some (.int x9), some (.int y11), some (.int 0)]) d_X6_ordered_81 (by decide) rfl ?_
      obtain ⟨N, h⟩ := h
      exact WP_sub (B_X6_ordered_83 Q X N v0 v1 v2 x9 y11 0 M10 h) (by decide) (ls_s (ls_s (ls_s (ls_s (ls_s (ls_s ls_0))))))
    · rw [if_pos c] at h
      exact vz_throw (pc := 44) (Or.inl ⟨rfl, rfl⟩) rfl rfl thn_RX6_173_175_177 (by decide) (by decide) (Nat.le_of_ble_eq_true rfl) d_X6_ordered_44 d_X6_ordered_47 d_X6_ordered_48 d_X6_ordered_50 d_X6_ordered_53 h
  · rw [if_pos c] at h
    exact R_throw rfl rfl thr_RX6_112_124_116 (by decide) (by decide) (Nat.le_of_ble_eq_true rfl) d_X6_ordered_17 d_X6_ordered_20 d_X6_ordered_21 d_X6_ordered_23 d_X6_ordered_26 h
