/-! X7_addVisitor -/
theorem d_X7_addVisitor_0 : decode mX7_addVisitor.2.1 0 = .ok (.aload_n 0, 1) := by decide +kernel
theorem d_X7_addVisitor_1 : decode mX7_addVisitor.2.1 1 = .ok (.iconst 0, 1) := by decide +kernel
theorem d_X7_addVisitor_2 : decode mX7_addVisitor.2.1 2 = .ok (.putfield 37, 3) := by decide +kernel
theorem d_X7_addVisitor_5 : decode mX7_addVisitor.2.1 5 = .ok (.aload_n 0, 1) := by decide +kernel
theorem d_X7_addVisitor_6 : decode mX7_addVisitor.2.1 6 = .ok (.invokevirtual 160, 3) := by decide +kernel
theorem d_X7_addVisitor_9 : decode mX7_addVisitor.2.1 9 = .ok (.iload_n 1, 1) := by decide +kernel
theorem d_X7_addVisitor_10 : decode mX7_addVisitor.2.1 10 = .ok (.iconst 0, 1) := by decide +kernel
theorem d_X7_addVisitor_11 : decode mX7_addVisitor.2.1 11 = .ok (.iconst 2, 1) := by decide +kernel
theorem d_X7_addVisitor_12 : decode mX7_addVisitor.2.1 12 = .ok (.invokestatic 41, 3) := by decide +kernel
theorem d_X7_addVisitor_15 : decode mX7_addVisitor.2.1 15 = .ok (.ifCond .ne 9, 3) := by decide +kernel
theorem d_X7_addVisitor_18 : decode mX7_addVisitor.2.1 18 = .ok (.aload_n 0, 1) := by decide +kernel
theorem d_X7_addVisitor_19 : decode mX7_addVisitor.2.1 19 = .ok (.iconst 1, 1) := by decide +kernel
theorem d_X7_addVisitor_20 : decode mX7_addVisitor.2.1 20 = .ok (.invokevirtual 163, 3) := by decide +kernel
theorem d_X7_addVisitor_23 : decode mX7_addVisitor.2.1 23 = .ok (.ireturn, 1) := by decide +kernel
theorem d_X7_addVisitor_24 : decode mX7_addVisitor.2.1 24 = .ok (.aload_n 0, 1) := by decide +kernel
theorem d_X7_addVisitor_25 : decode mX7_addVisitor.2.1 25 = .ok (.getfield 7, 3) := by decide +kernel
theorem d_X7_addVisitor_28 : decode mX7_addVisitor.2.1 28 = .ok (.iconst 2, 1) := by decide +kernel
theorem d_X7_addVisitor_29 : decode mX7_addVisitor.2.1 29 = .ok (.iaload, 1) := by decide +kernel
theorem d_X7_addVisitor_30 : decode mX7_addVisitor.2.1 30 = .ok (.bipush 12, 2) := by decide +kernel
theorem d_X7_addVisitor_32 : decode mX7_addVisitor.2.1 32 = .ok (.if_icmp .ne 9, 3) := by decide +kernel
theorem d_X7_addVisitor_35 : decode mX7_addVisitor.2.1 35 = .ok (.aload_n 0, 1) := by decide +kernel
theorem d_X7_addVisitor_36 : decode mX7_addVisitor.2.1 36 = .ok (.iconst 2, 1) := by decide +kernel
theorem d_X7_addVisitor_37 : decode mX7_addVisitor.2.1 37 = .ok (.invokevirtual 163, 3) := by decide +kernel
theorem d_X7_addVisitor_40 : decode mX7_addVisitor.2.1 40 = .ok (.ireturn, 1) := by decide +kernel
theorem d_X7_addVisitor_41 : decode mX7_addVisitor.2.1 41 = .ok (.aload_n 0, 1) := by decide +kernel
theorem d_X7_addVisitor_42 : decode mX7_addVisitor.2.1 42 = .ok (.getfield 7, 3) := by decide +kernel
theorem d_X7_addVisitor_45 : decode mX7_addVisitor.2.1 45 = .ok (.bipush 42, 2) := by decide +kernel
theorem d_X7_addVisitor_47 : decode mX7_addVisitor.2.1 47 = .ok (.aload_n 0, 1) := by decide +kernel
theorem d_X7_addVisitor_48 : decode mX7_addVisitor.2.1 48 = .ok (.getfield 7, 3) := by decide +kernel
theorem d_X7_addVisitor_51 : decode mX7_addVisitor.2.1 51 = .ok (.iconst 2, 1) := by decide +kernel
theorem d_X7_addVisitor_52 : decode mX7_addVisitor.2.1 52 = .ok (.iaload, 1) := by decide +kernel
theorem d_X7_addVisitor_53 : decode mX7_addVisitor.2.1 53 = .ok (.iadd, 1) := by decide +kernel
theorem d_X7_addVisitor_54 : decode mX7_addVisitor.2.1 54 = .ok (.iload_n 1, 1) := by decide +kernel
theorem d_X7_addVisitor_55 : decode mX7_addVisitor.2.1 55 = .ok (.iastore, 1) := by decide +kernel
theorem d_X7_addVisitor_56 : decode mX7_addVisitor.2.1 56 = .ok (.aload_n 0, 1) := by decide +kernel
theorem d_X7_addVisitor_57 : decode mX7_addVisitor.2.1 57 = .ok (.getfield 7, 3) := by decide +kernel
theorem d_X7_addVisitor_60 : decode mX7_addVisitor.2.1 60 = .ok (.iconst 2, 1) := by decide +kernel
theorem d_X7_addVisitor_61 : decode mX7_addVisitor.2.1 61 = .ok (.dup2, 1) := by decide +kernel
theorem d_X7_addVisitor_62 : decode mX7_addVisitor.2.1 62 = .ok (.iaload, 1) := by decide +kernel
theorem d_X7_addVisitor_63 : decode mX7_addVisitor.2.1 63 = .ok (.iconst 1, 1) := by decide +kernel
theorem d_X7_addVisitor_64 : decode mX7_addVisitor.2.1 64 = .ok (.iadd, 1) := by decide +kernel
theorem d_X7_addVisitor_65 : decode mX7_addVisitor.2.1 65 = .ok (.iastore, 1) := by decide +kernel
theorem d_X7_addVisitor_66 : decode mX7_addVisitor.2.1 66 = .ok (.aload_n 0, 1) := by decide +kernel
theorem d_X7_addVisitor_67 : decode mX7_addVisitor.2.1 67 = .ok (.invokevirtual 166, 3) := by decide +kernel
theorem d_X7_addVisitor_70 : decode mX7_addVisitor.2.1 70 = .ok (.aload_n 0, 1) := by decide +kernel
theorem d_X7_addVisitor_71 : decode mX7_addVisitor.2.1 71 = .ok (.getfield 7, 3) := by decide +kernel
theorem d_X7_addVisitor_74 : decode mX7_addVisitor.2.1 74 = .ok (.iconst 2, 1) := by decide +kernel
theorem d_X7_addVisitor_75 : decode mX7_addVisitor.2.1 75 = .ok (.iaload, 1) := by decide +kernel
theorem d_X7_addVisitor_76 : decode mX7_addVisitor.2.1 76 = .ok (.iconst 1, 1) := by decide +kernel
theorem d_X7_addVisitor_77 : decode mX7_addVisitor.2.1 77 = .ok (.isub, 1) := by decide +kernel
theorem d_X7_addVisitor_78 : decode mX7_addVisitor.2.1 78 = .ok (.ireturn, 1) := by decide +kernel
def T_X7_addVisitor (Q : Int32 → Mem → Prop) (v0 : Nat) (v1 : Int32) (M : Mem) : Prop := (kd v0 = 7) ∧ ∀ M2 : Mem, M2 = mset M v0 0 0 → T_X7_remembers (fun M3 => T_X7_in (fun y5 M4 => if y5 = 0 then (T_X7_fails (fun y15 M14 => Q y15 M14)  v0 1 M4) else ((kd (rf v0 1) = 9) ∧ (vp_in 2 (ln (rf v0 1))) ∧ if (M4.1 (rf v0 1) (Int32.toNatClampNeg 2)) = (12 : Int32) then (T_X7_fails (fun y13 M12 => Q y13 M12)  v0 2 M4) else ((vp_in (42 + (M4.1 (rf v0 1) (Int32.toNatClampNeg 2))) (ln (rf v0 1))) ∧ ∀ M9 : Mem, M9 = mset M4 (rf v0 1) (Int32.toNatClampNeg (42 + (M4.1 (rf v0 1) (Int32.toNatClampNeg 2)))) v1 → ∀ M10 : Mem, M10 = mset M9 (rf v0 1) (Int32.toNatClampNeg 2) ((M9.1 (rf v0 1) (Int32.toNatClampNeg 2)) + 1) → T_X7_keeps (fun M11 => Q ((M11.1 (rf v0 1) (Int32.toNatClampNeg 2)) - 1) M11)  v0 M10)))  v1 0 2 M3)  v0 M2
set_option maxRecDepth 100000 in
set_option maxHeartbeats 4000000 in
theorem c_X7_addVisitor {g : GG} (v0 : Nat) (v1 : Int32) (M : Mem) (Q : Int32 → Mem → Prop) (h : T_X7_addVisitor Q v0 v1 M) : CT g 10 mX7_addVisitor [.ref (g.1 + v0), .int v1] M 0 (oI Q noX) := by
  refine CT_of (L := [some (.ref (g.1 + v0)), some (.int v1)]) (by decide) rfl (Nat.le_of_ble_eq_true rfl) (ro_I rfl) rfl ?_
  unfold T_X7_addVisitor at h
  refine R_aload_n (pc := 0) d_X7_addVisitor_0 rfl rfl ?_
  refine R_iconst (pc := 1) (v := 0) d_X7_addVisitor_1 (by decide) ?_
  obtain ⟨k1, h⟩ := h
  refine R_putI (pc := 2) fld_RX7_37 rfl rfl rfl k1 rfl rfl d_X7_addVisitor_2 (N_M (fun M2 eM2 => ?_))
  have h := h M2 eM2
  refine R_aload_n (pc := 5) d_X7_addVisitor_5 rfl rfl ?_
  refine R_callV (pc := 6) (As := []) (rest := []) (c_X7_remembers (g := g) v0 M2 _ h) rfl rfl cal_RX7_160 ins_X7_remembers sel_X7_remembers (cls_at k1 clsOK7) (by decide) (by decide) rfl rfl (Nat.le_of_ble_eq_true rfl) d_X7_addVisitor_6 (k_V (fun M3 h => ?_)) (fun _ _ h9 => False.elim h9)
  try dsimp only at h
  refine R_iload_n (pc := 9) d_X7_addVisitor_9 rfl rfl ?_
  refine R_iconst (pc := 10) (v := 0) d_X7_addVisitor_10 (by decide) ?_
  refine R_iconst (pc := 11) (v := 2) d_X7_addVisitor_11 (by decide) ?_
  refine R_callS (pc := 12) (As := [.int v1, .int 0, .int 2]) (rest := []) (c_X7_in (g := g) v1 0 2 M3 _ h) rfl rfl cal_RX7_41 sta_X7_in (by decide) (by decide) rfl rfl (Nat.le_of_ble_eq_true rfl) d_X7_addVisitor_12 (k_Z (fun y5 M4 h => ?_)) (fun _ _ h9 => False.elim h9)
  try dsimp only at h
  refine R_if_ne (pc := 15) (tgt := 24) d_X7_addVisitor_15 (by decide) (fun c => ?_) (fun c => ?_)
  · rw [if_neg c] at h
    refine R_aload_n (pc := 24) d_X7_addVisitor_24 rfl rfl ?_
    refine R_getR (pc := 25) fld_RX7_7 rfl rfl k1 d_X7_addVisitor_25 ?_
    refine R_iconst (pc := 28) (v := 2) d_X7_addVisitor_28 (by decide) ?_
    obtain ⟨k6, h⟩ := h
    obtain ⟨k7, h⟩ := h
    refine R_iald (pc := 29) k6 k7 d_X7_addVisitor_29 ?_
    refine R_bipush (pc := 30) (v := 12) d_X7_addVisitor_30 (by decide) ?_
    refine R_icmp_ne (pc := 32) (tgt := 41) d_X7_addVisitor_32 (by decide) (fun c => ?_) (fun c => ?_)
    · rw [if_neg c] at h
      refine R_aload_n (pc := 41) d_X7_addVisitor_41 rfl rfl ?_
      refine R_getR (pc := 42) fld_RX7_7 rfl rfl k1 d_X7_addVisitor_42 ?_
      refine R_bipush (pc := 45) (v := 42) d_X7_addVisitor_45 (by decide) ?_
      refine R_aload_n (pc := 47) d_X7_addVisitor_47 rfl rfl ?_
      refine R_getR (pc := 48) fld_RX7_7 rfl rfl k1 d_X7_addVisitor_48 ?_
      refine R_iconst (pc := 51) (v := 2) d_X7_addVisitor_51 (by decide) ?_
      refine R_iald (pc := 52) k6 k7 d_X7_addVisitor_52 ?_
      refine R_iadd (pc := 53) d_X7_addVisitor_53 ?_
      refine R_iload_n (pc := 54) d_X7_addVisitor_54 rfl rfl ?_
      obtain ⟨k8, h⟩ := h
      refine R_iast (pc := 55) k6 k8 d_X7_addVisitor_55 (N_M (fun M9 eM9 => ?_))
      have h := h M9 eM9
      refine R_aload_n (pc := 56) d_X7_addVisitor_56 rfl rfl ?_
      refine R_getR (pc := 57) fld_RX7_7 rfl rfl k1 d_X7_addVisitor_57 ?_
      refine R_iconst (pc := 60) (v := 2) d_X7_addVisitor_60 (by decide) ?_
      refine R_dup2 (pc := 61) d_X7_addVisitor_61 rfl rfl ?_
      refine R_iald (pc := 62) k6 k7 d_X7_addVisitor_62 ?_
      refine R_iconst (pc := 63) (v := 1) d_X7_addVisitor_63 (by decide) ?_
      refine R_iadd (pc := 64) d_X7_addVisitor_64 ?_
      refine R_iast (pc := 65) k6 k7 d_X7_addVisitor_65 (N_M (fun M10 eM10 => ?_))
      have h := h M10 eM10
      refine R_aload_n (pc := 66) d_X7_addVisitor_66 rfl rfl ?_
      refine R_callV (pc := 67) (As := []) (rest := []) (c_X7_keeps (g := g) v0 M10 _ h) rfl rfl cal_RX7_166 ins_X7_keeps sel_X7_keeps (cls_at k1 clsOK7) (by decide) (by decide) rfl rfl (Nat.le_of_ble_eq_true rfl) d_X7_addVisitor_67 (k_V (fun M11 h => ?_)) (fun _ _ h9 => False.elim h9)
      try dsimp only at h
      refine R_aload_n (pc := 70) d_X7_addVisitor_70 rfl rfl ?_
      refine R_getR (pc := 71) fld_RX7_7 rfl rfl k1 d_X7_addVisitor_71 ?_
      refine R_iconst (pc := 74) (v := 2) d_X7_addVisitor_74 (by decide) ?_
      refine R_iald (pc := 75) k6 k7 d_X7_addVisitor_75 ?_
      refine R_iconst (pc := 76) (v := 1) d_X7_addVisitor_76 (by decide) ?_
      refine R_isub (pc := 77) d_X7_addVisitor_77 ?_
      exact R_retv (pc := 78) d_X7_addVisitor_78 h
    · rw [if_pos c] at h
      refine R_aload_n (pc := 35) d_X7_addVisitor_35 rfl rfl ?_
      refine R_iconst (pc := 36) (v := 2) d_X7_addVisitor_36 (by decide) ?_
      refine R_callV (pc := 37) (As := [.int 2]) (rest := []) (c_X7_fails (g := g) v0 2 M4 _ h) rfl rfl cal_RX7_163 ins_X7_fails sel_X7_fails (cls_at k1 clsOK7) (by decide) (by decide) rfl rfl (Nat.le_of_ble_eq_true rfl) d_X7_addVisitor_37 (k_I (fun y13 M12 h => ?_)) (fun _ _ h9 => False.elim h9)
      try dsimp only at h
      exact R_retv (pc := 40) d_X7_addVisitor_40 h
  · rw [if_pos c] at h
    refine R_aload_n (pc := 18) d_X7_addVisitor_18 rfl rfl ?_
    refine R_iconst (pc := 19) (v := 1) d_X7_addVisitor_19 (by decide) ?_
    refine R_callV (pc := 20) (As := [.int 1]) (rest := []) (c_X7_fails (g := g) v0 1 M4 _ h) rfl rfl cal_RX7_163 ins_X7_fails sel_X7_fails (cls_at k1 clsOK7) (by decide) (by decide) rfl rfl (Nat.le_of_ble_eq_true rfl) d_X7_addVisitor_20 (k_I (fun y15 M14 h => ?_)) (fun _ _ h9 => False.elim h9)
    try dsimp only at h
    exact R_retv (pc := 23) d_X7_addVisitor_23 h
/-! X7_addRoom -/
theorem d_X7_addRoom_0 : decode mX7_addRoom.2.1 0 = .ok (.aload_n 0, 1) := by decide +kernel
theorem d_X7_addRoom_1 : decode mX7_addRoom.2.1 1 = .ok (.iconst 0, 1) := by decide +kernel
theorem d_X7_addRoom_2 : decode mX7_addRoom.2.1 2 = .ok (.putfield 37, 3) := by decide +kernel
theorem d_X7_addRoom_5 : decode mX7_addRoom.2.1 5 = .ok (.aload_n 0, 1) := by decide +kernel
theorem d_X7_addRoom_6 : decode mX7_addRoom.2.1 6 = .ok (.invokevirtual 160, 3) := by decide +kernel
theorem d_X7_addRoom_9 : decode mX7_addRoom.2.1 9 = .ok (.iload_n 1, 1) := by decide +kernel
theorem d_X7_addRoom_10 : decode mX7_addRoom.2.1 10 = .ok (.iconst 0, 1) := by decide +kernel
theorem d_X7_addRoom_11 : decode mX7_addRoom.2.1 11 = .ok (.iconst 3, 1) := by decide +kernel
theorem d_X7_addRoom_12 : decode mX7_addRoom.2.1 12 = .ok (.invokestatic 41, 3) := by decide +kernel
theorem d_X7_addRoom_15 : decode mX7_addRoom.2.1 15 = .ok (.ifCond .eq 12, 3) := by decide +kernel
theorem d_X7_addRoom_18 : decode mX7_addRoom.2.1 18 = .ok (.iload_n 2, 1) := by decide +kernel
theorem d_X7_addRoom_19 : decode mX7_addRoom.2.1 19 = .ok (.iconst 1, 1) := by decide +kernel
theorem d_X7_addRoom_20 : decode mX7_addRoom.2.1 20 = .ok (.iconst 3, 1) := by decide +kernel
theorem d_X7_addRoom_21 : decode mX7_addRoom.2.1 21 = .ok (.invokestatic 41, 3) := by decide +kernel
theorem d_X7_addRoom_24 : decode mX7_addRoom.2.1 24 = .ok (.ifCond .ne 9, 3) := by decide +kernel
theorem d_X7_addRoom_27 : decode mX7_addRoom.2.1 27 = .ok (.aload_n 0, 1) := by decide +kernel
theorem d_X7_addRoom_28 : decode mX7_addRoom.2.1 28 = .ok (.iconst 1, 1) := by decide +kernel
theorem d_X7_addRoom_29 : decode mX7_addRoom.2.1 29 = .ok (.invokevirtual 163, 3) := by decide +kernel
theorem d_X7_addRoom_32 : decode mX7_addRoom.2.1 32 = .ok (.ireturn, 1) := by decide +kernel
theorem d_X7_addRoom_33 : decode mX7_addRoom.2.1 33 = .ok (.aload_n 0, 1) := by decide +kernel
theorem d_X7_addRoom_34 : decode mX7_addRoom.2.1 34 = .ok (.getfield 7, 3) := by decide +kernel
theorem d_X7_addRoom_37 : decode mX7_addRoom.2.1 37 = .ok (.iconst 3, 1) := by decide +kernel
theorem d_X7_addRoom_38 : decode mX7_addRoom.2.1 38 = .ok (.iaload, 1) := by decide +kernel
theorem d_X7_addRoom_39 : decode mX7_addRoom.2.1 39 = .ok (.bipush 6, 2) := by decide +kernel
theorem d_X7_addRoom_41 : decode mX7_addRoom.2.1 41 = .ok (.if_icmp .ne 9, 3) := by decide +kernel
theorem d_X7_addRoom_44 : decode mX7_addRoom.2.1 44 = .ok (.aload_n 0, 1) := by decide +kernel
theorem d_X7_addRoom_45 : decode mX7_addRoom.2.1 45 = .ok (.iconst 2, 1) := by decide +kernel
theorem d_X7_addRoom_46 : decode mX7_addRoom.2.1 46 = .ok (.invokevirtual 163, 3) := by decide +kernel
theorem d_X7_addRoom_49 : decode mX7_addRoom.2.1 49 = .ok (.ireturn, 1) := by decide +kernel
theorem d_X7_addRoom_50 : decode mX7_addRoom.2.1 50 = .ok (.aload_n 0, 1) := by decide +kernel
theorem d_X7_addRoom_51 : decode mX7_addRoom.2.1 51 = .ok (.getfield 7, 3) := by decide +kernel
theorem d_X7_addRoom_54 : decode mX7_addRoom.2.1 54 = .ok (.bipush 54, 2) := by decide +kernel
theorem d_X7_addRoom_56 : decode mX7_addRoom.2.1 56 = .ok (.aload_n 0, 1) := by decide +kernel
theorem d_X7_addRoom_57 : decode mX7_addRoom.2.1 57 = .ok (.getfield 7, 3) := by decide +kernel
theorem d_X7_addRoom_60 : decode mX7_addRoom.2.1 60 = .ok (.iconst 3, 1) := by decide +kernel
theorem d_X7_addRoom_61 : decode mX7_addRoom.2.1 61 = .ok (.iaload, 1) := by decide +kernel
theorem d_X7_addRoom_62 : decode mX7_addRoom.2.1 62 = .ok (.iadd, 1) := by decide +kernel
theorem d_X7_addRoom_63 : decode mX7_addRoom.2.1 63 = .ok (.iload_n 1, 1) := by decide +kernel
theorem d_X7_addRoom_64 : decode mX7_addRoom.2.1 64 = .ok (.iastore, 1) := by decide +kernel
theorem d_X7_addRoom_65 : decode mX7_addRoom.2.1 65 = .ok (.aload_n 0, 1) := by decide +kernel
theorem d_X7_addRoom_66 : decode mX7_addRoom.2.1 66 = .ok (.getfield 7, 3) := by decide +kernel
theorem d_X7_addRoom_69 : decode mX7_addRoom.2.1 69 = .ok (.bipush 60, 2) := by decide +kernel
theorem d_X7_addRoom_71 : decode mX7_addRoom.2.1 71 = .ok (.aload_n 0, 1) := by decide +kernel
theorem d_X7_addRoom_72 : decode mX7_addRoom.2.1 72 = .ok (.getfield 7, 3) := by decide +kernel
theorem d_X7_addRoom_75 : decode mX7_addRoom.2.1 75 = .ok (.iconst 3, 1) := by decide +kernel
theorem d_X7_addRoom_76 : decode mX7_addRoom.2.1 76 = .ok (.iaload, 1) := by decide +kernel
theorem d_X7_addRoom_77 : decode mX7_addRoom.2.1 77 = .ok (.iadd, 1) := by decide +kernel
theorem d_X7_addRoom_78 : decode mX7_addRoom.2.1 78 = .ok (.iload_n 2, 1) := by decide +kernel
theorem d_X7_addRoom_79 : decode mX7_addRoom.2.1 79 = .ok (.iastore, 1) := by decide +kernel
theorem d_X7_addRoom_80 : decode mX7_addRoom.2.1 80 = .ok (.aload_n 0, 1) := by decide +kernel
theorem d_X7_addRoom_81 : decode mX7_addRoom.2.1 81 = .ok (.getfield 7, 3) := by decide +kernel
theorem d_X7_addRoom_84 : decode mX7_addRoom.2.1 84 = .ok (.bipush 66, 2) := by decide +kernel
theorem d_X7_addRoom_86 : decode mX7_addRoom.2.1 86 = .ok (.aload_n 0, 1) := by decide +kernel
theorem d_X7_addRoom_87 : decode mX7_addRoom.2.1 87 = .ok (.getfield 7, 3) := by decide +kernel
theorem d_X7_addRoom_90 : decode mX7_addRoom.2.1 90 = .ok (.iconst 3, 1) := by decide +kernel
theorem d_X7_addRoom_91 : decode mX7_addRoom.2.1 91 = .ok (.iaload, 1) := by decide +kernel
theorem d_X7_addRoom_92 : decode mX7_addRoom.2.1 92 = .ok (.iadd, 1) := by decide +kernel
theorem d_X7_addRoom_93 : decode mX7_addRoom.2.1 93 = .ok (.iload_n 3, 1) := by decide +kernel
theorem d_X7_addRoom_94 : decode mX7_addRoom.2.1 94 = .ok (.ifCond .eq 7, 3) := by decide +kernel
theorem d_X7_addRoom_97 : decode mX7_addRoom.2.1 97 = .ok (.iconst 1, 1) := by decide +kernel
theorem d_X7_addRoom_98 : decode mX7_addRoom.2.1 98 = .ok (.goto 4, 3) := by decide +kernel
theorem d_X7_addRoom_101 : decode mX7_addRoom.2.1 101 = .ok (.iconst 0, 1) := by decide +kernel
theorem d_X7_addRoom_102 : decode mX7_addRoom.2.1 102 = .ok (.iastore, 1) := by decide +kernel
theorem d_X7_addRoom_103 : decode mX7_addRoom.2.1 103 = .ok (.aload_n 0, 1) := by decide +kernel
theorem d_X7_addRoom_104 : decode mX7_addRoom.2.1 104 = .ok (.getfield 7, 3) := by decide +kernel
theorem d_X7_addRoom_107 : decode mX7_addRoom.2.1 107 = .ok (.bipush 72, 2) := by decide +kernel
theorem d_X7_addRoom_109 : decode mX7_addRoom.2.1 109 = .ok (.aload_n 0, 1) := by decide +kernel
theorem d_X7_addRoom_110 : decode mX7_addRoom.2.1 110 = .ok (.getfield 7, 3) := by decide +kernel
theorem d_X7_addRoom_113 : decode mX7_addRoom.2.1 113 = .ok (.iconst 3, 1) := by decide +kernel
theorem d_X7_addRoom_114 : decode mX7_addRoom.2.1 114 = .ok (.iaload, 1) := by decide +kernel
theorem d_X7_addRoom_115 : decode mX7_addRoom.2.1 115 = .ok (.iadd, 1) := by decide +kernel
theorem d_X7_addRoom_116 : decode mX7_addRoom.2.1 116 = .ok (.iconst 1, 1) := by decide +kernel
theorem d_X7_addRoom_117 : decode mX7_addRoom.2.1 117 = .ok (.iastore, 1) := by decide +kernel
theorem d_X7_addRoom_118 : decode mX7_addRoom.2.1 118 = .ok (.aload_n 0, 1) := by decide +kernel
theorem d_X7_addRoom_119 : decode mX7_addRoom.2.1 119 = .ok (.getfield 7, 3) := by decide +kernel
theorem d_X7_addRoom_122 : decode mX7_addRoom.2.1 122 = .ok (.iconst 3, 1) := by decide +kernel
theorem d_X7_addRoom_123 : decode mX7_addRoom.2.1 123 = .ok (.dup2, 1) := by decide +kernel
theorem d_X7_addRoom_124 : decode mX7_addRoom.2.1 124 = .ok (.iaload, 1) := by decide +kernel
theorem d_X7_addRoom_125 : decode mX7_addRoom.2.1 125 = .ok (.iconst 1, 1) := by decide +kernel
theorem d_X7_addRoom_126 : decode mX7_addRoom.2.1 126 = .ok (.iadd, 1) := by decide +kernel
theorem d_X7_addRoom_127 : decode mX7_addRoom.2.1 127 = .ok (.iastore, 1) := by decide +kernel
theorem d_X7_addRoom_128 : decode mX7_addRoom.2.1 128 = .ok (.aload_n 0, 1) := by decide +kernel
theorem d_X7_addRoom_129 : decode mX7_addRoom.2.1 129 = .ok (.invokevirtual 166, 3) := by decide +kernel
theorem d_X7_addRoom_132 : decode mX7_addRoom.2.1 132 = .ok (.aload_n 0, 1) := by decide +kernel
theorem d_X7_addRoom_133 : decode mX7_addRoom.2.1 133 = .ok (.getfield 7, 3) := by decide +kernel
theorem d_X7_addRoom_136 : decode mX7_addRoom.2.1 136 = .ok (.iconst 3, 1) := by decide +kernel
theorem d_X7_addRoom_137 : decode mX7_addRoom.2.1 137 = .ok (.iaload, 1) := by decide +kernel
theorem d_X7_addRoom_138 : decode mX7_addRoom.2.1 138 = .ok (.iconst 1, 1) := by decide +kernel
theorem d_X7_addRoom_139 : decode mX7_addRoom.2.1 139 = .ok (.isub, 1) := by decide +kernel
theorem d_X7_addRoom_140 : decode mX7_addRoom.2.1 140 = .ok (.ireturn, 1) := by decide +kernel
def T_X7_addRoom_102 (Q : Int32 → Mem → Prop) (v0 : Nat) (s0 : Int32) (s1 : Int32) (s2 : Nat) (M : Mem) : Prop := (kd s2 = 9) ∧ (vp_in s1 (ln s2)) ∧ ∀ M3 : Mem, M3 = mset M s2 (Int32.toNatClampNeg s1) s0 → (kd v0 = 7) ∧ (kd (rf v0 1) = 9) ∧ (vp_in 3 (ln (rf v0 1))) ∧ (vp_in (72 + (M3.1 (rf v0 1) (Int32.toNatClampNeg 3))) (ln (rf v0 1))) ∧ ∀ M8 : Mem, M8 = mset M3 (rf v0 1) (Int32.toNatClampNeg (72 + (M3.1 (rf v0 1) (Int32.toNatClampNeg 3)))) 1 → ∀ M9 : Mem, M9 = mset M8 (rf v0 1) (Int32.toNatClampNeg 3) ((M8.1 (rf v0 1) (Int32.toNatClampNeg 3)) + 1) → T_X7_keeps (fun M10 => Q ((M10.1 (rf v0 1) (Int32.toNatClampNeg 3)) - 1) M10)  v0 M9
set_option maxRecDepth 100000 in
set_option maxHeartbeats 4000000 in
theorem B_X7_addRoom_102 {g : GG} (Q : Int32 → Mem → Prop) (v0 : Nat) (s0 : Int32) (s1 : Int32) (s2 : Nat) (M : Mem) (h : T_X7_addRoom_102 Q v0 s0 s1 s2 M) : WP g 10 mX7_addRoom 102 [some (.ref (g.1 + v0)), none, none, none] [.int s0, .int s1, .ref (g.1 + s2)] M 0 (oI Q noX) := by
  unfold T_X7_addRoom_102 at h
  obtain ⟨k1, h⟩ := h
  obtain ⟨k2, h⟩ := h
  refine R_iast (pc := 102) k1 k2 d_X7_addRoom_102 (N_M (fun M3 eM3 => ?_))
  have h := h M3 eM3
  refine R_aload_n (pc := 103) d_X7_addRoom_103 rfl rfl ?_
  obtain ⟨k4, h⟩ := h
  refine R_getR (pc := 104) fld_RX7_7 rfl rfl k4 d_X7_addRoom_104 ?_
  refine R_bipush (pc := 107) (v := 72) d_X7_addRoom_107 (by decide) ?_
  refine R_aload_n (pc := 109) d_X7_addRoom_109 rfl rfl ?_
  refine R_getR (pc := 110) fld_RX7_7 rfl rfl k4 d_X7_addRoom_110 ?_
  refine R_iconst (pc := 113) (v := 3) d_X7_addRoom_113 (by decide) ?_
  obtain ⟨k5, h⟩ := h
  obtain ⟨k6, h⟩ := h
  refine R_iald (pc := 114) k5 k6 d_X7_addRoom_114 ?_
  refine R_iadd (pc := 115) d_X7_addRoom_115 ?_
  refine R_iconst (pc := 116) (v := 1) d_X7_addRoom_116 (by decide) ?_
  obtain ⟨k7, h⟩ := h
  refine R_iast (pc := 117) k5 k7 d_X7_addRoom_117 (N_M (fun M8 eM8 => ?_))
  have h := h M8 eM8
  refine R_aload_n (pc := 118) d_X7_addRoom_118 rfl rfl ?_
  refine R_getR (pc := 119) fld_RX7_7 rfl rfl k4 d_X7_addRoom_119 ?_
  refine R_iconst (pc := 122) (v := 3) d_X7_addRoom_122 (by decide) ?_
  refine R_dup2 (pc := 123) d_X7_addRoom_123 rfl rfl ?_
  refine R_iald (pc := 124) k5 k6 d_X7_addRoom_124 ?_
  refine R_iconst (pc := 125) (v := 1) d_X7_addRoom_125 (by decide) ?_
  refine R_iadd (pc := 126) d_X7_addRoom_126 ?_
  refine R_iast (pc := 127) k5 k6 d_X7_addRoom_127 (N_M (fun M9 eM9 => ?_))
  have h := h M9 eM9
  refine R_aload_n (pc := 128) d_X7_addRoom_128 rfl rfl ?_
  refine R_callV (pc := 129) (As := []) (rest := []) (c_X7_keeps (g := g) v0 M9 _ h) rfl rfl cal_RX7_166 ins_X7_keeps sel_X7_keeps (cls_at k4 clsOK7) (by decide) (by decide) rfl rfl (Nat.le_of_ble_eq_true rfl) d_X7_addRoom_129 (k_V (fun M10 h => ?_)) (fun _ _ h9 => False.elim h9)
  try dsimp only at h
  refine R_aload_n (pc := 132) d_X7_addRoom_132 rfl rfl ?_
  refine R_getR (pc := 133) fld_RX7_7 rfl rfl k4 d_X7_addRoom_133 ?_
  refine R_iconst (pc := 136) (v := 3) d_X7_addRoom_136 (by decide) ?_
  refine R_iald (pc := 137) k5 k6 d_X7_addRoom_137 ?_
  refine R_iconst (pc := 138) (v := 1) d_X7_addRoom_138 (by decide) ?_
  refine R_isub (pc := 139) d_X7_addRoom_139 ?_
  exact R_retv (pc := 140) d_X7_addRoom_140 h
def T_X7_addRoom_27 (Q : Int32 → Mem → Prop) (v0 : Nat) (M : Mem) : Prop := (kd v0 = 7) ∧ T_X7_fails (fun y3 M2 => Q y3 M2)  v0 1 M
set_option maxRecDepth 100000 in
set_option maxHeartbeats 4000000 in
theorem B_X7_addRoom_27 {g : GG} (Q : Int32 → Mem → Prop) (v0 : Nat) (M : Mem) (h : T_X7_addRoom_27 Q v0 M) : WP g 10 mX7_addRoom 27 [some (.ref (g.1 + v0)), none, none, none] [] M 0 (oI Q noX) := by
  unfold T_X7_addRoom_27 at h
  refine R_aload_n (pc := 27) d_X7_addRoom_27 rfl rfl ?_
  refine R_iconst (pc := 28) (v := 1) d_X7_addRoom_28 (by decide) ?_
  obtain ⟨k1, h⟩ := h
  refine R_callV (pc := 29) (As := [.int 1]) (rest := []) (c_X7_fails (g := g) v0 1 M _ h) rfl rfl cal_RX7_163 ins_X7_fails sel_X7_fails (cls_at k1 clsOK7) (by decide) (by decide) rfl rfl (Nat.le_of_ble_eq_true rfl) d_X7_addRoom_29 (k_I (fun y3 M2 h => ?_)) (fun _ _ h9 => False.elim h9)
  try dsimp only at h
  exact R_retv (pc := 32) d_X7_addRoom_32 h
def T_X7_addRoom (Q : Int32 → Mem → Prop) (v0 : Nat) (v1 : Int32) (v2 : Int32) (v3 : Int32) (M : Mem) : Prop := (kd v0 = 7) ∧ ∀ M2 : Mem, M2 = mset M v0 0 0 → T_X7_remembers (fun M3 => T_X7_in (fun y5 M4 => if y5 = 0 then (T_X7_addRoom_27 Q v0 M4) else (T_X7_in (fun y7 M6 => if y7 = 0 then (T_X7_addRoom_27 Q v0 M6) else ((kd (rf v0 1) = 9) ∧ (vp_in 3 (ln (rf v0 1))) ∧ if (M6.1 (rf v0 1) (Int32.toNatClampNeg 3)) = (6 : Int32) then (T_X7_fails (fun y15 M14 => Q y15 M14)  v0 2 M6) else ((vp_in (54 + (M6.1 (rf v0 1) (Int32.toNatClampNeg 3))) (ln (rf v0 1))) ∧ ∀ M11 : Mem, M11 = mset M6 (rf v0 1) (Int32.toNatClampNeg (54 + (M6.1 (rf v0 1) (Int32.toNatClampNeg 3)))) v1 → (vp_in (60 + (M11.1 (rf v0 1) (Int32.toNatClampNeg 3))) (ln (rf v0 1))) ∧ ∀ M13 : Mem, M13 = mset M11 (rf v0 1) (Int32.toNatClampNeg (60 + (M11.1 (rf v0 1) (Int32.toNatClampNeg 3)))) v2 → if v3 = 0 then (T_X7_addRoom_102 Q v0 0 (66 + (M13.1 (rf v0 1) (Int32.toNatClampNeg 3))) (rf v0 1) M13) else (T_X7_addRoom_102 Q v0 1 (66 + (M13.1 (rf v0 1) (Int32.toNatClampNeg 3))) (rf v0 1) M13))))  v2 1 3 M4))  v1 0 3 M3)  v0 M2
set_option maxRecDepth 100000 in
set_option maxHeartbeats 4000000 in
theorem c_X7_addRoom {g : GG} (v0 : Nat) (v1 : Int32) (v2 : Int32) (v3 : Int32) (M : Mem) (Q : Int32 → Mem → Prop) (h : T_X7_addRoom Q v0 v1 v2 v3 M) : CT g 10 mX7_addRoom [.ref (g.1 + v0), .int v1, .int v2, .int v3] M 0 (oI Q noX) := by
  refine CT_of (L := [some (.ref (g.1 + v0)), some (.int v1), some (.int v2), some (.int v3)]) (by decide) rfl (Nat.le_of_ble_eq_true rfl) (ro_I rfl) rfl ?_
  unfold T_X7_addRoom at h
  refine R_aload_n (pc := 0) d_X7_addRoom_0 rfl rfl ?_
  refine R_iconst (pc := 1) (v := 0) d_X7_addRoom_1 (by decide) ?_
  obtain ⟨k1, h⟩ := h
  refine R_putI (pc := 2) fld_RX7_37 rfl rfl rfl k1 rfl rfl d_X7_addRoom_2 (N_M (fun M2 eM2 => ?_))
  have h := h M2 eM2
  refine R_aload_n (pc := 5) d_X7_addRoom_5 rfl rfl ?_
  refine R_callV (pc := 6) (As := []) (rest := []) (c_X7_remembers (g := g) v0 M2 _ h) rfl rfl cal_RX7_160 ins_X7_remembers sel_X7_remembers (cls_at k1 clsOK7) (by decide) (by decide) rfl rfl (Nat.le_of_ble_eq_true rfl) d_X7_addRoom_6 (k_V (fun M3 h => ?_)) (fun _ _ h9 => False.elim h9)
  try dsimp only at h
  refine R_iload_n (pc := 9) d_X7_addRoom_9 rfl rfl ?_
  refine R_iconst (pc := 10) (v := 0) d_X7_addRoom_10 (by decide) ?_
  refine R_iconst (pc := 11) (v := 3) d_X7_addRoom_11 (by decide) ?_
  refine R_callS (pc := 12) (As := [.int v1, .int 0, .int 3]) (rest := []) (c_X7_in (g := g) v1 0 3 M3 _ h) rfl rfl cal_RX7_41 sta_X7_in (by decide) (by decide) rfl rfl (Nat.le_of_ble_eq_true rfl) d_X7_addRoom_12 (k_Z (fun y5 M4 h => ?_)) (fun _ _ h9 => False.elim h9)
  try dsimp only at h
  refine R_if_eq (pc := 15) (tgt := 27) d_X7_addRoom_15 (by decide) (fun c => ?_) (fun c => ?_)
  · rw [if_pos c] at h
    exact WP_sub (B_X7_addRoom_27 Q v0 M4 h) (by decide) (ls_s (ls_n (ls_n (ls_n ls_0))))
  · rw [if_neg c] at h
    refine R_iload_n (pc := 18) d_X7_addRoom_18 rfl rfl ?_
    refine R_iconst (pc := 19) (v := 1) d_X7_addRoom_19 (by decide) ?_
    refine R_iconst (pc := 20) (v := 3) d_X7_addRoom_20 (by decide) ?_
    refine R_callS (pc := 21) (As := [.int v2, .int 1, .int 3]) (rest := []) (c_X7_in (g := g) v2 1 3 M4 _ h) rfl rfl cal_RX7_41 sta_X7_in (by decide) (by decide) rfl rfl (Nat.le_of_ble_eq_true rfl) d_X7_addRoom_21 (k_Z (fun y7 M6 h => ?_)) (fun _ _ h9 => False.elim h9)
    try dsimp only at h
    refine R_if_ne (pc := 24) (tgt := 33) d_X7_addRoom_24 (by decide) (fun c => ?_) (fun c => ?_)
    · rw [if_neg c] at h
      refine R_aload_n (pc := 33) d_X7_addRoom_33 rfl rfl ?_
      refine R_getR (pc := 34) fld_RX7_7 rfl rfl k1 d_X7_addRoom_34 ?_
      refine R_iconst (pc := 37) (v := 3) d_X7_addRoom_37 (by decide) ?_
      obtain ⟨k8, h⟩ := h
      obtain ⟨k9, h⟩ := h
      refine R_iald (pc := 38) k8 k9 d_X7_addRoom_38 ?_
      refine R_bipush (pc := 39) (v := 6) d_X7_addRoom_39 (by decide) ?_
      refine R_icmp_ne (pc := 41) (tgt := 50) d_X7_addRoom_41 (by decide) (fun c => ?_) (fun c => ?_)
      · rw [if_neg c] at h
        refine R_aload_n (pc := 50) d_X7_addRoom_50 rfl rfl ?_
        refine R_getR (pc := 51) fld_RX7_7 rfl rfl k1 d_X7_addRoom_51 ?_
        refine R_bipush (pc := 54) (v := 54) d_X7_addRoom_54 (by decide) ?_
        refine R_aload_n (pc := 56) d_X7_addRoom_56 rfl rfl ?_
        refine R_getR (pc := 57) fld_RX7_7 rfl rfl k1 d_X7_addRoom_57 ?_
        refine R_iconst (pc := 60) (v := 3) d_X7_addRoom_60 (by decide) ?_
        refine R_iald (pc := 61) k8 k9 d_X7_addRoom_61 ?_
        refine R_iadd (pc := 62) d_X7_addRoom_62 ?_
        refine R_iload_n (pc := 63) d_X7_addRoom_63 rfl rfl ?_
        obtain ⟨k10, h⟩ := h
        refine R_iast (pc := 64) k8 k10 d_X7_addRoom_64 (N_M (fun M11 eM11 => ?_))
        have h := h M11 eM11
        refine R_aload_n (pc := 65) d_X7_addRoom_65 rfl rfl ?_
        refine R_getR (pc := 66) fld_RX7_7 rfl rfl k1 d_X7_addRoom_66 ?_
        refine R_bipush (pc := 69) (v := 60) d_X7_addRoom_69 (by decide) ?_
        refine R_aload_n (pc := 71) d_X7_addRoom_71 rfl rfl ?_
        refine R_getR (pc := 72) fld_RX7_7 rfl rfl k1 d_X7_addRoom_72 ?_
        refine R_iconst (pc := 75) (v := 3) d_X7_addRoom_75 (by decide) ?_
        refine R_iald (pc := 76) k8 k9 d_X7_addRoom_76 ?_
        refine R_iadd (pc := 77) d_X7_addRoom_77 ?_
        refine R_iload_n (pc := 78) d_X7_addRoom_78 rfl rfl ?_
        obtain ⟨k12, h⟩ := h
        refine R_iast (pc := 79) k8 k12 d_X7_addRoom_79 (N_M (fun M13 eM13 => ?_))
        have h := h M13 eM13
        refine R_aload_n (pc := 80) d_X7_addRoom_80 rfl rfl ?_
        refine R_getR (pc := 81) fld_RX7_7 rfl rfl k1 d_X7_addRoom_81 ?_
        refine R_bipush (pc := 84) (v := 66) d_X7_addRoom_84 (by decide) ?_
        refine R_aload_n (pc := 86) d_X7_addRoom_86 rfl rfl ?_
        refine R_getR (pc := 87) fld_RX7_7 rfl rfl k1 d_X7_addRoom_87 ?_
        refine R_iconst (pc := 90) (v := 3) d_X7_addRoom_90 (by decide) ?_
        refine R_iald (pc := 91) k8 k9 d_X7_addRoom_91 ?_
        refine R_iadd (pc := 92) d_X7_addRoom_92 ?_
        refine R_iload_n (pc := 93) d_X7_addRoom_93 rfl rfl ?_
        refine R_if_eq (pc := 94) (tgt := 101) d_X7_addRoom_94 (by decide) (fun c => ?_) (fun c => ?_)
        · rw [if_pos c] at h
          refine R_iconst (pc := 101) (v := 0) d_X7_addRoom_101 (by decide) ?_
          exact WP_sub (B_X7_addRoom_102 Q v0 0 (66 + (M13.1 (rf v0 1) (Int32.toNatClampNeg 3))) (rf v0 1) M13 h) (by decide) (ls_s (ls_n (ls_n (ls_n ls_0))))
        · rw [if_neg c] at h
          refine R_iconst (pc := 97) (v := 1) d_X7_addRoom_97 (by decide) ?_
          refine R_goto (pc := 98) (tgt := 102) d_X7_addRoom_98 (by decide) ?_
          exact WP_sub (B_X7_addRoom_102 Q v0 1 (66 + (M13.1 (rf v0 1) (Int32.toNatClampNeg 3))) (rf v0 1) M13 h) (by decide) (ls_s (ls_n (ls_n (ls_n ls_0))))
      · rw [if_pos c] at h
        refine R_aload_n (pc := 44) d_X7_addRoom_44 rfl rfl ?_
        refine R_iconst (pc := 45) (v := 2) d_X7_addRoom_45 (by decide) ?_
        refine R_callV (pc := 46) (As := [.int 2]) (rest := []) (c_X7_fails (g := g) v0 2 M6 _ h) rfl rfl cal_RX7_163 ins_X7_fails sel_X7_fails (cls_at k1 clsOK7) (by decide) (by decide) rfl rfl (Nat.le_of_ble_eq_true rfl) d_X7_addRoom_46 (k_I (fun y15 M14 h => ?_)) (fun _ _ h9 => False.elim h9)
        try dsimp only at h
        exact R_retv (pc := 49) d_X7_addRoom_49 h
    · rw [if_pos c] at h
      exact WP_sub (B_X7_addRoom_27 Q v0 M6 h) (by decide) (ls_s (ls_n (ls_n (ls_n ls_0))))
/-! X7_setOpen -/
theorem d_X7_setOpen_0 : decode mX7_setOpen.2.1 0 = .ok (.aload_n 0, 1) := by decide +kernel
theorem d_X7_setOpen_1 : decode mX7_setOpen.2.1 1 = .ok (.iconst 0, 1) := by decide +kernel
theorem d_X7_setOpen_2 : decode mX7_setOpen.2.1 2 = .ok (.putfield 37, 3) := by decide +kernel
theorem d_X7_setOpen_5 : decode mX7_setOpen.2.1 5 = .ok (.aload_n 0, 1) := by decide +kernel
theorem d_X7_setOpen_6 : decode mX7_setOpen.2.1 6 = .ok (.invokevirtual 160, 3) := by decide +kernel
theorem d_X7_setOpen_9 : decode mX7_setOpen.2.1 9 = .ok (.aload_n 0, 1) := by decide +kernel
theorem d_X7_setOpen_10 : decode mX7_setOpen.2.1 10 = .ok (.iload_n 1, 1) := by decide +kernel
theorem d_X7_setOpen_11 : decode mX7_setOpen.2.1 11 = .ok (.invokevirtual 169, 3) := by decide +kernel
theorem d_X7_setOpen_14 : decode mX7_setOpen.2.1 14 = .ok (.ifCond .ne 9, 3) := by decide +kernel
theorem d_X7_setOpen_17 : decode mX7_setOpen.2.1 17 = .ok (.aload_n 0, 1) := by decide +kernel
theorem d_X7_setOpen_18 : decode mX7_setOpen.2.1 18 = .ok (.iconst 1, 1) := by decide +kernel
theorem d_X7_setOpen_19 : decode mX7_setOpen.2.1 19 = .ok (.invokevirtual 163, 3) := by decide +kernel
theorem d_X7_setOpen_22 : decode mX7_setOpen.2.1 22 = .ok (.ireturn, 1) := by decide +kernel
theorem d_X7_setOpen_23 : decode mX7_setOpen.2.1 23 = .ok (.aload_n 0, 1) := by decide +kernel
theorem d_X7_setOpen_24 : decode mX7_setOpen.2.1 24 = .ok (.iconst 0, 1) := by decide +kernel
theorem d_X7_setOpen_25 : decode mX7_setOpen.2.1 25 = .ok (.putfield 56, 3) := by decide +kernel
theorem d_X7_setOpen_28 : decode mX7_setOpen.2.1 28 = .ok (.aload_n 0, 1) := by decide +kernel
theorem d_X7_setOpen_29 : decode mX7_setOpen.2.1 29 = .ok (.getfield 7, 3) := by decide +kernel
theorem d_X7_setOpen_32 : decode mX7_setOpen.2.1 32 = .ok (.bipush 72, 2) := by decide +kernel
theorem d_X7_setOpen_34 : decode mX7_setOpen.2.1 34 = .ok (.iload_n 1, 1) := by decide +kernel
theorem d_X7_setOpen_35 : decode mX7_setOpen.2.1 35 = .ok (.iadd, 1) := by decide +kernel
theorem d_X7_setOpen_36 : decode mX7_setOpen.2.1 36 = .ok (.iaload, 1) := by decide +kernel
theorem d_X7_setOpen_37 : decode mX7_setOpen.2.1 37 = .ok (.iconst 1, 1) := by decide +kernel
theorem d_X7_setOpen_38 : decode mX7_setOpen.2.1 38 = .ok (.if_icmp .ne 7, 3) := by decide +kernel
theorem d_X7_setOpen_41 : decode mX7_setOpen.2.1 41 = .ok (.iconst 1, 1) := by decide +kernel
theorem d_X7_setOpen_42 : decode mX7_setOpen.2.1 42 = .ok (.goto 4, 3) := by decide +kernel
theorem d_X7_setOpen_45 : decode mX7_setOpen.2.1 45 = .ok (.iconst 0, 1) := by decide +kernel
theorem d_X7_setOpen_46 : decode mX7_setOpen.2.1 46 = .ok (.istore_n 3, 1) := by decide +kernel
theorem d_X7_setOpen_47 : decode mX7_setOpen.2.1 47 = .ok (.aload_n 0, 1) := by decide +kernel
theorem d_X7_setOpen_48 : decode mX7_setOpen.2.1 48 = .ok (.getfield 7, 3) := by decide +kernel
theorem d_X7_setOpen_51 : decode mX7_setOpen.2.1 51 = .ok (.bipush 72, 2) := by decide +kernel
theorem d_X7_setOpen_53 : decode mX7_setOpen.2.1 53 = .ok (.iload_n 1, 1) := by decide +kernel
theorem d_X7_setOpen_54 : decode mX7_setOpen.2.1 54 = .ok (.iadd, 1) := by decide +kernel
theorem d_X7_setOpen_55 : decode mX7_setOpen.2.1 55 = .ok (.iload_n 2, 1) := by decide +kernel
theorem d_X7_setOpen_56 : decode mX7_setOpen.2.1 56 = .ok (.ifCond .eq 7, 3) := by decide +kernel
theorem d_X7_setOpen_59 : decode mX7_setOpen.2.1 59 = .ok (.iconst 1, 1) := by decide +kernel
theorem d_X7_setOpen_60 : decode mX7_setOpen.2.1 60 = .ok (.goto 4, 3) := by decide +kernel
theorem d_X7_setOpen_63 : decode mX7_setOpen.2.1 63 = .ok (.iconst 0, 1) := by decide +kernel
theorem d_X7_setOpen_64 : decode mX7_setOpen.2.1 64 = .ok (.iastore, 1) := by decide +kernel
theorem d_X7_setOpen_65 : decode mX7_setOpen.2.1 65 = .ok (.iload_n 2, 1) := by decide +kernel
theorem d_X7_setOpen_66 : decode mX7_setOpen.2.1 66 = .ok (.ifCond .ne 12, 3) := by decide +kernel
theorem d_X7_setOpen_69 : decode mX7_setOpen.2.1 69 = .ok (.aload_n 0, 1) := by decide +kernel
theorem d_X7_setOpen_70 : decode mX7_setOpen.2.1 70 = .ok (.iconst (-1), 1) := by decide +kernel
theorem d_X7_setOpen_71 : decode mX7_setOpen.2.1 71 = .ok (.iload_n 1, 1) := by decide +kernel
theorem d_X7_setOpen_72 : decode mX7_setOpen.2.1 72 = .ok (.invokevirtual 172, 3) := by decide +kernel
theorem d_X7_setOpen_75 : decode mX7_setOpen.2.1 75 = .ok (.goto 12, 3) := by decide +kernel
theorem d_X7_setOpen_78 : decode mX7_setOpen.2.1 78 = .ok (.iload_n 3, 1) := by decide +kernel
theorem d_X7_setOpen_79 : decode mX7_setOpen.2.1 79 = .ok (.ifCond .ne 8, 3) := by decide +kernel
theorem d_X7_setOpen_82 : decode mX7_setOpen.2.1 82 = .ok (.aload_n 0, 1) := by decide +kernel
theorem d_X7_setOpen_83 : decode mX7_setOpen.2.1 83 = .ok (.invokevirtual 175, 3) := by decide +kernel
theorem d_X7_setOpen_86 : decode mX7_setOpen.2.1 86 = .ok (.pop, 1) := by decide +kernel
theorem d_X7_setOpen_87 : decode mX7_setOpen.2.1 87 = .ok (.aload_n 0, 1) := by decide +kernel
theorem d_X7_setOpen_88 : decode mX7_setOpen.2.1 88 = .ok (.invokevirtual 166, 3) := by decide +kernel
theorem d_X7_setOpen_91 : decode mX7_setOpen.2.1 91 = .ok (.aload_n 0, 1) := by decide +kernel
theorem d_X7_setOpen_92 : decode mX7_setOpen.2.1 92 = .ok (.getfield 56, 3) := by decide +kernel
theorem d_X7_setOpen_95 : decode mX7_setOpen.2.1 95 = .ok (.ireturn, 1) := by decide +kernel
def T_X7_setOpen_87 (Q : Int32 → Mem → Prop) (v0 : Nat) (M : Mem) : Prop := (kd v0 = 7) ∧ T_X7_keeps (fun M2 => Q (M2.1 v0 12) M2)  v0 M
set_option maxRecDepth 100000 in
set_option maxHeartbeats 4000000 in
theorem B_X7_setOpen_87 {g : GG} (Q : Int32 → Mem → Prop) (v0 : Nat) (M : Mem) (h : T_X7_setOpen_87 Q v0 M) : WP g 18 mX7_setOpen 87 [some (.ref (g.1 + v0)), none, none, none] [] M 0 (oI Q noX) := by
  unfold T_X7_setOpen_87 at h
  refine R_aload_n (pc := 87) d_X7_setOpen_87 rfl rfl ?_
  obtain ⟨k1, h⟩ := h
  refine R_callV (pc := 88) (As := []) (rest := []) (c_X7_keeps (g := g) v0 M _ h) rfl rfl cal_RX7_166 ins_X7_keeps sel_X7_keeps (cls_at k1 clsOK7) (by decide) (by decide) rfl rfl (Nat.le_of_ble_eq_true rfl) d_X7_setOpen_88 (k_V (fun M2 h => ?_)) (fun _ _ h9 => False.elim h9)
  try dsimp only at h
  refine R_aload_n (pc := 91) d_X7_setOpen_91 rfl rfl ?_
  refine R_getI (pc := 92) fld_RX7_56 rfl rfl k1 d_X7_setOpen_92 ?_
  exact R_retv (pc := 95) d_X7_setOpen_95 h
def T_X7_setOpen_64 (Q : Int32 → Mem → Prop) (v0 : Nat) (v1 : Int32) (v2 : Int32) (v3 : Int32) (s0 : Int32) (s1 : Int32) (s2 : Nat) (M : Mem) : Prop := (kd s2 = 9) ∧ (vp_in s1 (ln s2)) ∧ ∀ M3 : Mem, M3 = mset M s2 (Int32.toNatClampNeg s1) s0 → if v2 = 0 then ((kd v0 = 7) ∧ T_X7_rehouses (fun M8 => T_X7_setOpen_87 Q v0 M8)  v0 (-1) v1 M3) else (if v3 = 0 then ((kd v0 = 7) ∧ T_X7_grants (fun y6 M5 => T_X7_setOpen_87 Q v0 M5)  v0 M3) else (T_X7_setOpen_87 Q v0 M3))
set_option maxRecDepth 100000 in
set_option maxHeartbeats 4000000 in
theorem B_X7_setOpen_64 {g : GG} (Q : Int32 → Mem → Prop) (v0 : Nat) (v1 : Int32) (v2 : Int32) (v3 : Int32) (s0 : Int32) (s1 : Int32) (s2 : Nat) (M : Mem) (h : T_X7_setOpen_64 Q v0 v1 v2 v3 s0 s1 s2 M) : WP g 18 mX7_setOpen 64 [some (.ref (g.1 + v0)), some (.int v1), some (.int v2), some (.int v3)] [.int s0, .int s1, .ref (g.1 + s2)] M 0 (oI Q noX) := by
  unfold T_X7_setOpen_64 at h
  obtain ⟨k1, h⟩ := h
  obtain ⟨k2, h⟩ := h
  refine R_iast (pc := 64) k1 k2 d_X7_setOpen_64 (N_M (fun M3 eM3 => ?_))
  have h := h M3 eM3
  refine R_iload_n (pc := 65) d_X7_setOpen_65 rfl rfl ?_
  refine R_if_ne (pc := 66) (tgt := 78) d_X7_setOpen_66 (by decide) (fun c => ?_) (fun c => ?_)
  · rw [if_neg c] at h
    refine R_iload_n (pc := 78) d_X7_setOpen_78 rfl rfl ?_
    refine R_if_ne (pc := 79) (tgt := 87) d_X7_setOpen_79 (by decide) (fun c => ?_) (fun c => ?_)
    · rw [if_neg c] at h
      exact WP_sub (B_X7_setOpen_87 Q v0 M3 h) (by decide) (ls_s (ls_n (ls_n (ls_n ls_0))))
    · rw [if_pos c] at h
      refine R_aload_n (pc := 82) d_X7_setOpen_82 rfl rfl ?_
      obtain ⟨k4, h⟩ := h
      refine R_callV (pc := 83) (As := []) (rest := []) (c_X7_grants (g := g) v0 M3 _ h) rfl rfl cal_RX7_175 ins_X7_grants sel_X7_grants (cls_at k4 clsOK7) (by decide) (by decide) rfl rfl (Nat.le_of_ble_eq_true rfl) d_X7_setOpen_83 (k_I (fun y6 M5 h => ?_)) (fun _ _ h9 => False.elim h9)
      try dsimp only at h
      refine R_pop (pc := 86) d_X7_setOpen_86 rfl ?_
      exact WP_sub (B_X7_setOpen_87 Q v0 M5 h) (by decide) (ls_s (ls_n (ls_n (ls_n ls_0))))
  · rw [if_pos c] at h
    refine R_aload_n (pc := 69) d_X7_setOpen_69 rfl rfl ?_
    refine R_iconst (pc := 70) (v := (-1)) d_X7_setOpen_70 (by decide) ?_
    refine R_iload_n (pc := 71) d_X7_setOpen_71 rfl rfl ?_
    obtain ⟨k7, h⟩ := h
    refine R_callV (pc := 72) (As := [.int (-1), .int v1]) (rest := []) (c_X7_rehouses (g := g) v0 (-1) v1 M3 _ h) rfl rfl cal_RX7_172 ins_X7_rehouses sel_X7_rehouses (cls_at k7 clsOK7) (by decide) (by decide) rfl rfl (Nat.le_of_ble_eq_true rfl) d_X7_setOpen_72 (k_V (fun M8 h => ?_)) (fun _ _ h9 => False.elim h9)
    try dsimp only at h
    refine R_goto (pc := 75) (tgt := 87) d_X7_setOpen_75 (by decide) ?_
    exact WP_sub (B_X7_setOpen_87 Q v0 M8 h) (by decide) (ls_s (ls_n (ls_n (ls_n ls_0))))
def T_X7_setOpen_46 (Q : Int32 → Mem → Prop) (v0 : Nat) (v1 : Int32) (v2 : Int32) (s0 : Int32) (M : Mem) : Prop := (kd v0 = 7) ∧ if v2 = 0 then (T_X7_setOpen_64 Q v0 v1 v2 s0 0 (72 + v1) (rf v0 1) M) else (T_X7_setOpen_64 Q v0 v1 v2 s0 1 (72 + v1) (rf v0 1) M)
set_option maxRecDepth 100000 in
set_option maxHeartbeats 4000000 in
theorem B_X7_setOpen_46 {g : GG} (Q : Int32 → Mem → Prop) (v0 : Nat) (v1 : Int32) (v2 : Int32) (s0 : Int32) (M : Mem) (h : T_X7_setOpen_46 Q v0 v1 v2 s0 M) : WP g 18 mX7_setOpen 46 [some (.ref (g.1 + v0)), some (.int v1), some (.int v2), none] [.int s0] M 0 (oI Q noX) := by
  unfold T_X7_setOpen_46 at h
  refine R_istore_n (pc := 46) (L' := [some (.ref (g.1 + v0)), some (.int v1), some (.int v2), some (.int s0)]) d_X7_setOpen_46 rfl (by decide) rfl ?_
  refine R_aload_n (pc := 47) d_X7_setOpen_47 rfl rfl ?_
  obtain ⟨k1, h⟩ := h
  refine R_getR (pc := 48) fld_RX7_7 rfl rfl k1 d_X7_setOpen_48 ?_
  refine R_bipush (pc := 51) (v := 72) d_X7_setOpen_51 (by decide) ?_
  refine R_iload_n (pc := 53) d_X7_setOpen_53 rfl rfl ?_
  refine R_iadd (pc := 54) d_X7_setOpen_54 ?_
  refine R_iload_n (pc := 55) d_X7_setOpen_55 rfl rfl ?_
  refine R_if_eq (pc := 56) (tgt := 63) d_X7_setOpen_56 (by decide) (fun c => ?_) (fun c => ?_)
  · rw [if_pos c] at h
    refine R_iconst (pc := 63) (v := 0) d_X7_setOpen_63 (by decide) ?_
    exact WP_sub (B_X7_setOpen_64 Q v0 v1 v2 s0 0 (72 + v1) (rf v0 1) M h) (by decide) (ls_s (ls_s (ls_s (ls_s ls_0))))
  · rw [if_neg c] at h
    refine R_iconst (pc := 59) (v := 1) d_X7_setOpen_59 (by decide) ?_
    refine R_goto (pc := 60) (tgt := 64) d_X7_setOpen_60 (by decide) ?_
    exact WP_sub (B_X7_setOpen_64 Q v0 v1 v2 s0 1 (72 + v1) (rf v0 1) M h) (by decide) (ls_s (ls_s (ls_s (ls_s ls_0))))
def T_X7_setOpen (Q : Int32 → Mem → Prop) (v0 : Nat) (v1 : Int32) (v2 : Int32) (M : Mem) : Prop := (kd v0 = 7) ∧ ∀ M2 : Mem, M2 = mset M v0 0 0 → T_X7_remembers (fun M3 => T_X7_isRoom (fun y5 M4 => if y5 = 0 then (T_X7_fails (fun y10 M9 => Q y10 M9)  v0 1 M4) else (∀ M6 : Mem, M6 = mset M4 v0 12 0 → (kd (rf v0 1) = 9) ∧ (vp_in (72 + v1) (ln (rf v0 1))) ∧ if (M6.1 (rf v0 1) (Int32.toNatClampNeg (72 + v1))) = (1 : Int32) then (T_X7_setOpen_46 Q v0 v1 v2 1 M6) else (T_X7_setOpen_46 Q v0 v1 v2 0 M6)))  v0 v1 M3)  v0 M2
set_option maxRecDepth 100000 in
set_option maxHeartbeats 4000000 in
theorem c_X7_setOpen {g : GG} (v0 : Nat) (v1 : Int32) (v2 : Int32) (M : Mem) (Q : Int32 → Mem → Prop) (h : T_X7_setOpen Q v0 v1 v2 M) : CT g 18 mX7_setOpen [.ref (g.1 + v0), .int v1, .int v2] M 0 (oI Q noX) := by
  refine CT_of (L := [some (.ref (g.1 + v0)), some (.int v1), some (.int v2), none]) (by decide) rfl (Nat.le_of_ble_eq_true rfl) (ro_I rfl) rfl ?_
  unfold T_X7_setOpen at h
  refine R_aload_n (pc := 0) d_X7_setOpen_0 rfl rfl ?_
  refine R_iconst (pc := 1) (v := 0) d_X7_setOpen_1 (by decide) ?_
  obtain ⟨k1, h⟩ := h
  refine R_putI (pc := 2) fld_RX7_37 rfl rfl rfl k1 rfl rfl d_X7_setOpen_2 (N_M (fun M2 eM2 => ?_))
  have h := h M2 eM2
  refine R_aload_n (pc := 5) d_X7_setOpen_5 rfl rfl ?_
  refine R_callV (pc := 6) (As := []) (rest := []) (c_X7_remembers (g := g) v0 M2 _ h) rfl rfl cal_RX7_160 ins_X7_remembers sel_X7_remembers (cls_at k1 clsOK7) (by decide) (by decide) rfl rfl (Nat.le_of_ble_eq_true rfl) d_X7_setOpen_6 (k_V (fun M3 h => ?_)) (fun _ _ h9 => False.elim h9)
  try dsimp only at h
  refine R_aload_n (pc := 9) d_X7_setOpen_9 rfl rfl ?_
  refine R_iload_n (pc := 10) d_X7_setOpen_10 rfl rfl ?_
  refine R_callV (pc := 11) (As := [.int v1]) (rest := []) (c_X7_isRoom (g := g) v0 v1 M3 _ h) rfl rfl cal_RX7_169 ins_X7_isRoom sel_X7_isRoom (cls_at k1 clsOK7) (by decide) (by decide) rfl rfl (Nat.le_of_ble_eq_true rfl) d_X7_setOpen_11 (k_Z (fun y5 M4 h => ?_)) (fun _ _ h9 => False.elim h9)
  try dsimp only at h
  refine R_if_ne (pc := 14) (tgt := 23) d_X7_setOpen_14 (by decide) (fun c => ?_) (fun c => ?_)
  · rw [if_neg c] at h
    refine R_aload_n (pc := 23) d_X7_setOpen_23 rfl rfl ?_
    refine R_iconst (pc := 24) (v := 0) d_X7_setOpen_24 (by decide) ?_
    refine R_putI (pc := 25) fld_RX7_56 rfl rfl rfl k1 rfl rfl d_X7_setOpen_25 (N_M (fun M6 eM6 => ?_))
    have h := h M6 eM6
    refine R_aload_n (pc := 28) d_X7_setOpen_28 rfl rfl ?_
    refine R_getR (pc := 29) fld_RX7_7 rfl rfl k1 d_X7_setOpen_29 ?_
    refine R_bipush (pc := 32) (v := 72) d_X7_setOpen_32 (by decide) ?_
    refine R_iload_n (pc := 34) d_X7_setOpen_34 rfl rfl ?_
    refine R_iadd (pc := 35) d_X7_setOpen_35 ?_
    obtain ⟨k7, h⟩ := h
    obtain ⟨k8, h⟩ := h
    refine R_iald (pc := 36) k7 k8 d_X7_setOpen_36 ?_
    refine R_iconst (pc := 37) (v := 1) d_X7_setOpen_37 (by decide) ?_
    refine R_icmp_ne (pc := 38) (tgt := 45) d_X7_setOpen_38 (by decide) (fun c => ?_) (fun c => ?_)
    · rw [if_neg c] at h
      refine R_iconst (pc := 45) (v := 0) d_X7_setOpen_45 (by decide) ?_
      exact WP_sub (B_X7_setOpen_46 Q v0 v1 v2 0 M6 h) (by decide) (ls_s (ls_s (ls_s (ls_n ls_0))))
    · rw [if_pos c] at h
      refine R_iconst (pc := 41) (v := 1) d_X7_setOpen_41 (by decide) ?_
      refine R_goto (pc := 42) (tgt := 46) d_X7_setOpen_42 (by decide) ?_
      exact WP_sub (B_X7_setOpen_46 Q v0 v1 v2 1 M6 h) (by decide) (ls_s (ls_s (ls_s (ls_n ls_0))))
  · rw [if_pos c] at h
    refine R_aload_n (pc := 17) d_X7_setOpen_17 rfl rfl ?_
    refine R_iconst (pc := 18) (v := 1) d_X7_setOpen_18 (by decide) ?_
    refine R_callV (pc := 19) (As := [.int 1]) (rest := []) (c_X7_fails (g := g) v0 1 M4 _ h) rfl rfl cal_RX7_163 ins_X7_fails sel_X7_fails (cls_at k1 clsOK7) (by decide) (by decide) rfl rfl (Nat.le_of_ble_eq_true rfl) d_X7_setOpen_19 (k_I (fun y10 M9 h => ?_)) (fun _ _ h9 => False.elim h9)
    try dsimp only at h
    exact R_retv (pc := 22) d_X7_setOpen_22 h
/-! X7_changes -/
theorem d_X7_changes_0 : decode mX7_changes.2.1 0 = .ok (.aload_n 0, 1) := by decide +kernel
theorem d_X7_changes_1 : decode mX7_changes.2.1 1 = .ok (.getfield 7, 3) := by decide +kernel
theorem d_X7_changes_4 : decode mX7_changes.2.1 4 = .ok (.iload_n 1, 1) := by decide +kernel
theorem d_X7_changes_5 : decode mX7_changes.2.1 5 = .ok (.iaload, 1) := by decide +kernel
theorem d_X7_changes_6 : decode mX7_changes.2.1 6 = .ok (.istore_n 3, 1) := by decide +kernel
theorem d_X7_changes_7 : decode mX7_changes.2.1 7 = .ok (.aload_n 0, 1) := by decide +kernel
theorem d_X7_changes_8 : decode mX7_changes.2.1 8 = .ok (.getfield 7, 3) := by decide +kernel
theorem d_X7_changes_11 : decode mX7_changes.2.1 11 = .ok (.iload_n 1, 1) := by decide +kernel
theorem d_X7_changes_12 : decode mX7_changes.2.1 12 = .ok (.iload_n 2, 1) := by decide +kernel
theorem d_X7_changes_13 : decode mX7_changes.2.1 13 = .ok (.iastore, 1) := by decide +kernel
theorem d_X7_changes_14 : decode mX7_changes.2.1 14 = .ok (.aload_n 0, 1) := by decide +kernel
theorem d_X7_changes_15 : decode mX7_changes.2.1 15 = .ok (.invokevirtual 166, 3) := by decide +kernel
theorem d_X7_changes_18 : decode mX7_changes.2.1 18 = .ok (.iload_n 3, 1) := by decide +kernel
theorem d_X7_changes_19 : decode mX7_changes.2.1 19 = .ok (.ireturn, 1) := by decide +kernel
def T_X7_changes (Q : Int32 → Mem → Prop) (v0 : Nat) (v1 : Int32) (v2 : Int32) (M : Mem) : Prop := (kd v0 = 7) ∧ (kd (rf v0 1) = 9) ∧ (vp_in v1 (ln (rf v0 1))) ∧ ∀ x4 : Int32, x4 = M.1 (rf v0 1) (Int32.toNatClampNeg v1) → ∀ M5 : Mem, M5 = mset M (rf v0 1) (Int32.toNatClampNeg v1) v2 → T_X7_keeps (fun M6 => Q x4 M6)  v0 M5
set_option maxRecDepth 100000 in
set_option maxHeartbeats 4000000 in
theorem c_X7_changes {g : GG} (v0 : Nat) (v1 : Int32) (v2 : Int32) (M : Mem) (Q : Int32 → Mem → Prop) (h : T_X7_changes Q v0 v1 v2 M) : CT g 10 mX7_changes [.ref (g.1 + v0), .int v1, .int v2] M 0 (oI Q noX) := by
  refine CT_of (L := [some (.ref (g.1 + v0)), some (.int v1), some (.int v2), none]) (by decide) rfl (Nat.le_of_ble_eq_true rfl) (ro_I rfl) rfl ?_
  unfold T_X7_changes at h
  refine R_aload_n (pc := 0) d_X7_changes_0 rfl rfl ?_
  obtain ⟨k1, h⟩ := h
  refine R_getR (pc := 1) fld_RX7_7 rfl rfl k1 d_X7_changes_1 ?_
  refine R_iload_n (pc := 4) d_X7_changes_4 rfl rfl ?_
  obtain ⟨k2, h⟩ := h
  obtain ⟨k3, h⟩ := h
  refine R_iald (pc := 5) k2 k3 d_X7_changes_5 ?_
  refine N_i (fun x4 ex4 => ?_)
  have h := h x4 ex4
  refine R_istore_n (pc := 6) (L' := [some (.ref (g.1 + v0)), some (.int v1), some (.int v2), some (.int x4)]) d_X7_changes_6 rfl (by decide) rfl ?_
  refine R_aload_n (pc := 7) d_X7_changes_7 rfl rfl ?_
  refine R_getR (pc := 8) fld_RX7_7 rfl rfl k1 d_X7_changes_8 ?_
  refine R_iload_n (pc := 11) d_X7_changes_11 rfl rfl ?_
  refine R_iload_n (pc := 12) d_X7_changes_12 rfl rfl ?_
  refine R_iast (pc := 13) k2 k3 d_X7_changes_13 (N_M (fun M5 eM5 => ?_))
  have h := h M5 eM5
  refine R_aload_n (pc := 14) d_X7_changes_14 rfl rfl ?_
  refine R_callV (pc := 15) (As := []) (rest := []) (c_X7_keeps (g := g) v0 M5 _ h) rfl rfl cal_RX7_166 ins_X7_keeps sel_X7_keeps (cls_at k1 clsOK7) (by decide) (by decide) rfl rfl (Nat.le_of_ble_eq_true rfl) d_X7_changes_15 (k_V (fun M6 h => ?_)) (fun _ _ h9 => False.elim h9)
  try dsimp only at h
  refine R_iload_n (pc := 18) d_X7_changes_18 rfl rfl ?_
  exact R_retv (pc := 19) d_X7_changes_19 h
/-! X7_setLevel -/
theorem d_X7_setLevel_0 : decode mX7_setLevel.2.1 0 = .ok (.aload_n 0, 1) := by decide +kernel
theorem d_X7_setLevel_1 : decode mX7_setLevel.2.1 1 = .ok (.iconst 0, 1) := by decide +kernel
theorem d_X7_setLevel_2 : decode mX7_setLevel.2.1 2 = .ok (.putfield 37, 3) := by decide +kernel
theorem d_X7_setLevel_5 : decode mX7_setLevel.2.1 5 = .ok (.aload_n 0, 1) := by decide +kernel
theorem d_X7_setLevel_6 : decode mX7_setLevel.2.1 6 = .ok (.invokevirtual 160, 3) := by decide +kernel
theorem d_X7_setLevel_9 : decode mX7_setLevel.2.1 9 = .ok (.aload_n 0, 1) := by decide +kernel
theorem d_X7_setLevel_10 : decode mX7_setLevel.2.1 10 = .ok (.iload_n 1, 1) := by decide +kernel
theorem d_X7_setLevel_11 : decode mX7_setLevel.2.1 11 = .ok (.invokevirtual 179, 3) := by decide +kernel
theorem d_X7_setLevel_14 : decode mX7_setLevel.2.1 14 = .ok (.ifCond .ne 9, 3) := by decide +kernel
theorem d_X7_setLevel_17 : decode mX7_setLevel.2.1 17 = .ok (.aload_n 0, 1) := by decide +kernel
theorem d_X7_setLevel_18 : decode mX7_setLevel.2.1 18 = .ok (.iconst 1, 1) := by decide +kernel
theorem d_X7_setLevel_19 : decode mX7_setLevel.2.1 19 = .ok (.invokevirtual 163, 3) := by decide +kernel
theorem d_X7_setLevel_22 : decode mX7_setLevel.2.1 22 = .ok (.ireturn, 1) := by decide +kernel
theorem d_X7_setLevel_23 : decode mX7_setLevel.2.1 23 = .ok (.iload_n 2, 1) := by decide +kernel
theorem d_X7_setLevel_24 : decode mX7_setLevel.2.1 24 = .ok (.iconst 0, 1) := by decide +kernel
theorem d_X7_setLevel_25 : decode mX7_setLevel.2.1 25 = .ok (.iconst 2, 1) := by decide +kernel
theorem d_X7_setLevel_26 : decode mX7_setLevel.2.1 26 = .ok (.invokestatic 41, 3) := by decide +kernel
theorem d_X7_setLevel_29 : decode mX7_setLevel.2.1 29 = .ok (.ifCond .eq 15, 3) := by decide +kernel
theorem d_X7_setLevel_32 : decode mX7_setLevel.2.1 32 = .ok (.aload_n 0, 1) := by decide +kernel
theorem d_X7_setLevel_33 : decode mX7_setLevel.2.1 33 = .ok (.bipush 22, 2) := by decide +kernel
theorem d_X7_setLevel_35 : decode mX7_setLevel.2.1 35 = .ok (.iload_n 1, 1) := by decide +kernel
theorem d_X7_setLevel_36 : decode mX7_setLevel.2.1 36 = .ok (.iadd, 1) := by decide +kernel
theorem d_X7_setLevel_37 : decode mX7_setLevel.2.1 37 = .ok (.iload_n 2, 1) := by decide +kernel
theorem d_X7_setLevel_38 : decode mX7_setLevel.2.1 38 = .ok (.invokevirtual 182, 3) := by decide +kernel
theorem d_X7_setLevel_41 : decode mX7_setLevel.2.1 41 = .ok (.goto 8, 3) := by decide +kernel
theorem d_X7_setLevel_44 : decode mX7_setLevel.2.1 44 = .ok (.aload_n 0, 1) := by decide +kernel
theorem d_X7_setLevel_45 : decode mX7_setLevel.2.1 45 = .ok (.iconst 2, 1) := by decide +kernel
theorem d_X7_setLevel_46 : decode mX7_setLevel.2.1 46 = .ok (.invokevirtual 163, 3) := by decide +kernel
theorem d_X7_setLevel_49 : decode mX7_setLevel.2.1 49 = .ok (.ireturn, 1) := by decide +kernel
def T_X7_setLevel_49 (Q : Int32 → Mem → Prop) (s0 : Int32) (M : Mem) : Prop := Q s0 M
set_option maxRecDepth 100000 in
set_option maxHeartbeats 4000000 in
theorem B_X7_setLevel_49 {g : GG} (Q : Int32 → Mem → Prop) (s0 : Int32) (M : Mem) (h : T_X7_setLevel_49 Q s0 M) : WP g 11 mX7_setLevel 49 [none, none, none] [.int s0] M 0 (oI Q noX) := by
  unfold T_X7_setLevel_49 at h
  exact R_retv (pc := 49) d_X7_setLevel_49 h
def T_X7_setLevel (Q : Int32 → Mem → Prop) (v0 : Nat) (v1 : Int32) (v2 : Int32) (M : Mem) : Prop := (kd v0 = 7) ∧ ∀ M2 : Mem, M2 = mset M v0 0 0 → T_X7_remembers (fun M3 => T_X7_isInmate (fun y5 M4 => if y5 = 0 then (T_X7_fails (fun y13 M12 => Q y13 M12)  v0 1 M4) else (T_X7_in (fun y7 M6 => if y7 = 0 then (T_X7_fails (fun y9 M8 => T_X7_setLevel_49 Q y9 M8)  v0 2 M6) else (T_X7_changes (fun y11 M10 => T_X7_setLevel_49 Q y11 M10)  v0 (22 + v1) v2 M6))  v2 0 2 M4))  v0 v1 M3)  v0 M2
set_option maxRecDepth 100000 in
set_option maxHeartbeats 4000000 in
theorem c_X7_setLevel {g : GG} (v0 : Nat) (v1 : Int32) (v2 : Int32) (M : Mem) (Q : Int32 → Mem → Prop) (h : T_X7_setLevel Q v0 v1 v2 M) : CT g 11 mX7_setLevel [.ref (g.1 + v0), .int v1, .int v2] M 0 (oI Q noX) := by
  refine CT_of (L := [some (.ref (g.1 + v0)), some (.int v1), some (.int v2)]) (by decide) rfl (Nat.le_of_ble_eq_true rfl) (ro_I rfl) rfl ?_
  unfold T_X7_setLevel at h
  refine R_aload_n (pc := 0) d_X7_setLevel_0 rfl rfl ?_
  refine R_iconst (pc := 1) (v := 0) d_X7_setLevel_1 (by decide) ?_
  obtain ⟨k1, h⟩ := h
  refine R_putI (pc := 2) fld_RX7_37 rfl rfl rfl k1 rfl rfl d_X7_setLevel_2 (N_M (fun M2 eM2 => ?_))
  have h := h M2 eM2
  refine R_aload_n (pc := 5) d_X7_setLevel_5 rfl rfl ?_
  refine R_callV (pc := 6) (As := []) (rest := []) (c_X7_remembers (g := g) v0 M2 _ h) rfl rfl cal_RX7_160 ins_X7_remembers sel_X7_remembers (cls_at k1 clsOK7) (by decide) (by decide) rfl rfl (Nat.le_of_ble_eq_true rfl) d_X7_setLevel_6 (k_V (fun M3 h => ?_)) (fun _ _ h9 => False.elim h9)
  try dsimp only at h
  refine R_aload_n (pc := 9) d_X7_setLevel_9 rfl rfl ?_
  refine R_iload_n (pc := 10) d_X7_setLevel_10 rfl rfl ?_
  refine R_callV (pc := 11) (As := [.int v1]) (rest := []) (c_X7_isInmate (g := g) v0 v1 M3 _ h) rfl rfl cal_RX7_179 ins_X7_isInmate sel_X7_isInmate (cls_at k1 clsOK7) (by decide) (by decide) rfl rfl (Nat.le_of_ble_eq_true rfl) d_X7_setLevel_11 (k_Z (fun y5 M4 h => ?_)) (fun _ _ h9 => False.elim h9)
  try dsimp only at h
  refine R_if_ne (pc := 14) (tgt := 23) d_X7_setLevel_14 (by decide) (fun c => ?_) (fun c => ?_)
  · rw [if_neg c] at h
    refine R_iload_n (pc := 23) d_X7_setLevel_23 rfl rfl ?_
    refine R_iconst (pc := 24) (v := 0) d_X7_setLevel_24 (by decide) ?_
    refine R_iconst (pc := 25) (v := 2) d_X7_setLevel_25 (by decide) ?_
    refine R_callS (pc := 26) (As := [.int v2, .int 0, .int 2]) (rest := []) (c_X7_in (g := g) v2 0 2 M4 _ h) rfl rfl cal_RX7_41 sta_X7_in (by decide) (by decide) rfl rfl (Nat.le_of_ble_eq_true rfl) d_X7_setLevel_26 (k_Z (fun y7 M6 h => ?_)) (fun _ _ h9 => False.elim h9)
    try dsimp only at h
    refine R_if_eq (pc := 29) (tgt := 44) d_X7_setLevel_29 (by decide) (fun c => ?_) (fun c => ?_)
    · rw [if_pos c] at h
      refine R_aload_n (pc := 44) d_X7_setLevel_44 rfl rfl ?_
      refine R_iconst (pc := 45) (v := 2) d_X7_setLevel_45 (by decide) ?_
      refine R_callV (pc := 46) (As := [.int 2]) (rest := []) (c_X7_fails (g := g) v0 2 M6 _ h) rfl rfl cal_RX7_163 ins_X7_fails sel_X7_fails (cls_at k1 clsOK7) (by decide) (by decide) rfl rfl (Nat.le_of_ble_eq_true rfl) d_X7_setLevel_46 (k_I (fun y9 M8 h => ?_)) (fun _ _ h9 => False.elim h9)
      try dsimp only at h
      exact WP_sub (B_X7_setLevel_49 Q y9 M8 h) (by decide) (ls_n (ls_n (ls_n ls_0)))
    · rw [if_neg c] at h
      refine R_aload_n (pc := 32) d_X7_setLevel_32 rfl rfl ?_
      refine R_bipush (pc := 33) (v := 22) d_X7_setLevel_33 (by decide) ?_
      refine R_iload_n (pc := 35) d_X7_setLevel_35 rfl rfl ?_
      refine R_iadd (pc := 36) d_X7_setLevel_36 ?_
      refine R_iload_n (pc := 37) d_X7_setLevel_37 rfl rfl ?_
      refine R_callV (pc := 38) (As := [.int (22 + v1), .int v2]) (rest := []) (c_X7_changes (g := g) v0 (22 + v1) v2 M6 _ h) rfl rfl cal_RX7_182 ins_X7_changes sel_X7_changes (cls_at k1 clsOK7) (by decide) (by decide) rfl rfl (Nat.le_of_ble_eq_true rfl) d_X7_setLevel_38 (k_I (fun y11 M10 h => ?_)) (fun _ _ h9 => False.elim h9)
      try dsimp only at h
      refine R_goto (pc := 41) (tgt := 49) d_X7_setLevel_41 (by decide) ?_
      exact WP_sub (B_X7_setLevel_49 Q y11 M10 h) (by decide) (ls_n (ls_n (ls_n ls_0)))
  · rw [if_pos c] at h
    refine R_aload_n (pc := 17) d_X7_setLevel_17 rfl rfl ?_
    refine R_iconst (pc := 18) (v := 1) d_X7_setLevel_18 (by decide) ?_
    refine R_callV (pc := 19) (As := [.int 1]) (rest := []) (c_X7_fails (g := g) v0 1 M4 _ h) rfl rfl cal_RX7_163 ins_X7_fails sel_X7_fails (cls_at k1 clsOK7) (by decide) (by decide) rfl rfl (Nat.le_of_ble_eq_true rfl) d_X7_setLevel_19 (k_I (fun y13 M12 h => ?_)) (fun _ _ h9 => False.elim h9)
    try dsimp only at h
    exact R_retv (pc := 22) d_X7_setLevel_22 h
/-! X7_moving -/
theorem d_X7_moving_0 : decode mX7_moving.2.1 0 = .ok (.aload_n 0, 1) := by decide +kernel
theorem d_X7_moving_1 : decode mX7_moving.2.1 1 = .ok (.iload_n 1, 1) := by decide +kernel
theorem d_X7_moving_2 : decode mX7_moving.2.1 2 = .ok (.invokevirtual 179, 3) := by decide +kernel
theorem d_X7_moving_5 : decode mX7_moving.2.1 5 = .ok (.ifCond .ne 5, 3) := by decide +kernel
theorem d_X7_moving_8 : decode mX7_moving.2.1 8 = .ok (.iconst 1, 1) := by decide +kernel
theorem d_X7_moving_9 : decode mX7_moving.2.1 9 = .ok (.ireturn, 1) := by decide +kernel
theorem d_X7_moving_10 : decode mX7_moving.2.1 10 = .ok (.iload_n 2, 1) := by decide +kernel
theorem d_X7_moving_11 : decode mX7_moving.2.1 11 = .ok (.iconst 0, 1) := by decide +kernel
theorem d_X7_moving_12 : decode mX7_moving.2.1 12 = .ok (.iconst 3, 1) := by decide +kernel
theorem d_X7_moving_13 : decode mX7_moving.2.1 13 = .ok (.invokestatic 41, 3) := by decide +kernel
theorem d_X7_moving_16 : decode mX7_moving.2.1 16 = .ok (.ifCond .ne 5, 3) := by decide +kernel
theorem d_X7_moving_19 : decode mX7_moving.2.1 19 = .ok (.iconst 2, 1) := by decide +kernel
theorem d_X7_moving_20 : decode mX7_moving.2.1 20 = .ok (.ireturn, 1) := by decide +kernel
theorem d_X7_moving_21 : decode mX7_moving.2.1 21 = .ok (.aload_n 0, 1) := by decide +kernel
theorem d_X7_moving_22 : decode mX7_moving.2.1 22 = .ok (.iconst 0, 1) := by decide +kernel
theorem d_X7_moving_23 : decode mX7_moving.2.1 23 = .ok (.putfield 56, 3) := by decide +kernel
theorem d_X7_moving_26 : decode mX7_moving.2.1 26 = .ok (.aload_n 0, 1) := by decide +kernel
theorem d_X7_moving_27 : decode mX7_moving.2.1 27 = .ok (.getfield 7, 3) := by decide +kernel
theorem d_X7_moving_30 : decode mX7_moving.2.1 30 = .ok (.bipush 12, 2) := by decide +kernel
theorem d_X7_moving_32 : decode mX7_moving.2.1 32 = .ok (.iload_n 1, 1) := by decide +kernel
theorem d_X7_moving_33 : decode mX7_moving.2.1 33 = .ok (.iadd, 1) := by decide +kernel
theorem d_X7_moving_34 : decode mX7_moving.2.1 34 = .ok (.iload_n 2, 1) := by decide +kernel
theorem d_X7_moving_35 : decode mX7_moving.2.1 35 = .ok (.iastore, 1) := by decide +kernel
theorem d_X7_moving_36 : decode mX7_moving.2.1 36 = .ok (.aload_n 0, 1) := by decide +kernel
theorem d_X7_moving_37 : decode mX7_moving.2.1 37 = .ok (.iload_n 1, 1) := by decide +kernel
theorem d_X7_moving_38 : decode mX7_moving.2.1 38 = .ok (.iconst (-1), 1) := by decide +kernel
theorem d_X7_moving_39 : decode mX7_moving.2.1 39 = .ok (.invokevirtual 172, 3) := by decide +kernel
theorem d_X7_moving_42 : decode mX7_moving.2.1 42 = .ok (.iconst 0, 1) := by decide +kernel
theorem d_X7_moving_43 : decode mX7_moving.2.1 43 = .ok (.ireturn, 1) := by decide +kernel
def T_X7_moving (Q : Int32 → Mem → Prop) (v0 : Nat) (v1 : Int32) (v2 : Int32) (M : Mem) : Prop := (kd v0 = 7) ∧ T_X7_isInmate (fun y3 M2 => if y3 = 0 then (Q 1 M2) else (T_X7_in (fun y5 M4 => if y5 = 0 then (Q 2 M4) else (∀ M6 : Mem, M6 = mset M4 v0 12 0 → (kd (rf v0 1) = 9) ∧ (vp_in (12 + v1) (ln (rf v0 1))) ∧ ∀ M9 : Mem, M9 = mset M6 (rf v0 1) (Int32.toNatClampNeg (12 + v1)) v2 → T_X7_rehouses (fun M10 => Q 0 M10)  v0 v1 (-1) M9))  v2 0 3 M2))  v0 v1 M
set_option maxRecDepth 100000 in
set_option maxHeartbeats 4000000 in
theorem c_X7_moving {g : GG} (v0 : Nat) (v1 : Int32) (v2 : Int32) (M : Mem) (Q : Int32 → Mem → Prop) (h : T_X7_moving Q v0 v1 v2 M) : CT g 16 mX7_moving [.ref (g.1 + v0), .int v1, .int v2] M 0 (oI Q noX) := by
  refine CT_of (L := [some (.ref (g.1 + v0)), some (.int v1), some (.int v2)]) (by decide) rfl (Nat.le_of_ble_eq_true rfl) (ro_I rfl) rfl ?_
  unfold T_X7_moving at h
  refine R_aload_n (pc := 0) d_X7_moving_0 rfl rfl ?_
  refine R_iload_n (pc := 1) d_X7_moving_1 rfl rfl ?_
  obtain ⟨k1, h⟩ := h
  refine R_callV (pc := 2) (As := [.int v1]) (rest := []) (c_X7_isInmate (g := g) v0 v1 M _ h) rfl rfl cal_RX7_179 ins_X7_isInmate sel_X7_isInmate (cls_at k1 clsOK7) (by decide) (by decide) rfl rfl (Nat.le_of_ble_eq_true rfl) d_X7_moving_2 (k_Z (fun y3 M2 h => ?_)) (fun _ _ h9 => False.elim h9)
  try dsimp only at h
  refine R_if_ne (pc := 5) (tgt := 10) d_X7_moving_5 (by decide) (fun c => ?_) (fun c => ?_)
  · rw [if_neg c] at h
    refine R_iload_n (pc := 10) d_X7_moving_10 rfl rfl ?_
    refine R_iconst (pc := 11) (v := 0) d_X7_moving_11 (by decide) ?_
    refine R_iconst (pc := 12) (v := 3) d_X7_moving_12 (by decide) ?_
    refine R_callS (pc := 13) (As := [.int v2, .int 0, .int 3]) (rest := []) (c_X7_in (g := g) v2 0 3 M2 _ h) rfl rfl cal_RX7_41 sta_X7_in (by decide) (by decide) rfl rfl (Nat.le_of_ble_eq_true rfl) d_X7_moving_13 (k_Z (fun y5 M4 h => ?_)) (fun _ _ h9 => False.elim h9)
    try dsimp only at h
    refine R_if_ne (pc := 16) (tgt := 21) d_X7_moving_16 (by decide) (fun c => ?_) (fun c => ?_)
    · rw [if_neg c] at h
      refine R_aload_n (pc := 21) d_X7_moving_21 rfl rfl ?_
      refine R_iconst (pc := 22) (v := 0) d_X7_moving_22 (by decide) ?_
      refine R_putI (pc := 23) fld_RX7_56 rfl rfl rfl k1 rfl rfl d_X7_moving_23 (N_M (fun M6 eM6 => ?_))
      have h := h M6 eM6
      refine R_aload_n (pc := 26) d_X7_moving_26 rfl rfl ?_
      refine R_getR (pc := 27) fld_RX7_7 rfl rfl k1 d_X7_moving_27 ?_
      refine R_bipush (pc := 30) (v := 12) d_X7_moving_30 (by decide) ?_
      refine R_iload_n (pc := 32) d_X7_moving_32 rfl rfl ?_
      refine R_iadd (pc := 33) d_X7_moving_33 ?_
      refine R_iload_n (pc := 34) d_X7_moving_34 rfl rfl ?_
      obtain ⟨k7, h⟩ := h
      obtain ⟨k8, h⟩ := h
      refine R_iast (pc := 35) k7 k8 d_X7_moving_35 (N_M (fun M9 eM9 => ?_))
      have h := h M9 eM9
      refine R_aload_n (pc := 36) d_X7_moving_36 rfl rfl ?_
      refine R_iload_n (pc := 37) d_X7_moving_37 rfl rfl ?_
      refine R_iconst (pc := 38) (v := (-1)) d_X7_moving_38 (by decide) ?_
      refine R_callV (pc := 39) (As := [.int v1, .int (-1)]) (rest := []) (c_X7_rehouses (g := g) v0 v1 (-1) M9 _ h) rfl rfl cal_RX7_172 ins_X7_rehouses sel_X7_rehouses (cls_at k1 clsOK7) (by decide) (by decide) rfl rfl (Nat.le_of_ble_eq_true rfl) d_X7_moving_39 (k_V (fun M10 h => ?_)) (fun _ _ h9 => False.elim h9)
      try dsimp only at h
      refine R_iconst (pc := 42) (v := 0) d_X7_moving_42 (by decide) ?_
      exact R_retv (pc := 43) d_X7_moving_43 h
    · rw [if_pos c] at h
      refine R_iconst (pc := 19) (v := 2) d_X7_moving_19 (by decide) ?_
      exact R_retv (pc := 20) d_X7_moving_20 h
  · rw [if_pos c] at h
    refine R_iconst (pc := 8) (v := 1) d_X7_moving_8 (by decide) ?_
    exact R_retv (pc := 9) d_X7_moving_9 h
/-! X7_move -/
theorem d_X7_move_0 : decode mX7_move.2.1 0 = .ok (.aload_n 0, 1) := by decide +kernel
theorem d_X7_move_1 : decode mX7_move.2.1 1 = .ok (.invokevirtual 160, 3) := by decide +kernel
theorem d_X7_move_4 : decode mX7_move.2.1 4 = .ok (.aload_n 0, 1) := by decide +kernel
theorem d_X7_move_5 : decode mX7_move.2.1 5 = .ok (.aload_n 0, 1) := by decide +kernel
theorem d_X7_move_6 : decode mX7_move.2.1 6 = .ok (.iload_n 1, 1) := by decide +kernel
theorem d_X7_move_7 : decode mX7_move.2.1 7 = .ok (.iload_n 2, 1) := by decide +kernel
theorem d_X7_move_8 : decode mX7_move.2.1 8 = .ok (.invokevirtual 185, 3) := by decide +kernel
theorem d_X7_move_11 : decode mX7_move.2.1 11 = .ok (.putfield 37, 3) := by decide +kernel
theorem d_X7_move_14 : decode mX7_move.2.1 14 = .ok (.aload_n 0, 1) := by decide +kernel
theorem d_X7_move_15 : decode mX7_move.2.1 15 = .ok (.getfield 37, 3) := by decide +kernel
theorem d_X7_move_18 : decode mX7_move.2.1 18 = .ok (.ifCond .le 5, 3) := by decide +kernel
theorem d_X7_move_21 : decode mX7_move.2.1 21 = .ok (.iconst 0, 1) := by decide +kernel
theorem d_X7_move_22 : decode mX7_move.2.1 22 = .ok (.ireturn, 1) := by decide +kernel
theorem d_X7_move_23 : decode mX7_move.2.1 23 = .ok (.aload_n 0, 1) := by decide +kernel
theorem d_X7_move_24 : decode mX7_move.2.1 24 = .ok (.invokevirtual 166, 3) := by decide +kernel
theorem d_X7_move_27 : decode mX7_move.2.1 27 = .ok (.aload_n 0, 1) := by decide +kernel
theorem d_X7_move_28 : decode mX7_move.2.1 28 = .ok (.getfield 56, 3) := by decide +kernel
theorem d_X7_move_31 : decode mX7_move.2.1 31 = .ok (.ireturn, 1) := by decide +kernel
def T_X7_move (Q : Int32 → Mem → Prop) (v0 : Nat) (v1 : Int32) (v2 : Int32) (M : Mem) : Prop := (kd v0 = 7) ∧ T_X7_remembers (fun M2 => T_X7_moving (fun y4 M3 => ∀ M5 : Mem, M5 = mset M3 v0 0 y4 → if (M5.1 v0 0) ≤ 0 then (T_X7_keeps (fun M6 => Q (M6.1 v0 12) M6)  v0 M5) else (Q 0 M5))  v0 v1 v2 M2)  v0 M
set_option maxRecDepth 100000 in
set_option maxHeartbeats 4000000 in
theorem c_X7_move {g : GG} (v0 : Nat) (v1 : Int32) (v2 : Int32) (M : Mem) (Q : Int32 → Mem → Prop) (h : T_X7_move Q v0 v1 v2 M) : CT g 17 mX7_move [.ref (g.1 + v0), .int v1, .int v2] M 0 (oI Q noX) := by
  refine CT_of (L := [some (.ref (g.1 + v0)), some (.int v1), some (.int v2)]) (by decide) rfl (Nat.le_of_ble_eq_true rfl) (ro_I rfl) rfl ?_
  unfold T_X7_move at h
  refine R_aload_n (pc := 0) d_X7_move_0 rfl rfl ?_
  obtain ⟨k1, h⟩ := h
  refine R_callV (pc := 1) (As := []) (rest := []) (c_X7_remembers (g := g) v0 M _ h) rfl rfl cal_RX7_160 ins_X7_remembers sel_X7_remembers (cls_at k1 clsOK7) (by decide) (by decide) rfl rfl (Nat.le_of_ble_eq_true rfl) d_X7_move_1 (k_V (fun M2 h => ?_)) (fun _ _ h9 => False.elim h9)
  try dsimp only at h
  refine R_aload_n (pc := 4) d_X7_move_4 rfl rfl ?_
  refine R_aload_n (pc := 5) d_X7_move_5 rfl rfl ?_
  refine R_iload_n (pc := 6) d_X7_move_6 rfl rfl ?_
  refine R_iload_n (pc := 7) d_X7_move_7 rfl rfl ?_
  refine R_callV (pc := 8) (As := [.int v1, .int v2]) (rest := [.ref (g.1 + v0)]) (c_X7_moving (g := g) v0 v1 v2 M2 _ h) rfl rfl cal_RX7_185 ins_X7_moving sel_X7_moving (cls_at k1 clsOK7) (by decide) (by decide) rfl rfl (Nat.le_of_ble_eq_true rfl) d_X7_move_8 (k_I (fun y4 M3 h => ?_)) (fun _ _ h9 => False.elim h9)
  try dsimp only at h
  refine R_putI (pc := 11) fld_RX7_37 rfl rfl rfl k1 rfl rfl d_X7_move_11 (N_M (fun M5 eM5 => ?_))
  have h := h M5 eM5
  refine R_aload_n (pc := 14) d_X7_move_14 rfl rfl ?_
  refine R_getI (pc := 15) fld_RX7_37 rfl rfl k1 d_X7_move_15 ?_
  refine R_if_le (pc := 18) (tgt := 23) d_X7_move_18 (by decide) (fun c => ?_) (fun c => ?_)
  · rw [if_pos c] at h
    refine R_aload_n (pc := 23) d_X7_move_23 rfl rfl ?_
    refine R_callV (pc := 24) (As := []) (rest := []) (c_X7_keeps (g := g) v0 M5 _ h) rfl rfl cal_RX7_166 ins_X7_keeps sel_X7_keeps (cls_at k1 clsOK7) (by decide) (by decide) rfl rfl (Nat.le_of_ble_eq_true rfl) d_X7_move_24 (k_V (fun M6 h => ?_)) (fun _ _ h9 => False.elim h9)
    try dsimp only at h
    refine R_aload_n (pc := 27) d_X7_move_27 rfl rfl ?_
    refine R_getI (pc := 28) fld_RX7_56 rfl rfl k1 d_X7_move_28 ?_
    exact R_retv (pc := 31) d_X7_move_31 h
  · rw [if_neg c] at h
    refine R_iconst (pc := 21) (v := 0) d_X7_move_21 (by decide) ?_
    exact R_retv (pc := 22) d_X7_move_22 h
/-! X7_confine -/
theorem d_X7_confine_0 : decode mX7_confine.2.1 0 = .ok (.aload_n 0, 1) := by decide +kernel
theorem d_X7_confine_1 : decode mX7_confine.2.1 1 = .ok (.iconst 0, 1) := by decide +kernel
theorem d_X7_confine_2 : decode mX7_confine.2.1 2 = .ok (.putfield 37, 3) := by decide +kernel
theorem d_X7_confine_5 : decode mX7_confine.2.1 5 = .ok (.aload_n 0, 1) := by decide +kernel
theorem d_X7_confine_6 : decode mX7_confine.2.1 6 = .ok (.invokevirtual 160, 3) := by decide +kernel
theorem d_X7_confine_9 : decode mX7_confine.2.1 9 = .ok (.aload_n 0, 1) := by decide +kernel
theorem d_X7_confine_10 : decode mX7_confine.2.1 10 = .ok (.iload_n 1, 1) := by decide +kernel
theorem d_X7_confine_11 : decode mX7_confine.2.1 11 = .ok (.invokevirtual 179, 3) := by decide +kernel
theorem d_X7_confine_14 : decode mX7_confine.2.1 14 = .ok (.ifCond .ne 9, 3) := by decide +kernel
theorem d_X7_confine_17 : decode mX7_confine.2.1 17 = .ok (.aload_n 0, 1) := by decide +kernel
theorem d_X7_confine_18 : decode mX7_confine.2.1 18 = .ok (.iconst 1, 1) := by decide +kernel
theorem d_X7_confine_19 : decode mX7_confine.2.1 19 = .ok (.invokevirtual 163, 3) := by decide +kernel
theorem d_X7_confine_22 : decode mX7_confine.2.1 22 = .ok (.ireturn, 1) := by decide +kernel
theorem d_X7_confine_23 : decode mX7_confine.2.1 23 = .ok (.aload_n 0, 1) := by decide +kernel
theorem d_X7_confine_24 : decode mX7_confine.2.1 24 = .ok (.iconst 0, 1) := by decide +kernel
theorem d_X7_confine_25 : decode mX7_confine.2.1 25 = .ok (.putfield 56, 3) := by decide +kernel
theorem d_X7_confine_28 : decode mX7_confine.2.1 28 = .ok (.aload_n 0, 1) := by decide +kernel
theorem d_X7_confine_29 : decode mX7_confine.2.1 29 = .ok (.getfield 7, 3) := by decide +kernel
theorem d_X7_confine_32 : decode mX7_confine.2.1 32 = .ok (.bipush 32, 2) := by decide +kernel
theorem d_X7_confine_34 : decode mX7_confine.2.1 34 = .ok (.iload_n 1, 1) := by decide +kernel
theorem d_X7_confine_35 : decode mX7_confine.2.1 35 = .ok (.iadd, 1) := by decide +kernel
theorem d_X7_confine_36 : decode mX7_confine.2.1 36 = .ok (.iload_n 2, 1) := by decide +kernel
theorem d_X7_confine_37 : decode mX7_confine.2.1 37 = .ok (.ifCond .eq 7, 3) := by decide +kernel
theorem d_X7_confine_40 : decode mX7_confine.2.1 40 = .ok (.iconst 1, 1) := by decide +kernel
theorem d_X7_confine_41 : decode mX7_confine.2.1 41 = .ok (.goto 4, 3) := by decide +kernel
theorem d_X7_confine_44 : decode mX7_confine.2.1 44 = .ok (.iconst 0, 1) := by decide +kernel
theorem d_X7_confine_45 : decode mX7_confine.2.1 45 = .ok (.iastore, 1) := by decide +kernel
theorem d_X7_confine_46 : decode mX7_confine.2.1 46 = .ok (.iload_n 2, 1) := by decide +kernel
theorem d_X7_confine_47 : decode mX7_confine.2.1 47 = .ok (.ifCond .eq 9, 3) := by decide +kernel
theorem d_X7_confine_50 : decode mX7_confine.2.1 50 = .ok (.aload_n 0, 1) := by decide +kernel
theorem d_X7_confine_51 : decode mX7_confine.2.1 51 = .ok (.iload_n 1, 1) := by decide +kernel
theorem d_X7_confine_52 : decode mX7_confine.2.1 52 = .ok (.iconst (-1), 1) := by decide +kernel
theorem d_X7_confine_53 : decode mX7_confine.2.1 53 = .ok (.invokevirtual 172, 3) := by decide +kernel
theorem d_X7_confine_56 : decode mX7_confine.2.1 56 = .ok (.aload_n 0, 1) := by decide +kernel
theorem d_X7_confine_57 : decode mX7_confine.2.1 57 = .ok (.invokevirtual 166, 3) := by decide +kernel
theorem d_X7_confine_60 : decode mX7_confine.2.1 60 = .ok (.aload_n 0, 1) := by decide +kernel
theorem d_X7_confine_61 : decode mX7_confine.2.1 61 = .ok (.getfield 56, 3) := by decide +kernel
theorem d_X7_confine_64 : decode mX7_confine.2.1 64 = .ok (.ireturn, 1) := by decide +kernel
def T_X7_confine_56 (Q : Int32 → Mem → Prop) (v0 : Nat) (M : Mem) : Prop := (kd v0 = 7) ∧ T_X7_keeps (fun M2 => Q (M2.1 v0 12) M2)  v0 M
set_option maxRecDepth 100000 in
set_option maxHeartbeats 4000000 in
theorem B_X7_confine_56 {g : GG} (Q : Int32 → Mem → Prop) (v0 : Nat) (M : Mem) (h : T_X7_confine_56 Q v0 M) : WP g 16 mX7_confine 56 [some (.ref (g.1 + v0)), none, none] [] M 0 (oI Q noX) := by
  unfold T_X7_confine_56 at h
  refine R_aload_n (pc := 56) d_X7_confine_56 rfl rfl ?_
  obtain ⟨k1, h⟩ := h
  refine R_callV (pc := 57) (As := []) (rest := []) (c_X7_keeps (g := g) v0 M _ h) rfl rfl cal_RX7_166 ins_X7_keeps sel_X7_keeps (cls_at k1 clsOK7) (by decide) (by decide) rfl rfl (Nat.le_of_ble_eq_true rfl) d_X7_confine_57 (k_V (fun M2 h => ?_)) (fun _ _ h9 => False.elim h9)
  try dsimp only at h
  refine R_aload_n (pc := 60) d_X7_confine_60 rfl rfl ?_
  refine R_getI (pc := 61) fld_RX7_56 rfl rfl k1 d_X7_confine_61 ?_
  exact R_retv (pc := 64) d_X7_confine_64 h
def T_X7_confine_45 (Q : Int32 → Mem → Prop) (v0 : Nat) (v1 : Int32) (v2 : Int32) (s0 : Int32) (s1 : Int32) (s2 : Nat) (M : Mem) : Prop := (kd s2 = 9) ∧ (vp_in s1 (ln s2)) ∧ ∀ M3 : Mem, M3 = mset M s2 (Int32.toNatClampNeg s1) s0 → if v2 = 0 then (T_X7_confine_56 Q v0 M3) else ((kd v0 = 7) ∧ T_X7_rehouses (fun M5 => T_X7_confine_56 Q v0 M5)  v0 v1 (-1) M3)
set_option maxRecDepth 100000 in
set_option maxHeartbeats 4000000 in
theorem B_X7_confine_45 {g : GG} (Q : Int32 → Mem → Prop) (v0 : Nat) (v1 : Int32) (v2 : Int32) (s0 : Int32) (s1 : Int32) (s2 : Nat) (M : Mem) (h : T_X7_confine_45 Q v0 v1 v2 s0 s1 s2 M) : WP g 16 mX7_confine 45 [some (.ref (g.1 + v0)), some (.int v1), some (.int v2)] [.int s0, .int s1, .ref (g.1 + s2)] M 0 (oI Q noX) := by
  unfold T_X7_confine_45 at h
  obtain ⟨k1, h⟩ := h
  obtain ⟨k2, h⟩ := h
  refine R_iast (pc := 45) k1 k2 d_X7_confine_45 (N_M (fun M3 eM3 => ?_))
  have h := h M3 eM3
  refine R_iload_n (pc := 46) d_X7_confine_46 rfl rfl ?_
  refine R_if_eq (pc := 47) (tgt := 56) d_X7_confine_47 (by decide) (fun c => ?_) (fun c => ?_)
  · rw [if_pos c] at h
    exact WP_sub (B_X7_confine_56 Q v0 M3 h) (by decide) (ls_s (ls_n (ls_n ls_0)))
  · rw [if_neg c] at h
    refine R_aload_n (pc := 50) d_X7_confine_50 rfl rfl ?_
    refine R_iload_n (pc := 51) d_X7_confine_51 rfl rfl ?_
    refine R_iconst (pc := 52) (v := (-1)) d_X7_confine_52 (by decide) ?_
    obtain ⟨k4, h⟩ := h
    refine R_callV (pc := 53) (As := [.int v1, .int (-1)]) (rest := []) (c_X7_rehouses (g := g) v0 v1 (-1) M3 _ h) rfl rfl cal_RX7_172 ins_X7_rehouses sel_X7_rehouses (cls_at k4 clsOK7) (by decide) (by decide) rfl rfl (Nat.le_of_ble_eq_true rfl) d_X7_confine_53 (k_V (fun M5 h => ?_)) (fun _ _ h9 => False.elim h9)
    try dsimp only at h
    exact WP_sub (B_X7_confine_56 Q v0 M5 h) (by decide) (ls_s (ls_n (ls_n ls_0)))
def T_X7_confine (Q : Int32 → Mem → Prop) (v0 : Nat) (v1 : Int32) (v2 : Int32) (M : Mem) : Prop := (kd v0 = 7) ∧ ∀ M2 : Mem, M2 = mset M v0 0 0 → T_X7_remembers (fun M3 => T_X7_isInmate (fun y5 M4 => if y5 = 0 then (T_X7_fails (fun y8 M7 => Q y8 M7)  v0 1 M4) else (∀ M6 : Mem, M6 = mset M4 v0 12 0 → if v2 = 0 then (T_X7_confine_45 Q v0 v1 v2 0 (32 + v1) (rf v0 1) M6) else (T_X7_confine_45 Q v0 v1 v2 1 (32 + v1) (rf v0 1) M6)))  v0 v1 M3)  v0 M2
set_option maxRecDepth 100000 in
set_option maxHeartbeats 4000000 in
theorem c_X7_confine {g : GG} (v0 : Nat) (v1 : Int32) (v2 : Int32) (M : Mem) (Q : Int32 → Mem → Prop) (h : T_X7_confine Q v0 v1 v2 M) : CT g 16 mX7_confine [.ref (g.1 + v0), .int v1, .int v2] M 0 (oI Q noX) := by
  refine CT_of (L := [some (.ref (g.1 + v0)), some (.int v1), some (.int v2)]) (by decide) rfl (Nat.le_of_ble_eq_true rfl) (ro_I rfl) rfl ?_
  unfold T_X7_confine at h
  refine R_aload_n (pc := 0) d_X7_confine_0 rfl rfl ?_
  refine R_iconst (pc := 1) (v := 0) d_X7_confine_1 (by decide) ?_
  obtain ⟨k1, h⟩ := h
  refine R_putI (pc := 2) fld_RX7_37 rfl rfl rfl k1 rfl rfl d_X7_confine_2 (N_M (fun M2 eM2 => ?_))
  have h := h M2 eM2
  refine R_aload_n (pc := 5) d_X7_confine_5 rfl rfl ?_
  refine R_callV (pc := 6) (As := []) (rest := []) (c_X7_remembers (g := g) v0 M2 _ h) rfl rfl cal_RX7_160 ins_X7_remembers sel_X7_remembers (cls_at k1 clsOK7) (by decide) (by decide) rfl rfl (Nat.le_of_ble_eq_true rfl) d_X7_confine_6 (k_V (fun M3 h => ?_)) (fun _ _ h9 => False.elim h9)
  try dsimp only at h
  refine R_aload_n (pc := 9) d_X7_confine_9 rfl rfl ?_
  refine R_iload_n (pc := 10) d_X7_confine_10 rfl rfl ?_
  refine R_callV (pc := 11) (As := [.int v1]) (rest := []) (c_X7_isInmate (g := g) v0 v1 M3 _ h) rfl rfl cal_RX7_179 ins_X7_isInmate sel_X7_isInmate (cls_at k1 clsOK7) (by decide) (by decide) rfl rfl (Nat.le_of_ble_eq_true rfl) d_X7_confine_11 (k_Z (fun y5 M4 h => ?_)) (fun _ _ h9 => False.elim h9)
  try dsimp only at h
  refine R_if_ne (pc := 14) (tgt := 23) d_X7_confine_14 (by decide) (fun c => ?_) (fun c => ?_)
  · rw [if_neg c] at h
    refine R_aload_n (pc := 23) d_X7_confine_23 rfl rfl ?_
    refine R_iconst (pc := 24) (v := 0) d_X7_confine_24 (by decide) ?_
    refine R_putI (pc := 25) fld_RX7_56 rfl rfl rfl k1 rfl rfl d_X7_confine_25 (N_M (fun M6 eM6 => ?_))
    have h := h M6 eM6
    refine R_aload_n (pc := 28) d_X7_confine_28 rfl rfl ?_
    refine R_getR (pc := 29) fld_RX7_7 rfl rfl k1 d_X7_confine_29 ?_
    refine R_bipush (pc := 32) (v := 32) d_X7_confine_32 (by decide) ?_
    refine R_iload_n (pc := 34) d_X7_confine_34 rfl rfl ?_
    refine R_iadd (pc := 35) d_X7_confine_35 ?_
    refine R_iload_n (pc := 36) d_X7_confine_36 rfl rfl ?_
    refine R_if_eq (pc := 37) (tgt := 44) d_X7_confine_37 (by decide) (fun c => ?_) (fun c => ?_)
    · rw [if_pos c] at h
      refine R_iconst (pc := 44) (v := 0) d_X7_confine_44 (by decide) ?_
      exact WP_sub (B_X7_confine_45 Q v0 v1 v2 0 (32 + v1) (rf v0 1) M6 h) (by decide) (ls_s (ls_s (ls_s ls_0)))
    · rw [if_neg c] at h
      refine R_iconst (pc := 40) (v := 1) d_X7_confine_40 (by decide) ?_
      refine R_goto (pc := 41) (tgt := 45) d_X7_confine_41 (by decide) ?_
      exact WP_sub (B_X7_confine_45 Q v0 v1 v2 1 (32 + v1) (rf v0 1) M6 h) (by decide) (ls_s (ls_s (ls_s ls_0)))
  · rw [if_pos c] at h
    refine R_aload_n (pc := 17) d_X7_confine_17 rfl rfl ?_
    refine R_iconst (pc := 18) (v := 1) d_X7_confine_18 (by decide) ?_
    refine R_callV (pc := 19) (As := [.int 1]) (rest := []) (c_X7_fails (g := g) v0 1 M4 _ h) rfl rfl cal_RX7_163 ins_X7_fails sel_X7_fails (cls_at k1 clsOK7) (by decide) (by decide) rfl rfl (Nat.le_of_ble_eq_true rfl) d_X7_confine_19 (k_I (fun y8 M7 h => ?_)) (fun _ _ h9 => False.elim h9)
    try dsimp only at h
    exact R_retv (pc := 22) d_X7_confine_22 h
/-! X7_set -/
theorem d_X7_set_0 : decode mX7_set.2.1 0 = .ok (.aload_n 0, 1) := by decide +kernel
theorem d_X7_set_1 : decode mX7_set.2.1 1 = .ok (.iconst 0, 1) := by decide +kernel
theorem d_X7_set_2 : decode mX7_set.2.1 2 = .ok (.putfield 37, 3) := by decide +kernel
theorem d_X7_set_5 : decode mX7_set.2.1 5 = .ok (.aload_n 0, 1) := by decide +kernel
theorem d_X7_set_6 : decode mX7_set.2.1 6 = .ok (.invokevirtual 160, 3) := by decide +kernel
theorem d_X7_set_9 : decode mX7_set.2.1 9 = .ok (.iload_n 1, 1) := by decide +kernel
theorem d_X7_set_10 : decode mX7_set.2.1 10 = .ok (.iconst 0, 1) := by decide +kernel
theorem d_X7_set_11 : decode mX7_set.2.1 11 = .ok (.iconst 3, 1) := by decide +kernel
theorem d_X7_set_12 : decode mX7_set.2.1 12 = .ok (.invokestatic 41, 3) := by decide +kernel
theorem d_X7_set_15 : decode mX7_set.2.1 15 = .ok (.ifCond .ne 9, 3) := by decide +kernel
theorem d_X7_set_18 : decode mX7_set.2.1 18 = .ok (.aload_n 0, 1) := by decide +kernel
theorem d_X7_set_19 : decode mX7_set.2.1 19 = .ok (.iconst 1, 1) := by decide +kernel
theorem d_X7_set_20 : decode mX7_set.2.1 20 = .ok (.invokevirtual 163, 3) := by decide +kernel
theorem d_X7_set_23 : decode mX7_set.2.1 23 = .ok (.ireturn, 1) := by decide +kernel
theorem d_X7_set_24 : decode mX7_set.2.1 24 = .ok (.iload_n 2, 1) := by decide +kernel
theorem d_X7_set_25 : decode mX7_set.2.1 25 = .ok (.iconst 0, 1) := by decide +kernel
theorem d_X7_set_26 : decode mX7_set.2.1 26 = .ok (.iload_n 1, 1) := by decide +kernel
theorem d_X7_set_27 : decode mX7_set.2.1 27 = .ok (.iconst 3, 1) := by decide +kernel
theorem d_X7_set_28 : decode mX7_set.2.1 28 = .ok (.if_icmp .ge 8, 3) := by decide +kernel
theorem d_X7_set_31 : decode mX7_set.2.1 31 = .ok (.bipush 9, 2) := by decide +kernel
theorem d_X7_set_33 : decode mX7_set.2.1 33 = .ok (.goto 5, 3) := by decide +kernel
theorem d_X7_set_36 : decode mX7_set.2.1 36 = .ok (.bipush 12, 2) := by decide +kernel
theorem d_X7_set_38 : decode mX7_set.2.1 38 = .ok (.invokestatic 41, 3) := by decide +kernel
theorem d_X7_set_41 : decode mX7_set.2.1 41 = .ok (.ifCond .eq 15, 3) := by decide +kernel
theorem d_X7_set_44 : decode mX7_set.2.1 44 = .ok (.aload_n 0, 1) := by decide +kernel
theorem d_X7_set_45 : decode mX7_set.2.1 45 = .ok (.bipush 8, 2) := by decide +kernel
theorem d_X7_set_47 : decode mX7_set.2.1 47 = .ok (.iload_n 1, 1) := by decide +kernel
theorem d_X7_set_48 : decode mX7_set.2.1 48 = .ok (.iadd, 1) := by decide +kernel
theorem d_X7_set_49 : decode mX7_set.2.1 49 = .ok (.iload_n 2, 1) := by decide +kernel
theorem d_X7_set_50 : decode mX7_set.2.1 50 = .ok (.invokevirtual 182, 3) := by decide +kernel
theorem d_X7_set_53 : decode mX7_set.2.1 53 = .ok (.goto 8, 3) := by decide +kernel
theorem d_X7_set_56 : decode mX7_set.2.1 56 = .ok (.aload_n 0, 1) := by decide +kernel
theorem d_X7_set_57 : decode mX7_set.2.1 57 = .ok (.iconst 2, 1) := by decide +kernel
theorem d_X7_set_58 : decode mX7_set.2.1 58 = .ok (.invokevirtual 163, 3) := by decide +kernel
theorem d_X7_set_61 : decode mX7_set.2.1 61 = .ok (.ireturn, 1) := by decide +kernel
def T_X7_set_61 (Q : Int32 → Mem → Prop) (s0 : Int32) (M : Mem) : Prop := Q s0 M
set_option maxRecDepth 100000 in
set_option maxHeartbeats 4000000 in
theorem B_X7_set_61 {g : GG} (Q : Int32 → Mem → Prop) (s0 : Int32) (M : Mem) (h : T_X7_set_61 Q s0 M) : WP g 11 mX7_set 61 [none, none, none] [.int s0] M 0 (oI Q noX) := by
  unfold T_X7_set_61 at h
  exact R_retv (pc := 61) d_X7_set_61 h
def T_X7_set_38 (Q : Int32 → Mem → Prop) (v0 : Nat) (v1 : Int32) (v2 : Int32) (s0 : Int32) (s1 : Int32) (s2 : Int32) (M : Mem) : Prop := T_X7_in (fun y2 M1 => if y2 = 0 then ((kd v0 = 7) ∧ T_X7_fails (fun y5 M4 => T_X7_set_61 Q y5 M4)  v0 2 M1) else ((kd v0 = 7) ∧ T_X7_changes (fun y8 M7 => T_X7_set_61 Q y8 M7)  v0 (8 + v1) v2 M1))  s2 s1 s0 M
set_option maxRecDepth 100000 in
set_option maxHeartbeats 4000000 in
theorem B_X7_set_38 {g : GG} (Q : Int32 → Mem → Prop) (v0 : Nat) (v1 : Int32) (v2 : Int32) (s0 : Int32) (s1 : Int32) (s2 : Int32) (M : Mem) (h : T_X7_set_38 Q v0 v1 v2 s0 s1 s2 M) : WP g 11 mX7_set 38 [some (.ref (g.1 + v0)), some (.int v1), some (.int v2)] [.int s0, .int s1, .int s2] M 0 (oI Q noX) := by
  unfold T_X7_set_38 at h
  refine R_callS (pc := 38) (As := [.int s2, .int s1, .int s0]) (rest := []) (c_X7_in (g := g) s2 s1 s0 M _ h) rfl rfl cal_RX7_41 sta_X7_in (by decide) (by decide) rfl rfl (Nat.le_of_ble_eq_true rfl) d_X7_set_38 (k_Z (fun y2 M1 h => ?_)) (fun _ _ h9 => False.elim h9)
  try dsimp only at h
  refine R_if_eq (pc := 41) (tgt := 56) d_X7_set_41 (by decide) (fun c => ?_) (fun c => ?_)
  · rw [if_pos c] at h
    refine R_aload_n (pc := 56) d_X7_set_56 rfl rfl ?_
    refine R_iconst (pc := 57) (v := 2) d_X7_set_57 (by decide) ?_
    obtain ⟨k3, h⟩ := h
    refine R_callV (pc := 58) (As := [.int 2]) (rest := []) (c_X7_fails (g := g) v0 2 M1 _ h) rfl rfl cal_RX7_163 ins_X7_fails sel_X7_fails (cls_at k3 clsOK7) (by decide) (by decide) rfl rfl (Nat.le_of_ble_eq_true rfl) d_X7_set_58 (k_I (fun y5 M4 h => ?_)) (fun _ _ h9 => False.elim h9)
    try dsimp only at h
    exact WP_sub (B_X7_set_61 Q y5 M4 h) (by decide) (ls_n (ls_n (ls_n ls_0)))
  · rw [if_neg c] at h
    refine R_aload_n (pc := 44) d_X7_set_44 rfl rfl ?_
    refine R_bipush (pc := 45) (v := 8) d_X7_set_45 (by decide) ?_
    refine R_iload_n (pc := 47) d_X7_set_47 rfl rfl ?_
    refine R_iadd (pc := 48) d_X7_set_48 ?_
    refine R_iload_n (pc := 49) d_X7_set_49 rfl rfl ?_
    obtain ⟨k6, h⟩ := h
    refine R_callV (pc := 50) (As := [.int (8 + v1), .int v2]) (rest := []) (c_X7_changes (g := g) v0 (8 + v1) v2 M1 _ h) rfl rfl cal_RX7_182 ins_X7_changes sel_X7_changes (cls_at k6 clsOK7) (by decide) (by decide) rfl rfl (Nat.le_of_ble_eq_true rfl) d_X7_set_50 (k_I (fun y8 M7 h => ?_)) (fun _ _ h9 => False.elim h9)
    try dsimp only at h
    refine R_goto (pc := 53) (tgt := 61) d_X7_set_53 (by decide) ?_
    exact WP_sub (B_X7_set_61 Q y8 M7 h) (by decide) (ls_n (ls_n (ls_n ls_0)))
def T_X7_set (Q : Int32 → Mem → Prop) (v0 : Nat) (v1 : Int32) (v2 : Int32) (M : Mem) : Prop := (kd v0 = 7) ∧ ∀ M2 : Mem, M2 = mset M v0 0 0 → T_X7_remembers (fun M3 => T_X7_in (fun y5 M4 => if y5 = 0 then (T_X7_fails (fun y7 M6 => Q y7 M6)  v0 1 M4) else (if (3 : Int32) ≤ v1 then (T_X7_set_38 Q v0 v1 v2 12 0 v2 M4) else (T_X7_set_38 Q v0 v1 v2 9 0 v2 M4)))  v1 0 3 M3)  v0 M2
set_option maxRecDepth 100000 in
set_option maxHeartbeats 4000000 in
theorem c_X7_set {g : GG} (v0 : Nat) (v1 : Int32) (v2 : Int32) (M : Mem) (Q : Int32 → Mem → Prop) (h : T_X7_set Q v0 v1 v2 M) : CT g 11 mX7_set [.ref (g.1 + v0), .int v1, .int v2] M 0 (oI Q noX) := by
  refine CT_of (L := [some (.ref (g.1 + v0)), some (.int v1), some (.int v2)]) (by decide) rfl (Nat.le_of_ble_eq_true rfl) (ro_I rfl) rfl ?_
  unfold T_X7_set at h
  refine R_aload_n (pc := 0) d_X7_set_0 rfl rfl ?_
  refine R_iconst (pc := 1) (v := 0) d_X7_set_1 (by decide) ?_
  obtain ⟨k1, h⟩ := h
  refine R_putI (pc := 2) fld_RX7_37 rfl rfl rfl k1 rfl rfl d_X7_set_2 (N_M (fun M2 eM2 => ?_))
  have h := h M2 eM2
  refine R_aload_n (pc := 5) d_X7_set_5 rfl rfl ?_
  refine R_callV (pc := 6) (As := []) (rest := []) (c_X7_remembers (g := g) v0 M2 _ h) rfl rfl cal_RX7_160 ins_X7_remembers sel_X7_remembers (cls_at k1 clsOK7) (by decide) (by decide) rfl rfl (Nat.le_of_ble_eq_true rfl) d_X7_set_6 (k_V (fun M3 h => ?_)) (fun _ _ h9 => False.elim h9)
  try dsimp only at h
  refine R_iload_n (pc := 9) d_X7_set_9 rfl rfl ?_
  refine R_iconst (pc := 10) (v := 0) d_X7_set_10 (by decide) ?_
  refine R_iconst (pc := 11) (v := 3) d_X7_set_11 (by decide) ?_
  refine R_callS (pc := 12) (As := [.int v1, .int 0, .int 3]) (rest := []) (c_X7_in (g := g) v1 0 3 M3 _ h) rfl rfl cal_RX7_41 sta_X7_in (by decide) (by decide) rfl rfl (Nat.le_of_ble_eq_true rfl) d_X7_set_12 (k_Z (fun y5 M4 h => ?_)) (fun _ _ h9 => False.elim h9)
  try dsimp only at h
  refine R_if_ne (pc := 15) (tgt := 24) d_X7_set_15 (by decide) (fun c => ?_) (fun c => ?_)
  · rw [if_neg c] at h
    refine R_iload_n (pc := 24) d_X7_set_24 rfl rfl ?_
    refine R_iconst (pc := 25) (v := 0) d_X7_set_25 (by decide) ?_
    refine R_iload_n (pc := 26) d_X7_set_26 rfl rfl ?_
    refine R_iconst (pc := 27) (v := 3) d_X7_set_27 (by decide) ?_
    refine R_icmp_ge (pc := 28) (tgt := 36) d_X7_set_28 (by decide) (fun c => ?_) (fun c => ?_)
    · rw [if_pos c] at h
      refine R_bipush (pc := 36) (v := 12) d_X7_set_36 (by decide) ?_
      exact WP_sub (B_X7_set_38 Q v0 v1 v2 12 0 v2 M4 h) (by decide) (ls_s (ls_s (ls_s ls_0)))
    · rw [if_neg c] at h
      refine R_bipush (pc := 31) (v := 9) d_X7_set_31 (by decide) ?_
      refine R_goto (pc := 33) (tgt := 38) d_X7_set_33 (by decide) ?_
      exact WP_sub (B_X7_set_38 Q v0 v1 v2 9 0 v2 M4 h) (by decide) (ls_s (ls_s (ls_s ls_0)))
  · rw [if_pos c] at h
    refine R_aload_n (pc := 18) d_X7_set_18 rfl rfl ?_
    refine R_iconst (pc := 19) (v := 1) d_X7_set_19 (by decide) ?_
    refine R_callV (pc := 20) (As := [.int 1]) (rest := []) (c_X7_fails (g := g) v0 1 M4 _ h) rfl rfl cal_RX7_163 ins_X7_fails sel_X7_fails (cls_at k1 clsOK7) (by decide) (by decide) rfl rfl (Nat.le_of_ble_eq_true rfl) d_X7_set_20 (k_I (fun y7 M6 h => ?_)) (fun _ _ h9 => False.elim h9)
    try dsimp only at h
    exact R_retv (pc := 23) d_X7_set_23 h
/-! X7_bookedOf -/
theorem d_X7_bookedOf_0 : decode mX7_bookedOf.2.1 0 = .ok (.iconst 0, 1) := by decide +kernel
theorem d_X7_bookedOf_1 : decode mX7_bookedOf.2.1 1 = .ok (.istore_n 3, 1) := by decide +kernel
theorem d_X7_bookedOf_2 : decode mX7_bookedOf.2.1 2 = .ok (.iconst 0, 1) := by decide +kernel
theorem d_X7_bookedOf_3 : decode mX7_bookedOf.2.1 3 = .ok (.istore 4, 2) := by decide +kernel
theorem d_X7_bookedOf_5 : decode mX7_bookedOf.2.1 5 = .ok (.iload 4, 2) := by decide +kernel
theorem d_X7_bookedOf_7 : decode mX7_bookedOf.2.1 7 = .ok (.aload_n 0, 1) := by decide +kernel
theorem d_X7_bookedOf_8 : decode mX7_bookedOf.2.1 8 = .ok (.getfield 7, 3) := by decide +kernel
theorem d_X7_bookedOf_11 : decode mX7_bookedOf.2.1 11 = .ok (.iconst 4, 1) := by decide +kernel
theorem d_X7_bookedOf_12 : decode mX7_bookedOf.2.1 12 = .ok (.iaload, 1) := by decide +kernel
theorem d_X7_bookedOf_13 : decode mX7_bookedOf.2.1 13 = .ok (.if_icmp .ge 56, 3) := by decide +kernel
theorem d_X7_bookedOf_16 : decode mX7_bookedOf.2.1 16 = .ok (.iload_n 3, 1) := by decide +kernel
theorem d_X7_bookedOf_17 : decode mX7_bookedOf.2.1 17 = .ok (.aload_n 0, 1) := by decide +kernel
theorem d_X7_bookedOf_18 : decode mX7_bookedOf.2.1 18 = .ok (.iload 4, 2) := by decide +kernel
theorem d_X7_bookedOf_20 : decode mX7_bookedOf.2.1 20 = .ok (.invokevirtual 49, 3) := by decide +kernel
theorem d_X7_bookedOf_23 : decode mX7_bookedOf.2.1 23 = .ok (.ifCond .eq 37, 3) := by decide +kernel
theorem d_X7_bookedOf_26 : decode mX7_bookedOf.2.1 26 = .ok (.iload_n 1, 1) := by decide +kernel
theorem d_X7_bookedOf_27 : decode mX7_bookedOf.2.1 27 = .ok (.iconst (-1), 1) := by decide +kernel
theorem d_X7_bookedOf_28 : decode mX7_bookedOf.2.1 28 = .ok (.if_icmp .ne 17, 3) := by decide +kernel
theorem d_X7_bookedOf_31 : decode mX7_bookedOf.2.1 31 = .ok (.aload_n 0, 1) := by decide +kernel
theorem d_X7_bookedOf_32 : decode mX7_bookedOf.2.1 32 = .ok (.iload 4, 2) := by decide +kernel
theorem d_X7_bookedOf_34 : decode mX7_bookedOf.2.1 34 = .ok (.iconst 4, 1) := by decide +kernel
theorem d_X7_bookedOf_35 : decode mX7_bookedOf.2.1 35 = .ok (.invokevirtual 45, 3) := by decide +kernel
theorem d_X7_bookedOf_38 : decode mX7_bookedOf.2.1 38 = .ok (.iload_n 2, 1) := by decide +kernel
theorem d_X7_bookedOf_39 : decode mX7_bookedOf.2.1 39 = .ok (.if_icmp .ne 21, 3) := by decide +kernel
theorem d_X7_bookedOf_42 : decode mX7_bookedOf.2.1 42 = .ok (.goto 14, 3) := by decide +kernel
theorem d_X7_bookedOf_45 : decode mX7_bookedOf.2.1 45 = .ok (.aload_n 0, 1) := by decide +kernel
theorem d_X7_bookedOf_46 : decode mX7_bookedOf.2.1 46 = .ok (.iload 4, 2) := by decide +kernel
theorem d_X7_bookedOf_48 : decode mX7_bookedOf.2.1 48 = .ok (.iconst 0, 1) := by decide +kernel
theorem d_X7_bookedOf_49 : decode mX7_bookedOf.2.1 49 = .ok (.invokevirtual 45, 3) := by decide +kernel
theorem d_X7_bookedOf_52 : decode mX7_bookedOf.2.1 52 = .ok (.iload_n 1, 1) := by decide +kernel
theorem d_X7_bookedOf_53 : decode mX7_bookedOf.2.1 53 = .ok (.if_icmp .ne 7, 3) := by decide +kernel
theorem d_X7_bookedOf_56 : decode mX7_bookedOf.2.1 56 = .ok (.iconst 1, 1) := by decide +kernel
theorem d_X7_bookedOf_57 : decode mX7_bookedOf.2.1 57 = .ok (.goto 4, 3) := by decide +kernel
theorem d_X7_bookedOf_60 : decode mX7_bookedOf.2.1 60 = .ok (.iconst 0, 1) := by decide +kernel
theorem d_X7_bookedOf_61 : decode mX7_bookedOf.2.1 61 = .ok (.iadd, 1) := by decide +kernel
theorem d_X7_bookedOf_62 : decode mX7_bookedOf.2.1 62 = .ok (.istore_n 3, 1) := by decide +kernel
theorem d_X7_bookedOf_63 : decode mX7_bookedOf.2.1 63 = .ok (.iinc 4 1, 3) := by decide +kernel
theorem d_X7_bookedOf_66 : decode mX7_bookedOf.2.1 66 = .ok (.goto (-61), 3) := by decide +kernel
theorem d_X7_bookedOf_69 : decode mX7_bookedOf.2.1 69 = .ok (.iload_n 3, 1) := by decide +kernel
theorem d_X7_bookedOf_70 : decode mX7_bookedOf.2.1 70 = .ok (.ireturn, 1) := by decide +kernel
def T_X7_bookedOf_61 (κ5 : Nat → Int32 → Int32 → Int32 → Int32 → Mem → Prop) (Q : Int32 → Mem → Prop) (v0 : Nat) (v1 : Int32) (v2 : Int32) (v4 : Int32) (s0 : Int32) (s1 : Int32) (M : Mem) : Prop := ∀ x1 : Int32, x1 = s1 + s0 → ∀ x2 : Int32, x2 = v4 + 1 → κ5 v0 v1 v2 x1 x2 M
set_option maxRecDepth 100000 in
set_option maxHeartbeats 4000000 in
theorem B_X7_bookedOf_61 {g : GG} (Q : Int32 → Mem → Prop) (κ5 : Nat → Int32 → Int32 → Int32 → Int32 → Mem → Prop) (hκ5 : ∀ (v0 : Nat) (v1 : Int32) (v2 : Int32) (v3 : Int32) (v4 : Int32) (M : Mem), κ5 v0 v1 v2 v3 v4 M → WP g 11 mX7_bookedOf 5 [some (.ref (g.1 + v0)), some (.int v1), some (.int v2), some (.int v3), some (.int v4)] [] M 0 (oI Q noX)) (v0 : Nat) (v1 : Int32) (v2 : Int32) (v4 : Int32) (s0 : Int32) (s1 : Int32) (M : Mem) (h : T_X7_bookedOf_61 κ5 Q v0 v1 v2 v4 s0 s1 M) : WP g 11 mX7_bookedOf 61 [some (.ref (g.1 + v0)), some (.int v1), some (.int v2), none, some (.int v4)] [.int s0, .int s1] M 0 (oI Q noX) := by
  unfold T_X7_bookedOf_61 at h
  refine R_iadd (pc := 61) d_X7_bookedOf_61 ?_
  refine N_i (fun x1 ex1 => ?_)
  have h := h x1 ex1
  refine R_istore_n (pc := 62) (L' := [some (.ref (g.1 + v0)), some (.int v1), some (.int v2), some (.int x1), some (.int v4)]) d_X7_bookedOf_62 rfl (by decide) rfl ?_
  obtain ⟨x2, ex2⟩ : ∃ z : Int32, z = v4 + 1 := ⟨_, rfl⟩
  have h := h x2 ex2
  refine R_iinc (pc := 63) (v := x2) (L' := [some (.ref (g.1 + v0)), some (.int v1), some (.int v2), some (.int x1), some (.int x2)]) d_X7_bookedOf_63 rfl (by rw [ex2]; rfl) (by decide) rfl ?_
  refine R_goto (pc := 66) (tgt := 5) d_X7_bookedOf_66 (by decide) ?_
  exact WP_sub (hκ5 v0 v1 v2 x1 x2 M h) (by decide) (ls_s (ls_s (ls_s (ls_s (ls_s ls_0)))))
def T_X7_bookedOf_60 (κ5 : Nat → Int32 → Int32 → Int32 → Int32 → Mem → Prop) (Q : Int32 → Mem → Prop) (v0 : Nat) (v1 : Int32) (v2 : Int32) (v4 : Int32) (s0 : Int32) (M : Mem) : Prop := T_X7_bookedOf_61 κ5 Q v0 v1 v2 v4 0 s0 M
set_option maxRecDepth 100000 in
set_option maxHeartbeats 4000000 in
theorem B_X7_bookedOf_60 {g : GG} (Q : Int32 → Mem → Prop) (κ5 : Nat → Int32 → Int32 → Int32 → Int32 → Mem → Prop) (hκ5 : ∀ (v0 : Nat) (v1 : Int32) (v2 : Int32) (v3 : Int32) (v4 : Int32) (M : Mem), κ5 v0 v1 v2 v3 v4 M → WP g 11 mX7_bookedOf 5 [some (.ref (g.1 + v0)), some (.int v1), some (.int v2), some (.int v3), some (.int v4)] [] M 0 (oI Q noX)) (v0 : Nat) (v1 : Int32) (v2 : Int32) (v4 : Int32) (s0 : Int32) (M : Mem) (h : T_X7_bookedOf_60 κ5 Q v0 v1 v2 v4 s0 M) : WP g 11 mX7_bookedOf 60 [some (.ref (g.1 + v0)), some (.int v1), some (.int v2), none, some (.int v4)] [.int s0] M 0 (oI Q noX) := by
  unfold T_X7_bookedOf_60 at h
  refine R_iconst (pc := 60) (v := 0) d_X7_bookedOf_60 (by decide) ?_
  exact WP_sub (B_X7_bookedOf_61 Q κ5 hκ5 v0 v1 v2 v4 0 s0 M h) (by decide) (ls_s (ls_s (ls_s (ls_n (ls_s ls_0)))))
def T_X7_bookedOf_56 (κ5 : Nat → Int32 → Int32 → Int32 → Int32 → Mem → Prop) (Q : Int32 → Mem → Prop) (v0 : Nat) (v1 : Int32) (v2 : Int32) (v4 : Int32) (s0 : Int32) (M : Mem) : Prop := T_X7_bookedOf_61 κ5 Q v0 v1 v2 v4 1 s0 M
set_option maxRecDepth 100000 in
set_option maxHeartbeats 4000000 in
theorem B_X7_bookedOf_56 {g : GG} (Q : Int32 → Mem → Prop) (κ5 : Nat → Int32 → Int32 → Int32 → Int32 → Mem → Prop) (hκ5 : ∀ (v0 : Nat) (v1 : Int32) (v2 : Int32) (v3 : Int32) (v4 : Int32) (M : Mem), κ5 v0 v1 v2 v3 v4 M → WP g 11 mX7_bookedOf 5 [some (.ref (g.1 + v0)), some (.int v1), some (.int v2), some (.int v3), some (.int v4)] [] M 0 (oI Q noX)) (v0 : Nat) (v1 : Int32) (v2 : Int32) (v4 : Int32) (s0 : Int32) (M : Mem) (h : T_X7_bookedOf_56 κ5 Q v0 v1 v2 v4 s0 M) : WP g 11 mX7_bookedOf 56 [some (.ref (g.1 + v0)), some (.int v1), some (.int v2), none, some (.int v4)] [.int s0] M 0 (oI Q noX) := by
  unfold T_X7_bookedOf_56 at h
  refine R_iconst (pc := 56) (v := 1) d_X7_bookedOf_56 (by decide) ?_
  refine R_goto (pc := 57) (tgt := 61) d_X7_bookedOf_57 (by decide) ?_
  exact WP_sub (B_X7_bookedOf_61 Q κ5 hκ5 v0 v1 v2 v4 1 s0 M h) (by decide) (ls_s (ls_s (ls_s (ls_n (ls_s ls_0)))))
def T_X7_bookedOf_5 (Q : Int32 → Mem → Prop) : Nat → Nat → Int32 → Int32 → Int32 → Int32 → Mem → Prop
  | 0, _, _, _, _, _, _ => False
  | n + 1, v0, v1, v2, v3, v4, M => (kd v0 = 7) ∧ (kd (rf v0 1) = 9) ∧ (vp_in 4 (ln (rf v0 1))) ∧ if (M.1 (rf v0 1) (Int32.toNatClampNeg 4)) ≤ v4 then (Q v3 M) else (T_X7_isBooked (fun y5 M4 => if y5 = 0 then (T_X7_bookedOf_60 (T_X7_bookedOf_5 Q n) Q v0 v1 v2 v4 v3 M4) else (if v1 = ((-1) : Int32) then (T_X7_of (fun y9 M8 => if y9 = v2 then (T_X7_bookedOf_56 (T_X7_bookedOf_5 Q n) Q v0 v1 v2 v4 v3 M8) else (T_X7_bookedOf_60 (T_X7_bookedOf_5 Q n) Q v0 v1 v2 v4 v3 M8))  v0 v4 4 M4) else (T_X7_of (fun y7 M6 => if y7 = v1 then (T_X7_bookedOf_56 (T_X7_bookedOf_5 Q n) Q v0 v1 v2 v4 v3 M6) else (T_X7_bookedOf_60 (T_X7_bookedOf_5 Q n) Q v0 v1 v2 v4 v3 M6))  v0 v4 0 M4)))  v0 v4 M)
set_option maxRecDepth 100000 in
set_option maxHeartbeats 4000000 in
theorem B_X7_bookedOf_5 {g : GG} (Q : Int32 → Mem → Prop) : ∀ (n : Nat) (v0 : Nat) (v1 : Int32) (v2 : Int32) (v3 : Int32) (v4 : Int32) (M : Mem), T_X7_bookedOf_5 Q n v0 v1 v2 v3 v4 M → WP g 11 mX7_bookedOf 5 [some (.ref (g.1 + v0)), some (.int v1), some (.int v2), some (.int v3), some (.int v4)] [] M 0 (oI Q noX) := by
  intro n
  induction n with
  | zero => intro v0 v1 v2 v3 v4 M h; exact h.elim
  | succ n hκ5 =>
    intro v0 v1 v2 v3 v4 M h
    unfold T_X7_bookedOf_5 at h
    refine R_iload (pc := 5) d_X7_bookedOf_5 rfl ?_
    refine R_aload_n (pc := 7) d_X7_bookedOf_7 rfl rfl ?_
    obtain ⟨k1, h⟩ := h
    refine R_getR (pc := 8) fld_RX7_7 rfl rfl k1 d_X7_bookedOf_8 ?_
    refine R_iconst (pc := 11) (v := 4) d_X7_bookedOf_11 (by decide) ?_
    obtain ⟨k2, h⟩ := h
    obtain ⟨k3, h⟩ := h
    refine R_iald (pc := 12) k2 k3 d_X7_bookedOf_12 ?_
    refine R_icmp_ge (pc := 13) (tgt := 69) d_X7_bookedOf_13 (by decide) (fun c => ?_) (fun c => ?_)
    · rw [if_pos c] at h
      refine R_iload_n (pc := 69) d_X7_bookedOf_69 rfl rfl ?_
      exact R_retv (pc := 70) d_X7_bookedOf_70 h
    · rw [if_neg c] at h
      refine R_iload_n (pc := 16) d_X7_bookedOf_16 rfl rfl ?_
      refine R_aload_n (pc := 17) d_X7_bookedOf_17 rfl rfl ?_
      refine R_iload (pc := 18) d_X7_bookedOf_18 rfl ?_
      refine R_callV (pc := 20) (As := [.int v4]) (rest := [.int v3]) (c_X7_isBooked (g := g) v0 v4 M _ h) rfl rfl cal_RX7_49 ins_X7_isBooked sel_X7_isBooked (cls_at k1 clsOK7) (by decide) (by decide) rfl rfl (Nat.le_of_ble_eq_true rfl) d_X7_bookedOf_20 (k_Z (fun y5 M4 h => ?_)) (fun _ _ h9 => False.elim h9)
      try dsimp only at h
      refine R_if_eq (pc := 23) (tgt := 60) d_X7_bookedOf_23 (by decide) (fun c => ?_) (fun c => ?_)
      · rw [if_pos c] at h
        exact WP_sub (B_X7_bookedOf_60 Q (T_X7_bookedOf_5 Q n) hκ5 v0 v1 v2 v4 v3 M4 h) (by decide) (ls_s (ls_s (ls_s (ls_n (ls_s ls_0)))))
      · rw [if_neg c] at h
        refine R_iload_n (pc := 26) d_X7_bookedOf_26 rfl rfl ?_
        refine R_iconst (pc := 27) (v := (-1)) d_X7_bookedOf_27 (by decide) ?_
        refine R_icmp_ne (pc := 28) (tgt := 45) d_X7_bookedOf_28 (by decide) (fun c => ?_) (fun c => ?_)
        · rw [if_neg c] at h
          refine R_aload_n (pc := 45) d_X7_bookedOf_45 rfl rfl ?_
          refine R_iload (pc := 46) d_X7_bookedOf_46 rfl ?_
          refine R_iconst (pc := 48) (v := 0) d_X7_bookedOf_48 (by decide) ?_
          refine R_callV (pc := 49) (As := [.int v4, .int 0]) (rest := [.int v3]) (c_X7_of (g := g) v0 v4 0 M4 _ h) rfl rfl cal_RX7_45 ins_X7_of sel_X7_of (cls_at k1 clsOK7) (by decide) (by decide) rfl rfl (Nat.le_of_ble_eq_true rfl) d_X7_bookedOf_49 (k_I (fun y7 M6 h => ?_)) (fun _ _ h9 => False.elim h9)
          try dsimp only at h
          refine R_iload_n (pc := 52) d_X7_bookedOf_52 rfl rfl ?_
          refine R_icmp_ne (pc := 53) (tgt := 60) d_X7_bookedOf_53 (by decide) (fun c => ?_) (fun c => ?_)
          · rw [if_neg c] at h
            exact WP_sub (B_X7_bookedOf_60 Q (T_X7_bookedOf_5 Q n) hκ5 v0 v1 v2 v4 v3 M6 h) (by decide) (ls_s (ls_s (ls_s (ls_n (ls_s ls_0)))))
          · rw [if_pos c] at h
            exact WP_sub (B_X7_bookedOf_56 Q (T_X7_bookedOf_5 Q n) hκ5 v0 v1 v2 v4 v3 M6 h) (by decide) (ls_s (ls_s (ls_s (ls_n (ls_s ls_0)))))
        · rw [if_pos c] at h
          refine R_aload_n (pc := 31) d_X7_bookedOf_31 rfl rfl ?_
          refine R_iload (pc := 32) d_X7_bookedOf_32 rfl ?_
          refine R_iconst (pc := 34) (v := 4) d_X7_bookedOf_34 (by decide) ?_
          refine R_callV (pc := 35) (As := [.int v4, .int 4]) (rest := [.int v3]) (c_X7_of (g := g) v0 v4 4 M4 _ h) rfl rfl cal_RX7_45 ins_X7_of sel_X7_of (cls_at k1 clsOK7) (by decide) (by decide) rfl rfl (Nat.le_of_ble_eq_true rfl) d_X7_bookedOf_35 (k_I (fun y9 M8 h => ?_)) (fun _ _ h9 => False.elim h9)
          try dsimp only at h
          refine R_iload_n (pc := 38) d_X7_bookedOf_38 rfl rfl ?_
          refine R_icmp_ne (pc := 39) (tgt := 60) d_X7_bookedOf_39 (by decide) (fun c => ?_) (fun c => ?_)
          · rw [if_neg c] at h
            exact WP_sub (B_X7_bookedOf_60 Q (T_X7_bookedOf_5 Q n) hκ5 v0 v1 v2 v4 v3 M8 h) (by decide) (ls_s (ls_s (ls_s (ls_n (ls_s ls_0)))))
          · rw [if_pos c] at h
            refine R_goto (pc := 42) (tgt := 56) d_X7_bookedOf_42 (by decide) ?_
            exact WP_sub (B_X7_bookedOf_56 Q (T_X7_bookedOf_5 Q n) hκ5 v0 v1 v2 v4 v3 M8 h) (by decide) (ls_s (ls_s (ls_s (ls_n (ls_s ls_0)))))
def T_X7_bookedOf (Q : Int32 → Mem → Prop) (v0 : Nat) (v1 : Int32) (v2 : Int32) (M : Mem) : Prop := (∃ N : Nat, T_X7_bookedOf_5 Q N v0 v1 v2 0 0 M)
set_option maxRecDepth 100000 in
set_option maxHeartbeats 4000000 in
theorem c_X7_bookedOf {g : GG} (v0 : Nat) (v1 : Int32) (v2 : Int32) (M : Mem) (Q : Int32 → Mem → Prop) (h : T_X7_bookedOf Q v0 v1 v2 M) : CT g 11 mX7_bookedOf [.ref (g.1 + v0), .int v1, .int v2] M 0 (oI Q noX) := by
  refine CT_of (L := [some (.ref (g.1 + v0)), some (.int v1), some (.int v2), none, none]) (by decide) rfl (Nat.le_of_ble_eq_true rfl) (ro_I rfl) rfl ?_
  unfold T_X7_bookedOf at h
  refine R_iconst (pc := 0) (v := 0) d_X7_bookedOf_0 (by decide) ?_
  refine R_istore_n (pc := 1) (L' := [some (.ref (g.1 + v0)), some (.int v1), some (.int v2), some (.int 0), none]) d_X7_bookedOf_1 rfl (by decide) rfl ?_
  refine R_iconst (pc := 2) (v := 0) d_X7_bookedOf_2 (by decide) ?_
  refine R_istore (pc := 3) (L' := [some (.ref (g.1 + v0)), some (.int v1), some (.int v2), some (.int 0), some (.int 0)]) d_X7_bookedOf_3 (by decide) rfl ?_
  obtain ⟨N, h⟩ := h
  exact WP_sub (B_X7_bookedOf_5 Q N v0 v1 v2 0 0 M h) (by decide) (ls_s (ls_s (ls_s (ls_s (ls_s ls_0)))))
