/-! X7_inmate -/
theorem d_X7_inmate_0 : decode mX7_inmate.2.1 0 = .ok (.aload_n 0, 1) := by decide +kernel
theorem d_X7_inmate_1 : decode mX7_inmate.2.1 1 = .ok (.iconst 0, 1) := by decide +kernel
theorem d_X7_inmate_2 : decode mX7_inmate.2.1 2 = .ok (.putfield 37, 3) := by decide +kernel
theorem d_X7_inmate_5 : decode mX7_inmate.2.1 5 = .ok (.aload_n 0, 1) := by decide +kernel
theorem d_X7_inmate_6 : decode mX7_inmate.2.1 6 = .ok (.iload_n 1, 1) := by decide +kernel
theorem d_X7_inmate_7 : decode mX7_inmate.2.1 7 = .ok (.invokevirtual 179, 3) := by decide +kernel
theorem d_X7_inmate_10 : decode mX7_inmate.2.1 10 = .ok (.ifCond .ne 9, 3) := by decide +kernel
theorem d_X7_inmate_13 : decode mX7_inmate.2.1 13 = .ok (.aload_n 0, 1) := by decide +kernel
theorem d_X7_inmate_14 : decode mX7_inmate.2.1 14 = .ok (.iconst 1, 1) := by decide +kernel
theorem d_X7_inmate_15 : decode mX7_inmate.2.1 15 = .ok (.invokevirtual 163, 3) := by decide +kernel
theorem d_X7_inmate_18 : decode mX7_inmate.2.1 18 = .ok (.ireturn, 1) := by decide +kernel
theorem d_X7_inmate_19 : decode mX7_inmate.2.1 19 = .ok (.iload_n 2, 1) := by decide +kernel
theorem d_X7_inmate_20 : decode mX7_inmate.2.1 20 = .ok (.tableswitch 88 0 4 #[36, 46, 56, 66, 73], 36) := by decide +kernel
theorem d_X7_inmate_56 : decode mX7_inmate.2.1 56 = .ok (.aload_n 0, 1) := by decide +kernel
theorem d_X7_inmate_57 : decode mX7_inmate.2.1 57 = .ok (.getfield 7, 3) := by decide +kernel
theorem d_X7_inmate_60 : decode mX7_inmate.2.1 60 = .ok (.bipush 12, 2) := by decide +kernel
theorem d_X7_inmate_62 : decode mX7_inmate.2.1 62 = .ok (.iload_n 1, 1) := by decide +kernel
theorem d_X7_inmate_63 : decode mX7_inmate.2.1 63 = .ok (.iadd, 1) := by decide +kernel
theorem d_X7_inmate_64 : decode mX7_inmate.2.1 64 = .ok (.iaload, 1) := by decide +kernel
theorem d_X7_inmate_65 : decode mX7_inmate.2.1 65 = .ok (.ireturn, 1) := by decide +kernel
theorem d_X7_inmate_66 : decode mX7_inmate.2.1 66 = .ok (.aload_n 0, 1) := by decide +kernel
theorem d_X7_inmate_67 : decode mX7_inmate.2.1 67 = .ok (.getfield 7, 3) := by decide +kernel
theorem d_X7_inmate_70 : decode mX7_inmate.2.1 70 = .ok (.bipush 22, 2) := by decide +kernel
theorem d_X7_inmate_72 : decode mX7_inmate.2.1 72 = .ok (.iload_n 1, 1) := by decide +kernel
theorem d_X7_inmate_73 : decode mX7_inmate.2.1 73 = .ok (.iadd, 1) := by decide +kernel
theorem d_X7_inmate_74 : decode mX7_inmate.2.1 74 = .ok (.iaload, 1) := by decide +kernel
theorem d_X7_inmate_75 : decode mX7_inmate.2.1 75 = .ok (.ireturn, 1) := by decide +kernel
theorem d_X7_inmate_76 : decode mX7_inmate.2.1 76 = .ok (.aload_n 0, 1) := by decide +kernel
theorem d_X7_inmate_77 : decode mX7_inmate.2.1 77 = .ok (.getfield 7, 3) := by decide +kernel
theorem d_X7_inmate_80 : decode mX7_inmate.2.1 80 = .ok (.bipush 32, 2) := by decide +kernel
theorem d_X7_inmate_82 : decode mX7_inmate.2.1 82 = .ok (.iload_n 1, 1) := by decide +kernel
theorem d_X7_inmate_83 : decode mX7_inmate.2.1 83 = .ok (.iadd, 1) := by decide +kernel
theorem d_X7_inmate_84 : decode mX7_inmate.2.1 84 = .ok (.iaload, 1) := by decide +kernel
theorem d_X7_inmate_85 : decode mX7_inmate.2.1 85 = .ok (.ireturn, 1) := by decide +kernel
theorem d_X7_inmate_86 : decode mX7_inmate.2.1 86 = .ok (.aload_n 0, 1) := by decide +kernel
theorem d_X7_inmate_87 : decode mX7_inmate.2.1 87 = .ok (.iload_n 1, 1) := by decide +kernel
theorem d_X7_inmate_88 : decode mX7_inmate.2.1 88 = .ok (.iconst (-1), 1) := by decide +kernel
theorem d_X7_inmate_89 : decode mX7_inmate.2.1 89 = .ok (.invokevirtual 188, 3) := by decide +kernel
theorem d_X7_inmate_92 : decode mX7_inmate.2.1 92 = .ok (.ireturn, 1) := by decide +kernel
theorem d_X7_inmate_93 : decode mX7_inmate.2.1 93 = .ok (.aload_n 0, 1) := by decide +kernel
theorem d_X7_inmate_94 : decode mX7_inmate.2.1 94 = .ok (.iload_n 1, 1) := by decide +kernel
theorem d_X7_inmate_95 : decode mX7_inmate.2.1 95 = .ok (.aload_n 0, 1) := by decide +kernel
theorem d_X7_inmate_96 : decode mX7_inmate.2.1 96 = .ok (.getfield 7, 3) := by decide +kernel
theorem d_X7_inmate_99 : decode mX7_inmate.2.1 99 = .ok (.iconst 0, 1) := by decide +kernel
theorem d_X7_inmate_100 : decode mX7_inmate.2.1 100 = .ok (.iaload, 1) := by decide +kernel
theorem d_X7_inmate_101 : decode mX7_inmate.2.1 101 = .ok (.bipush 7, 2) := by decide +kernel
theorem d_X7_inmate_103 : decode mX7_inmate.2.1 103 = .ok (.idiv, 1) := by decide +kernel
theorem d_X7_inmate_104 : decode mX7_inmate.2.1 104 = .ok (.invokevirtual 111, 3) := by decide +kernel
theorem d_X7_inmate_107 : decode mX7_inmate.2.1 107 = .ok (.ireturn, 1) := by decide +kernel
theorem d_X7_inmate_108 : decode mX7_inmate.2.1 108 = .ok (.aload_n 0, 1) := by decide +kernel
theorem d_X7_inmate_109 : decode mX7_inmate.2.1 109 = .ok (.iconst 2, 1) := by decide +kernel
theorem d_X7_inmate_110 : decode mX7_inmate.2.1 110 = .ok (.invokevirtual 163, 3) := by decide +kernel
theorem d_X7_inmate_113 : decode mX7_inmate.2.1 113 = .ok (.ireturn, 1) := by decide +kernel
def T_X7_inmate (Q : Int32 → Mem → Prop) (v0 : Nat) (v1 : Int32) (v2 : Int32) (M : Mem) : Prop := (kd v0 = 7) ∧ ∀ M2 : Mem, M2 = mset M v0 0 0 → T_X7_isInmate (fun y4 M3 => if y4 = 0 then (T_X7_fails (fun y20 M19 => Q y20 M19)  v0 1 M3) else (if v2 = 0 then ((kd (rf v0 1) = 9) ∧ (vp_in (12 + v1) (ln (rf v0 1))) ∧ Q (M3.1 (rf v0 1) (Int32.toNatClampNeg (12 + v1))) M3) else if v2 = 1 then ((kd (rf v0 1) = 9) ∧ (vp_in (22 + v1) (ln (rf v0 1))) ∧ Q (M3.1 (rf v0 1) (Int32.toNatClampNeg (22 + v1))) M3) else if v2 = 2 then ((kd (rf v0 1) = 9) ∧ (vp_in (32 + v1) (ln (rf v0 1))) ∧ Q (M3.1 (rf v0 1) (Int32.toNatClampNeg (32 + v1))) M3) else if v2 = 3 then (T_X7_bookedOf (fun y12 M11 => Q y12 M11)  v0 v1 (-1) M3) else if v2 = 4 then ((kd (rf v0 1) = 9) ∧ (vp_in 0 (ln (rf v0 1))) ∧ T_X7_counted (fun y16 M15 => Q y16 M15)  v0 v1 ((M3.1 (rf v0 1) (Int32.toNatClampNeg 0)) / 7) M3) else (T_X7_fails (fun y18 M17 => Q y18 M17)  v0 2 M3)))  v0 v1 M2
set_option maxRecDepth 100000 in
set_option maxHeartbeats 4000000 in
theorem c_X7_inmate {g : GG} (v0 : Nat) (v1 : Int32) (v2 : Int32) (M : Mem) (Q : Int32 → Mem → Prop) (h : T_X7_inmate Q v0 v1 v2 M) : CT g 12 mX7_inmate [.ref (g.1 + v0), .int v1, .int v2] M 0 (oI Q noX) := by
  refine CT_of (L := [some (.ref (g.1 + v0)), some (.int v1), some (.int v2)]) (by decide) rfl (Nat.le_of_ble_eq_true rfl) (ro_I rfl) rfl ?_
  unfold T_X7_inmate at h
  refine R_aload_n (pc := 0) d_X7_inmate_0 rfl rfl ?_
  refine R_iconst (pc := 1) (v := 0) d_X7_inmate_1 (by decide) ?_
  obtain ⟨k1, h⟩ := h
  refine R_putI (pc := 2) fld_RX7_37 rfl rfl rfl k1 rfl rfl d_X7_inmate_2 (N_M (fun M2 eM2 => ?_))
  have h := h M2 eM2
  refine R_aload_n (pc := 5) d_X7_inmate_5 rfl rfl ?_
  refine R_iload_n (pc := 6) d_X7_inmate_6 rfl rfl ?_
  refine R_callV (pc := 7) (As := [.int v1]) (rest := []) (c_X7_isInmate (g := g) v0 v1 M2 _ h) rfl rfl cal_RX7_179 ins_X7_isInmate sel_X7_isInmate (cls_at k1 clsOK7) (by decide) (by decide) rfl rfl (Nat.le_of_ble_eq_true rfl) d_X7_inmate_7 (k_Z (fun y4 M3 h => ?_)) (fun _ _ h9 => False.elim h9)
  try dsimp only at h
  refine R_if_ne (pc := 10) (tgt := 19) d_X7_inmate_10 (by decide) (fun c => ?_) (fun c => ?_)
  · rw [if_neg c] at h
    refine R_iload_n (pc := 19) d_X7_inmate_19 rfl rfl ?_
    by_cases c0 : v2 = 0
    · rw [if_pos c0] at h
      rw [c0]
      refine R_tsIn (pc := 20) (off := 36) (tgt := 56) d_X7_inmate_20 (by decide) (by decide) (by decide) (by decide) ?_
      refine R_aload_n (pc := 56) d_X7_inmate_56 rfl rfl ?_
      refine R_getR (pc := 57) fld_RX7_7 rfl rfl k1 d_X7_inmate_57 ?_
      refine R_bipush (pc := 60) (v := 12) d_X7_inmate_60 (by decide) ?_
      refine R_iload_n (pc := 62) d_X7_inmate_62 rfl rfl ?_
      refine R_iadd (pc := 63) d_X7_inmate_63 ?_
      obtain ⟨k5, h⟩ := h
      obtain ⟨k6, h⟩ := h
      refine R_iald (pc := 64) k5 k6 d_X7_inmate_64 ?_
      exact R_retv (pc := 65) d_X7_inmate_65 h
    rw [if_neg c0] at h
    by_cases c1 : v2 = 1
    · rw [if_pos c1] at h
      rw [c1]
      refine R_tsIn (pc := 20) (off := 46) (tgt := 66) d_X7_inmate_20 (by decide) (by decide) (by decide) (by decide) ?_
      refine R_aload_n (pc := 66) d_X7_inmate_66 rfl rfl ?_
      refine R_getR (pc := 67) fld_RX7_7 rfl rfl k1 d_X7_inmate_67 ?_
      refine R_bipush (pc := 70) (v := 22) d_X7_inmate_70 (by decide) ?_
      refine R_iload_n (pc := 72) d_X7_inmate_72 rfl rfl ?_
      refine R_iadd (pc := 73) d_X7_inmate_73 ?_
      obtain ⟨k7, h⟩ := h
      obtain ⟨k8, h⟩ := h
      refine R_iald (pc := 74) k7 k8 d_X7_inmate_74 ?_
      exact R_retv (pc := 75) d_X7_inmate_75 h
    rw [if_neg c1] at h
    by_cases c2 : v2 = 2
    · rw [if_pos c2] at h
      rw [c2]
      refine R_tsIn (pc := 20) (off := 56) (tgt := 76) d_X7_inmate_20 (by decide) (by decide) (by decide) (by decide) ?_
      refine R_aload_n (pc := 76) d_X7_inmate_76 rfl rfl ?_
      refine R_getR (pc := 77) fld_RX7_7 rfl rfl k1 d_X7_inmate_77 ?_
      refine R_bipush (pc := 80) (v := 32) d_X7_inmate_80 (by decide) ?_
      refine R_iload_n (pc := 82) d_X7_inmate_82 rfl rfl ?_
      refine R_iadd (pc := 83) d_X7_inmate_83 ?_
      obtain ⟨k9, h⟩ := h
      obtain ⟨k10, h⟩ := h
      refine R_iald (pc := 84) k9 k10 d_X7_inmate_84 ?_
      exact R_retv (pc := 85) d_X7_inmate_85 h
    rw [if_neg c2] at h
    by_cases c3 : v2 = 3
    · rw [if_pos c3] at h
      rw [c3]
      refine R_tsIn (pc := 20) (off := 66) (tgt := 86) d_X7_inmate_20 (by decide) (by decide) (by decide) (by decide) ?_
      refine R_aload_n (pc := 86) d_X7_inmate_86 rfl rfl ?_
      refine R_iload_n (pc := 87) d_X7_inmate_87 rfl rfl ?_
      refine R_iconst (pc := 88) (v := (-1)) d_X7_inmate_88 (by decide) ?_
      refine R_callV (pc := 89) (As := [.int v1, .int (-1)]) (rest := []) (c_X7_bookedOf (g := g) v0 v1 (-1) M3 _ h) rfl rfl cal_RX7_188 ins_X7_bookedOf sel_X7_bookedOf (cls_at k1 clsOK7) (by decide) (by decide) rfl rfl (Nat.le_of_ble_eq_true rfl) d_X7_inmate_89 (k_I (fun y12 M11 h => ?_)) (fun _ _ h9 => False.elim h9)
      try dsimp only at h
      exact R_retv (pc := 92) d_X7_inmate_92 h
    rw [if_neg c3] at h
    by_cases c4 : v2 = 4
    · rw [if_pos c4] at h
      rw [c4]
      refine R_tsIn (pc := 20) (off := 73) (tgt := 93) d_X7_inmate_20 (by decide) (by decide) (by decide) (by decide) ?_
      refine R_aload_n (pc := 93) d_X7_inmate_93 rfl rfl ?_
      refine R_iload_n (pc := 94) d_X7_inmate_94 rfl rfl ?_
      refine R_aload_n (pc := 95) d_X7_inmate_95 rfl rfl ?_
      refine R_getR (pc := 96) fld_RX7_7 rfl rfl k1 d_X7_inmate_96 ?_
      refine R_iconst (pc := 99) (v := 0) d_X7_inmate_99 (by decide) ?_
      obtain ⟨k13, h⟩ := h
      obtain ⟨k14, h⟩ := h
      refine R_iald (pc := 100) k13 k14 d_X7_inmate_100 ?_
      refine R_bipush (pc := 101) (v := 7) d_X7_inmate_101 (by decide) ?_
      refine R_idiv (pc := 103) d_X7_inmate_103 (by decide) ?_
      refine R_callV (pc := 104) (As := [.int v1, .int ((M3.1 (rf v0 1) (Int32.toNatClampNeg 0)) / 7)]) (rest := []) (c_X7_counted (g := g) v0 v1 ((M3.1 (rf v0 1) (Int32.toNatClampNeg 0)) / 7) M3 _ h) rfl rfl cal_RX7_111 ins_X7_counted sel_X7_counted (cls_at k1 clsOK7) (by decide) (by decide) rfl rfl (Nat.le_of_ble_eq_true rfl) d_X7_inmate_104 (k_I (fun y16 M15 h => ?_)) (fun _ _ h9 => False.elim h9)
      try dsimp only at h
      exact R_retv (pc := 107) d_X7_inmate_107 h
    rw [if_neg c4] at h
    have o9 : v2.toInt < 0 ∨ 4 < v2.toInt := by
      have n0 := ne_toInt c0
      rw [show Int32.toInt (0 : Int32) = 0 by decide] at n0
      have n1 := ne_toInt c1
      rw [show Int32.toInt (1 : Int32) = 1 by decide] at n1
      have n2 := ne_toInt c2
      rw [show Int32.toInt (2 : Int32) = 2 by decide] at n2
      have n3 := ne_toInt c3
      rw [show Int32.toInt (3 : Int32) = 3 by decide] at n3
      have n4 := ne_toInt c4
      rw [show Int32.toInt (4 : Int32) = 4 by decide] at n4
      omega
    refine R_tsOut (pc := 20) (tgt := 108) d_X7_inmate_20 o9 (by decide) ?_
    refine R_aload_n (pc := 108) d_X7_inmate_108 rfl rfl ?_
    refine R_iconst (pc := 109) (v := 2) d_X7_inmate_109 (by decide) ?_
    refine R_callV (pc := 110) (As := [.int 2]) (rest := []) (c_X7_fails (g := g) v0 2 M3 _ h) rfl rfl cal_RX7_163 ins_X7_fails sel_X7_fails (cls_at k1 clsOK7) (by decide) (by decide) rfl rfl (Nat.le_of_ble_eq_true rfl) d_X7_inmate_110 (k_I (fun y18 M17 h => ?_)) (fun _ _ h9 => False.elim h9)
    try dsimp only at h
    exact R_retv (pc := 113) d_X7_inmate_113 h
  · rw [if_pos c] at h
    refine R_aload_n (pc := 13) d_X7_inmate_13 rfl rfl ?_
    refine R_iconst (pc := 14) (v := 1) d_X7_inmate_14 (by decide) ?_
    refine R_callV (pc := 15) (As := [.int 1]) (rest := []) (c_X7_fails (g := g) v0 1 M3 _ h) rfl rfl cal_RX7_163 ins_X7_fails sel_X7_fails (cls_at k1 clsOK7) (by decide) (by decide) rfl rfl (Nat.le_of_ble_eq_true rfl) d_X7_inmate_15 (k_I (fun y20 M19 h => ?_)) (fun _ _ h9 => False.elim h9)
    try dsimp only at h
    exact R_retv (pc := 18) d_X7_inmate_18 h
/-! X7_room -/
theorem d_X7_room_0 : decode mX7_room.2.1 0 = .ok (.aload_n 0, 1) := by decide +kernel
theorem d_X7_room_1 : decode mX7_room.2.1 1 = .ok (.iconst 0, 1) := by decide +kernel
theorem d_X7_room_2 : decode mX7_room.2.1 2 = .ok (.putfield 37, 3) := by decide +kernel
theorem d_X7_room_5 : decode mX7_room.2.1 5 = .ok (.aload_n 0, 1) := by decide +kernel
theorem d_X7_room_6 : decode mX7_room.2.1 6 = .ok (.iload_n 1, 1) := by decide +kernel
theorem d_X7_room_7 : decode mX7_room.2.1 7 = .ok (.invokevirtual 169, 3) := by decide +kernel
theorem d_X7_room_10 : decode mX7_room.2.1 10 = .ok (.ifCond .ne 9, 3) := by decide +kernel
theorem d_X7_room_13 : decode mX7_room.2.1 13 = .ok (.aload_n 0, 1) := by decide +kernel
theorem d_X7_room_14 : decode mX7_room.2.1 14 = .ok (.iconst 1, 1) := by decide +kernel
theorem d_X7_room_15 : decode mX7_room.2.1 15 = .ok (.invokevirtual 163, 3) := by decide +kernel
theorem d_X7_room_18 : decode mX7_room.2.1 18 = .ok (.ireturn, 1) := by decide +kernel
theorem d_X7_room_19 : decode mX7_room.2.1 19 = .ok (.iload_n 2, 1) := by decide +kernel
theorem d_X7_room_20 : decode mX7_room.2.1 20 = .ok (.tableswitch 83 0 4 #[36, 46, 56, 66, 76], 36) := by decide +kernel
theorem d_X7_room_56 : decode mX7_room.2.1 56 = .ok (.aload_n 0, 1) := by decide +kernel
theorem d_X7_room_57 : decode mX7_room.2.1 57 = .ok (.getfield 7, 3) := by decide +kernel
theorem d_X7_room_60 : decode mX7_room.2.1 60 = .ok (.bipush 54, 2) := by decide +kernel
theorem d_X7_room_62 : decode mX7_room.2.1 62 = .ok (.iload_n 1, 1) := by decide +kernel
theorem d_X7_room_63 : decode mX7_room.2.1 63 = .ok (.iadd, 1) := by decide +kernel
theorem d_X7_room_64 : decode mX7_room.2.1 64 = .ok (.iaload, 1) := by decide +kernel
theorem d_X7_room_65 : decode mX7_room.2.1 65 = .ok (.ireturn, 1) := by decide +kernel
theorem d_X7_room_66 : decode mX7_room.2.1 66 = .ok (.aload_n 0, 1) := by decide +kernel
theorem d_X7_room_67 : decode mX7_room.2.1 67 = .ok (.getfield 7, 3) := by decide +kernel
theorem d_X7_room_70 : decode mX7_room.2.1 70 = .ok (.bipush 60, 2) := by decide +kernel
theorem d_X7_room_72 : decode mX7_room.2.1 72 = .ok (.iload_n 1, 1) := by decide +kernel
theorem d_X7_room_73 : decode mX7_room.2.1 73 = .ok (.iadd, 1) := by decide +kernel
theorem d_X7_room_74 : decode mX7_room.2.1 74 = .ok (.iaload, 1) := by decide +kernel
theorem d_X7_room_75 : decode mX7_room.2.1 75 = .ok (.ireturn, 1) := by decide +kernel
theorem d_X7_room_76 : decode mX7_room.2.1 76 = .ok (.aload_n 0, 1) := by decide +kernel
theorem d_X7_room_77 : decode mX7_room.2.1 77 = .ok (.getfield 7, 3) := by decide +kernel
theorem d_X7_room_80 : decode mX7_room.2.1 80 = .ok (.bipush 66, 2) := by decide +kernel
theorem d_X7_room_82 : decode mX7_room.2.1 82 = .ok (.iload_n 1, 1) := by decide +kernel
theorem d_X7_room_83 : decode mX7_room.2.1 83 = .ok (.iadd, 1) := by decide +kernel
theorem d_X7_room_84 : decode mX7_room.2.1 84 = .ok (.iaload, 1) := by decide +kernel
theorem d_X7_room_85 : decode mX7_room.2.1 85 = .ok (.ireturn, 1) := by decide +kernel
theorem d_X7_room_86 : decode mX7_room.2.1 86 = .ok (.aload_n 0, 1) := by decide +kernel
theorem d_X7_room_87 : decode mX7_room.2.1 87 = .ok (.getfield 7, 3) := by decide +kernel
theorem d_X7_room_90 : decode mX7_room.2.1 90 = .ok (.bipush 72, 2) := by decide +kernel
theorem d_X7_room_92 : decode mX7_room.2.1 92 = .ok (.iload_n 1, 1) := by decide +kernel
theorem d_X7_room_93 : decode mX7_room.2.1 93 = .ok (.iadd, 1) := by decide +kernel
theorem d_X7_room_94 : decode mX7_room.2.1 94 = .ok (.iaload, 1) := by decide +kernel
theorem d_X7_room_95 : decode mX7_room.2.1 95 = .ok (.ireturn, 1) := by decide +kernel
theorem d_X7_room_96 : decode mX7_room.2.1 96 = .ok (.aload_n 0, 1) := by decide +kernel
theorem d_X7_room_97 : decode mX7_room.2.1 97 = .ok (.iconst (-1), 1) := by decide +kernel
theorem d_X7_room_98 : decode mX7_room.2.1 98 = .ok (.iload_n 1, 1) := by decide +kernel
theorem d_X7_room_99 : decode mX7_room.2.1 99 = .ok (.invokevirtual 188, 3) := by decide +kernel
theorem d_X7_room_102 : decode mX7_room.2.1 102 = .ok (.ireturn, 1) := by decide +kernel
theorem d_X7_room_103 : decode mX7_room.2.1 103 = .ok (.aload_n 0, 1) := by decide +kernel
theorem d_X7_room_104 : decode mX7_room.2.1 104 = .ok (.iconst 2, 1) := by decide +kernel
theorem d_X7_room_105 : decode mX7_room.2.1 105 = .ok (.invokevirtual 163, 3) := by decide +kernel
theorem d_X7_room_108 : decode mX7_room.2.1 108 = .ok (.ireturn, 1) := by decide +kernel
def T_X7_room (Q : Int32 → Mem → Prop) (v0 : Nat) (v1 : Int32) (v2 : Int32) (M : Mem) : Prop := (kd v0 = 7) ∧ ∀ M2 : Mem, M2 = mset M v0 0 0 → T_X7_isRoom (fun y4 M3 => if y4 = 0 then (T_X7_fails (fun y18 M17 => Q y18 M17)  v0 1 M3) else (if v2 = 0 then ((kd (rf v0 1) = 9) ∧ (vp_in (54 + v1) (ln (rf v0 1))) ∧ Q (M3.1 (rf v0 1) (Int32.toNatClampNeg (54 + v1))) M3) else if v2 = 1 then ((kd (rf v0 1) = 9) ∧ (vp_in (60 + v1) (ln (rf v0 1))) ∧ Q (M3.1 (rf v0 1) (Int32.toNatClampNeg (60 + v1))) M3) else if v2 = 2 then ((kd (rf v0 1) = 9) ∧ (vp_in (66 + v1) (ln (rf v0 1))) ∧ Q (M3.1 (rf v0 1) (Int32.toNatClampNeg (66 + v1))) M3) else if v2 = 3 then ((kd (rf v0 1) = 9) ∧ (vp_in (72 + v1) (ln (rf v0 1))) ∧ Q (M3.1 (rf v0 1) (Int32.toNatClampNeg (72 + v1))) M3) else if v2 = 4 then (T_X7_bookedOf (fun y14 M13 => Q y14 M13)  v0 (-1) v1 M3) else (T_X7_fails (fun y16 M15 => Q y16 M15)  v0 2 M3)))  v0 v1 M2
set_option maxRecDepth 100000 in
set_option maxHeartbeats 4000000 in
theorem c_X7_room {g : GG} (v0 : Nat) (v1 : Int32) (v2 : Int32) (M : Mem) (Q : Int32 → Mem → Prop) (h : T_X7_room Q v0 v1 v2 M) : CT g 12 mX7_room [.ref (g.1 + v0), .int v1, .int v2] M 0 (oI Q noX) := by
  refine CT_of (L := [some (.ref (g.1 + v0)), some (.int v1), some (.int v2)]) (by decide) rfl (Nat.le_of_ble_eq_true rfl) (ro_I rfl) rfl ?_
  unfold T_X7_room at h
  refine R_aload_n (pc := 0) d_X7_room_0 rfl rfl ?_
  refine R_iconst (pc := 1) (v := 0) d_X7_room_1 (by decide) ?_
  obtain ⟨k1, h⟩ := h
  refine R_putI (pc := 2) fld_RX7_37 rfl rfl rfl k1 rfl rfl d_X7_room_2 (N_M (fun M2 eM2 => ?_))
  have h := h M2 eM2
  refine R_aload_n (pc := 5) d_X7_room_5 rfl rfl ?_
  refine R_iload_n (pc := 6) d_X7_room_6 rfl rfl ?_
  refine R_callV (pc := 7) (As := [.int v1]) (rest := []) (c_X7_isRoom (g := g) v0 v1 M2 _ h) rfl rfl cal_RX7_169 ins_X7_isRoom sel_X7_isRoom (cls_at k1 clsOK7) (by decide) (by decide) rfl rfl (Nat.le_of_ble_eq_true rfl) d_X7_room_7 (k_Z (fun y4 M3 h => ?_)) (fun _ _ h9 => False.elim h9)
  try dsimp only at h
  refine R_if_ne (pc := 10) (tgt := 19) d_X7_room_10 (by decide) (fun c => ?_) (fun c => ?_)
  · rw [if_neg c] at h
    refine R_iload_n (pc := 19) d_X7_room_19 rfl rfl ?_
    by_cases c0 : v2 = 0
    · rw [if_pos c0] at h
      rw [c0]
      refine R_tsIn (pc := 20) (off := 36) (tgt := 56) d_X7_room_20 (by decide) (by decide) (by decide) (by decide) ?_
      refine R_aload_n (pc := 56) d_X7_room_56 rfl rfl ?_
      refine R_getR (pc := 57) fld_RX7_7 rfl rfl k1 d_X7_room_57 ?_
      refine R_bipush (pc := 60) (v := 54) d_X7_room_60 (by decide) ?_
      refine R_iload_n (pc := 62) d_X7_room_62 rfl rfl ?_
      refine R_iadd (pc := 63) d_X7_room_63 ?_
      obtain ⟨k5, h⟩ := h
      obtain ⟨k6, h⟩ := h
      refine R_iald (pc := 64) k5 k6 d_X7_room_64 ?_
      exact R_retv (pc := 65) d_X7_room_65 h
    rw [if_neg c0] at h
    by_cases c1 : v2 = 1
    · rw [if_pos c1] at h
      rw [c1]
      refine R_tsIn (pc := 20) (off := 46) (tgt := 66) d_X7_room_20 (by decide) (by decide) (by decide) (by decide) ?_
      refine R_aload_n (pc := 66) d_X7_room_66 rfl rfl ?_
      refine R_getR (pc := 67) fld_RX7_7 rfl rfl k1 d_X7_room_67 ?_
      refine R_bipush (pc := 70) (v := 60) d_X7_room_70 (by decide) ?_
      refine R_iload_n (pc := 72) d_X7_room_72 rfl rfl ?_
      refine R_iadd (pc := 73) d_X7_room_73 ?_
      obtain ⟨k7, h⟩ := h
      obtain ⟨k8, h⟩ := h
      refine R_iald (pc := 74) k7 k8 d_X7_room_74 ?_
      exact R_retv (pc := 75) d_X7_room_75 h
    rw [if_neg c1] at h
    by_cases c2 : v2 = 2
    · rw [if_pos c2] at h
      rw [c2]
      refine R_tsIn (pc := 20) (off := 56) (tgt := 76) d_X7_room_20 (by decide) (by decide) (by decide) (by decide) ?_
      refine R_aload_n (pc := 76) d_X7_room_76 rfl rfl ?_
      refine R_getR (pc := 77) fld_RX7_7 rfl rfl k1 d_X7_room_77 ?_
      refine R_bipush (pc := 80) (v := 66) d_X7_room_80 (by decide) ?_
      refine R_iload_n (pc := 82) d_X7_room_82 rfl rfl ?_
      refine R_iadd (pc := 83) d_X7_room_83 ?_
      obtain ⟨k9, h⟩ := h
      obtain ⟨k10, h⟩ := h
      refine R_iald (pc := 84) k9 k10 d_X7_room_84 ?_
      exact R_retv (pc := 85) d_X7_room_85 h
    rw [if_neg c2] at h
    by_cases c3 : v2 = 3
    · rw [if_pos c3] at h
      rw [c3]
      refine R_tsIn (pc := 20) (off := 66) (tgt := 86) d_X7_room_20 (by decide) (by decide) (by decide) (by decide) ?_
      refine R_aload_n (pc := 86) d_X7_room_86 rfl rfl ?_
      refine R_getR (pc := 87) fld_RX7_7 rfl rfl k1 d_X7_room_87 ?_
      refine R_bipush (pc := 90) (v := 72) d_X7_room_90 (by decide) ?_
      refine R_iload_n (pc := 92) d_X7_room_92 rfl rfl ?_
      refine R_iadd (pc := 93) d_X7_room_93 ?_
      obtain ⟨k11, h⟩ := h
      obtain ⟨k12, h⟩ := h
      refine R_iald (pc := 94) k11 k12 d_X7_room_94 ?_
      exact R_retv (pc := 95) d_X7_room_95 h
    rw [if_neg c3] at h
    by_cases c4 : v2 = 4
    · rw [if_pos c4] at h
      rw [c4]
      refine R_tsIn (pc := 20) (off := 76) (tgt := 96) d_X7_room_20 (by decide) (by decide) (by decide) (by decide) ?_
      refine R_aload_n (pc := 96) d_X7_room_96 rfl rfl ?_
      refine R_iconst (pc := 97) (v := (-1)) d_X7_room_97 (by decide) ?_
      refine R_iload_n (pc := 98) d_X7_room_98 rfl rfl ?_
      refine R_callV (pc := 99) (As := [.int (-1), .int v1]) (rest := []) (c_X7_bookedOf (g := g) v0 (-1) v1 M3 _ h) rfl rfl cal_RX7_188 ins_X7_bookedOf sel_X7_bookedOf (cls_at k1 clsOK7) (by decide) (by decide) rfl rfl (Nat.le_of_ble_eq_true rfl) d_X7_room_99 (k_I (fun y14 M13 h => ?_)) (fun _ _ h9 => False.elim h9)
      try dsimp only at h
      exact R_retv (pc := 102) d_X7_room_102 h
    rw [if_neg c4] at h
    have o9 : v2.toInt < 0 ∨ 4 < v2.toInt := by
      have n0 := ne_toInt c0
      rw [show Int32.toInt (0 : Int32) = 0 by decide] at n0
      have n1 := ne_toInt c1
      rw [show Int32.toInt (1 : Int32) = 1 by decide] at n1
      have n2 := ne_toInt c2
      rw [show Int32.toInt (2 : Int32) = 2 by decide] at n2
      have n3 := ne_toInt c3
      rw [show Int32.toInt (3 : Int32) = 3 by decide] at n3
      have n4 := ne_toInt c4
      rw [show Int32.toInt (4 : Int32) = 4 by decide] at n4
      omega
    refine R_tsOut (pc := 20) (tgt := 103) d_X7_room_20 o9 (by decide) ?_
    refine R_aload_n (pc := 103) d_X7_room_103 rfl rfl ?_
    refine R_iconst (pc := 104) (v := 2) d_X7_room_104 (by decide) ?_
    refine R_callV (pc := 105) (As := [.int 2]) (rest := []) (c_X7_fails (g := g) v0 2 M3 _ h) rfl rfl cal_RX7_163 ins_X7_fails sel_X7_fails (cls_at k1 clsOK7) (by decide) (by decide) rfl rfl (Nat.le_of_ble_eq_true rfl) d_X7_room_105 (k_I (fun y16 M15 h => ?_)) (fun _ _ h9 => False.elim h9)
    try dsimp only at h
    exact R_retv (pc := 108) d_X7_room_108 h
  · rw [if_pos c] at h
    refine R_aload_n (pc := 13) d_X7_room_13 rfl rfl ?_
    refine R_iconst (pc := 14) (v := 1) d_X7_room_14 (by decide) ?_
    refine R_callV (pc := 15) (As := [.int 1]) (rest := []) (c_X7_fails (g := g) v0 1 M3 _ h) rfl rfl cal_RX7_163 ins_X7_fails sel_X7_fails (cls_at k1 clsOK7) (by decide) (by decide) rfl rfl (Nat.le_of_ble_eq_true rfl) d_X7_room_15 (k_I (fun y18 M17 h => ?_)) (fun _ _ h9 => False.elim h9)
    try dsimp only at h
    exact R_retv (pc := 18) d_X7_room_18 h
/-! X7_ordered -/
theorem d_X7_ordered_0 : decode mX7_ordered.2.1 0 = .ok (.aload_n 0, 1) := by decide +kernel
theorem d_X7_ordered_1 : decode mX7_ordered.2.1 1 = .ok (.iconst 0, 1) := by decide +kernel
theorem d_X7_ordered_2 : decode mX7_ordered.2.1 2 = .ok (.putfield 37, 3) := by decide +kernel
theorem d_X7_ordered_5 : decode mX7_ordered.2.1 5 = .ok (.aload_n 0, 1) := by decide +kernel
theorem d_X7_ordered_6 : decode mX7_ordered.2.1 6 = .ok (.iload_n 1, 1) := by decide +kernel
theorem d_X7_ordered_7 : decode mX7_ordered.2.1 7 = .ok (.invokevirtual 179, 3) := by decide +kernel
theorem d_X7_ordered_10 : decode mX7_ordered.2.1 10 = .ok (.ifCond .ne 9, 3) := by decide +kernel
theorem d_X7_ordered_13 : decode mX7_ordered.2.1 13 = .ok (.aload_n 0, 1) := by decide +kernel
theorem d_X7_ordered_14 : decode mX7_ordered.2.1 14 = .ok (.iconst 1, 1) := by decide +kernel
theorem d_X7_ordered_15 : decode mX7_ordered.2.1 15 = .ok (.invokevirtual 163, 3) := by decide +kernel
theorem d_X7_ordered_18 : decode mX7_ordered.2.1 18 = .ok (.ireturn, 1) := by decide +kernel
theorem d_X7_ordered_19 : decode mX7_ordered.2.1 19 = .ok (.iload_n 2, 1) := by decide +kernel
theorem d_X7_ordered_20 : decode mX7_ordered.2.1 20 = .ok (.iconst 0, 1) := by decide +kernel
theorem d_X7_ordered_21 : decode mX7_ordered.2.1 21 = .ok (.aload_n 0, 1) := by decide +kernel
theorem d_X7_ordered_22 : decode mX7_ordered.2.1 22 = .ok (.getfield 7, 3) := by decide +kernel
theorem d_X7_ordered_25 : decode mX7_ordered.2.1 25 = .ok (.iconst 3, 1) := by decide +kernel
theorem d_X7_ordered_26 : decode mX7_ordered.2.1 26 = .ok (.iaload, 1) := by decide +kernel
theorem d_X7_ordered_27 : decode mX7_ordered.2.1 27 = .ok (.iconst 1, 1) := by decide +kernel
theorem d_X7_ordered_28 : decode mX7_ordered.2.1 28 = .ok (.isub, 1) := by decide +kernel
theorem d_X7_ordered_29 : decode mX7_ordered.2.1 29 = .ok (.invokestatic 41, 3) := by decide +kernel
theorem d_X7_ordered_32 : decode mX7_ordered.2.1 32 = .ok (.ifCond .eq 12, 3) := by decide +kernel
theorem d_X7_ordered_35 : decode mX7_ordered.2.1 35 = .ok (.aload_n 0, 1) := by decide +kernel
theorem d_X7_ordered_36 : decode mX7_ordered.2.1 36 = .ok (.iload_n 1, 1) := by decide +kernel
theorem d_X7_ordered_37 : decode mX7_ordered.2.1 37 = .ok (.iload_n 2, 1) := by decide +kernel
theorem d_X7_ordered_38 : decode mX7_ordered.2.1 38 = .ok (.invokevirtual 84, 3) := by decide +kernel
theorem d_X7_ordered_41 : decode mX7_ordered.2.1 41 = .ok (.goto 8, 3) := by decide +kernel
theorem d_X7_ordered_44 : decode mX7_ordered.2.1 44 = .ok (.aload_n 0, 1) := by decide +kernel
theorem d_X7_ordered_45 : decode mX7_ordered.2.1 45 = .ok (.iconst 2, 1) := by decide +kernel
theorem d_X7_ordered_46 : decode mX7_ordered.2.1 46 = .ok (.invokevirtual 163, 3) := by decide +kernel
theorem d_X7_ordered_49 : decode mX7_ordered.2.1 49 = .ok (.ireturn, 1) := by decide +kernel
def T_X7_ordered_49 (Q : Int32 → Mem → Prop) (s0 : Int32) (M : Mem) : Prop := Q s0 M
set_option maxRecDepth 100000 in
set_option maxHeartbeats 4000000 in
theorem B_X7_ordered_49 {g : GG} (Q : Int32 → Mem → Prop) (s0 : Int32) (M : Mem) (h : T_X7_ordered_49 Q s0 M) : WP g 13 mX7_ordered 49 [none, none, none] [.int s0] M 0 (oI Q noX) := by
  unfold T_X7_ordered_49 at h
  exact R_retv (pc := 49) d_X7_ordered_49 h
def T_X7_ordered (Q : Int32 → Mem → Prop) (v0 : Nat) (v1 : Int32) (v2 : Int32) (M : Mem) : Prop := (kd v0 = 7) ∧ ∀ M2 : Mem, M2 = mset M v0 0 0 → T_X7_isInmate (fun y4 M3 => if y4 = 0 then (T_X7_fails (fun y14 M13 => Q y14 M13)  v0 1 M3) else ((kd (rf v0 1) = 9) ∧ (vp_in 3 (ln (rf v0 1))) ∧ T_X7_in (fun y8 M7 => if y8 = 0 then (T_X7_fails (fun y10 M9 => T_X7_ordered_49 Q y10 M9)  v0 2 M7) else (T_X7_orderedRoom (fun y12 M11 => T_X7_ordered_49 Q y12 M11)  v0 v1 v2 M7))  v2 0 ((M3.1 (rf v0 1) (Int32.toNatClampNeg 3)) - 1) M3))  v0 v1 M2
set_option maxRecDepth 100000 in
set_option maxHeartbeats 4000000 in
theorem c_X7_ordered {g : GG} (v0 : Nat) (v1 : Int32) (v2 : Int32) (M : Mem) (Q : Int32 → Mem → Prop) (h : T_X7_ordered Q v0 v1 v2 M) : CT g 13 mX7_ordered [.ref (g.1 + v0), .int v1, .int v2] M 0 (oI Q noX) := by
  refine CT_of (L := [some (.ref (g.1 + v0)), some (.int v1), some (.int v2)]) (by decide) rfl (Nat.le_of_ble_eq_true rfl) (ro_I rfl) rfl ?_
  unfold T_X7_ordered at h
  refine R_aload_n (pc := 0) d_X7_ordered_0 rfl rfl ?_
  refine R_iconst (pc := 1) (v := 0) d_X7_ordered_1 (by decide) ?_
  obtain ⟨k1, h⟩ := h
  refine R_putI (pc := 2) fld_RX7_37 rfl rfl rfl k1 rfl rfl d_X7_ordered_2 (N_M (fun M2 eM2 => ?_))
  have h := h M2 eM2
  refine R_aload_n (pc := 5) d_X7_ordered_5 rfl rfl ?_
  refine R_iload_n (pc := 6) d_X7_ordered_6 rfl rfl ?_
  refine R_callV (pc := 7) (As := [.int v1]) (rest := []) (c_X7_isInmate (g := g) v0 v1 M2 _ h) rfl rfl cal_RX7_179 ins_X7_isInmate sel_X7_isInmate (cls_at k1 clsOK7) (by decide) (by decide) rfl rfl (Nat.le_of_ble_eq_true rfl) d_X7_ordered_7 (k_Z (fun y4 M3 h => ?_)) (fun _ _ h9 => False.elim h9)
  try dsimp only at h
  refine R_if_ne (pc := 10) (tgt := 19) d_X7_ordered_10 (by decide) (fun c => ?_) (fun c => ?_)
  · rw [if_neg c] at h
    refine R_iload_n (pc := 19) d_X7_ordered_19 rfl rfl ?_
    refine R_iconst (pc := 20) (v := 0) d_X7_ordered_20 (by decide) ?_
    refine R_aload_n (pc := 21) d_X7_ordered_21 rfl rfl ?_
    refine R_getR (pc := 22) fld_RX7_7 rfl rfl k1 d_X7_ordered_22 ?_
    refine R_iconst (pc := 25) (v := 3) d_X7_ordered_25 (by decide) ?_
    obtain ⟨k5, h⟩ := h
    obtain ⟨k6, h⟩ := h
    refine R_iald (pc := 26) k5 k6 d_X7_ordered_26 ?_
    refine R_iconst (pc := 27) (v := 1) d_X7_ordered_27 (by decide) ?_
    refine R_isub (pc := 28) d_X7_ordered_28 ?_
    refine R_callS (pc := 29) (As := [.int v2, .int 0, .int ((M3.1 (rf v0 1) (Int32.toNatClampNeg 3)) - 1)]) (rest := []) (c_X7_in (g := g) v2 0 ((M3.1 (rf v0 1) (Int32.toNatClampNeg 3)) - 1) M3 _ h) rfl rfl cal_RX7_41 sta_X7_in (by decide) (by decide) rfl rfl (Nat.le_of_ble_eq_true rfl) d_X7_ordered_29 (k_Z (fun y8 M7 h => ?_)) (fun _ _ h9 => False.elim h9)
    try dsimp only at h
    refine R_if_eq (pc := 32) (tgt := 44) d_X7_ordered_32 (by decide) (fun c => ?_) (fun c => ?_)
    · rw [if_pos c] at h
      refine R_aload_n (pc := 44) d_X7_ordered_44 rfl rfl ?_
      refine R_iconst (pc := 45) (v := 2) d_X7_ordered_45 (by decide) ?_
      refine R_callV (pc := 46) (As := [.int 2]) (rest := []) (c_X7_fails (g := g) v0 2 M7 _ h) rfl rfl cal_RX7_163 ins_X7_fails sel_X7_fails (cls_at k1 clsOK7) (by decide) (by decide) rfl rfl (Nat.le_of_ble_eq_true rfl) d_X7_ordered_46 (k_I (fun y10 M9 h => ?_)) (fun _ _ h9 => False.elim h9)
      try dsimp only at h
      exact WP_sub (B_X7_ordered_49 Q y10 M9 h) (by decide) (ls_n (ls_n (ls_n ls_0)))
    · rw [if_neg c] at h
      refine R_aload_n (pc := 35) d_X7_ordered_35 rfl rfl ?_
      refine R_iload_n (pc := 36) d_X7_ordered_36 rfl rfl ?_
      refine R_iload_n (pc := 37) d_X7_ordered_37 rfl rfl ?_
      refine R_callV (pc := 38) (As := [.int v1, .int v2]) (rest := []) (c_X7_orderedRoom (g := g) v0 v1 v2 M7 _ h) rfl rfl cal_RX7_84 ins_X7_orderedRoom sel_X7_orderedRoom (cls_at k1 clsOK7) (by decide) (by decide) rfl rfl (Nat.le_of_ble_eq_true rfl) d_X7_ordered_38 (k_I (fun y12 M11 h => ?_)) (fun _ _ h9 => False.elim h9)
      try dsimp only at h
      refine R_goto (pc := 41) (tgt := 49) d_X7_ordered_41 (by decide) ?_
      exact WP_sub (B_X7_ordered_49 Q y12 M11 h) (by decide) (ls_n (ls_n (ls_n ls_0)))
  · rw [if_pos c] at h
    refine R_aload_n (pc := 13) d_X7_ordered_13 rfl rfl ?_
    refine R_iconst (pc := 14) (v := 1) d_X7_ordered_14 (by decide) ?_
    refine R_callV (pc := 15) (As := [.int 1]) (rest := []) (c_X7_fails (g := g) v0 1 M3 _ h) rfl rfl cal_RX7_163 ins_X7_fails sel_X7_fails (cls_at k1 clsOK7) (by decide) (by decide) rfl rfl (Nat.le_of_ble_eq_true rfl) d_X7_ordered_15 (k_I (fun y14 M13 h => ?_)) (fun _ _ h9 => False.elim h9)
    try dsimp only at h
    exact R_retv (pc := 18) d_X7_ordered_18 h
/-! X7_areVisitors -/
theorem d_X7_areVisitors_0 : decode mX7_areVisitors.2.1 0 = .ok (.iload_n 1, 1) := by decide +kernel
theorem d_X7_areVisitors_1 : decode mX7_areVisitors.2.1 1 = .ok (.ifCond .le 30, 3) := by decide +kernel
theorem d_X7_areVisitors_4 : decode mX7_areVisitors.2.1 4 = .ok (.iload_n 1, 1) := by decide +kernel
theorem d_X7_areVisitors_5 : decode mX7_areVisitors.2.1 5 = .ok (.aload_n 0, 1) := by decide +kernel
theorem d_X7_areVisitors_6 : decode mX7_areVisitors.2.1 6 = .ok (.getfield 7, 3) := by decide +kernel
theorem d_X7_areVisitors_9 : decode mX7_areVisitors.2.1 9 = .ok (.iconst 2, 1) := by decide +kernel
theorem d_X7_areVisitors_10 : decode mX7_areVisitors.2.1 10 = .ok (.iaload, 1) := by decide +kernel
theorem d_X7_areVisitors_11 : decode mX7_areVisitors.2.1 11 = .ok (.ishr, 1) := by decide +kernel
theorem d_X7_areVisitors_12 : decode mX7_areVisitors.2.1 12 = .ok (.ifCond .ne 19, 3) := by decide +kernel
theorem d_X7_areVisitors_15 : decode mX7_areVisitors.2.1 15 = .ok (.iload_n 1, 1) := by decide +kernel
theorem d_X7_areVisitors_16 : decode mX7_areVisitors.2.1 16 = .ok (.invokestatic 72, 3) := by decide +kernel
theorem d_X7_areVisitors_19 : decode mX7_areVisitors.2.1 19 = .ok (.iconst 1, 1) := by decide +kernel
theorem d_X7_areVisitors_20 : decode mX7_areVisitors.2.1 20 = .ok (.iconst 3, 1) := by decide +kernel
theorem d_X7_areVisitors_21 : decode mX7_areVisitors.2.1 21 = .ok (.invokestatic 41, 3) := by decide +kernel
theorem d_X7_areVisitors_24 : decode mX7_areVisitors.2.1 24 = .ok (.ifCond .eq 7, 3) := by decide +kernel
theorem d_X7_areVisitors_27 : decode mX7_areVisitors.2.1 27 = .ok (.iconst 1, 1) := by decide +kernel
theorem d_X7_areVisitors_28 : decode mX7_areVisitors.2.1 28 = .ok (.goto 4, 3) := by decide +kernel
theorem d_X7_areVisitors_31 : decode mX7_areVisitors.2.1 31 = .ok (.iconst 0, 1) := by decide +kernel
theorem d_X7_areVisitors_32 : decode mX7_areVisitors.2.1 32 = .ok (.ireturn, 1) := by decide +kernel
def T_X7_areVisitors_32 (Q : Int32 → Mem → Prop) (s0 : Int32) (M : Mem) : Prop := ((s0 : Int32) = 0 ∨ (s0 : Int32) = 1) ∧ Q s0 M
set_option maxRecDepth 100000 in
set_option maxHeartbeats 4000000 in
theorem B_X7_areVisitors_32 {g : GG} (Q : Int32 → Mem → Prop) (s0 : Int32) (M : Mem) (h : T_X7_areVisitors_32 Q s0 M) : WP g 10 mX7_areVisitors 32 [none, none] [.int s0] M 0 (oZ Q noX) := by
  unfold T_X7_areVisitors_32 at h
  exact R_retv (pc := 32) d_X7_areVisitors_32 h
def T_X7_areVisitors_31 (Q : Int32 → Mem → Prop) (M : Mem) : Prop := T_X7_areVisitors_32 Q 0 M
set_option maxRecDepth 100000 in
set_option maxHeartbeats 4000000 in
theorem B_X7_areVisitors_31 {g : GG} (Q : Int32 → Mem → Prop) (M : Mem) (h : T_X7_areVisitors_31 Q  M) : WP g 10 mX7_areVisitors 31 [none, none] [] M 0 (oZ Q noX) := by
  unfold T_X7_areVisitors_31 at h
  refine R_iconst (pc := 31) (v := 0) d_X7_areVisitors_31 (by decide) ?_
  exact WP_sub (B_X7_areVisitors_32 Q 0 M h) (by decide) (ls_n (ls_n ls_0))
def T_X7_areVisitors (Q : Int32 → Mem → Prop) (v0 : Nat) (v1 : Int32) (M : Mem) : Prop := if v1 ≤ 0 then (T_X7_areVisitors_31 Q M) else ((kd v0 = 7) ∧ (kd (rf v0 1) = 9) ∧ (vp_in 2 (ln (rf v0 1))) ∧ if (v1 >>> ((M.1 (rf v0 1) (Int32.toNatClampNeg 2)) &&& 31)) = 0 then (T_X7_bits (fun y5 M4 => T_X7_in (fun y7 M6 => if y7 = 0 then (T_X7_areVisitors_31 Q M6) else (T_X7_areVisitors_32 Q 1 M6))  y5 1 3 M4)  v1 M) else (T_X7_areVisitors_31 Q M))
set_option maxRecDepth 100000 in
set_option maxHeartbeats 4000000 in
theorem c_X7_areVisitors {g : GG} (v0 : Nat) (v1 : Int32) (M : Mem) (Q : Int32 → Mem → Prop) (h : T_X7_areVisitors Q v0 v1 M) : CT g 10 mX7_areVisitors [.ref (g.1 + v0), .int v1] M 0 (oZ Q noX) := by
  refine CT_of (L := [some (.ref (g.1 + v0)), some (.int v1)]) (by decide) rfl (Nat.le_of_ble_eq_true rfl) (ro_Z rfl) rfl ?_
  unfold T_X7_areVisitors at h
  refine R_iload_n (pc := 0) d_X7_areVisitors_0 rfl rfl ?_
  refine R_if_le (pc := 1) (tgt := 31) d_X7_areVisitors_1 (by decide) (fun c => ?_) (fun c => ?_)
  · rw [if_pos c] at h
    exact WP_sub (B_X7_areVisitors_31 Q M h) (by decide) (ls_n (ls_n ls_0))
  · rw [if_neg c] at h
    refine R_iload_n (pc := 4) d_X7_areVisitors_4 rfl rfl ?_
    refine R_aload_n (pc := 5) d_X7_areVisitors_5 rfl rfl ?_
    obtain ⟨k1, h⟩ := h
    refine R_getR (pc := 6) fld_RX7_7 rfl rfl k1 d_X7_areVisitors_6 ?_
    refine R_iconst (pc := 9) (v := 2) d_X7_areVisitors_9 (by decide) ?_
    obtain ⟨k2, h⟩ := h
    obtain ⟨k3, h⟩ := h
    refine R_iald (pc := 10) k2 k3 d_X7_areVisitors_10 ?_
    refine R_ishr (pc := 11) d_X7_areVisitors_11 ?_
    refine R_if_ne (pc := 12) (tgt := 31) d_X7_areVisitors_12 (by decide) (fun c => ?_) (fun c => ?_)
    · rw [if_neg c] at h
      exact WP_sub (B_X7_areVisitors_31 Q M h) (by decide) (ls_n (ls_n ls_0))
    · rw [if_pos c] at h
      refine R_iload_n (pc := 15) d_X7_areVisitors_15 rfl rfl ?_
      refine R_callS (pc := 16) (As := [.int v1]) (rest := []) (c_X7_bits (g := g) v1 M _ h) rfl rfl cal_RX7_72 sta_X7_bits (by decide) (by decide) rfl rfl (Nat.le_of_ble_eq_true rfl) d_X7_areVisitors_16 (k_I (fun y5 M4 h => ?_)) (fun _ _ h9 => False.elim h9)
      try dsimp only at h
      refine R_iconst (pc := 19) (v := 1) d_X7_areVisitors_19 (by decide) ?_
      refine R_iconst (pc := 20) (v := 3) d_X7_areVisitors_20 (by decide) ?_
      refine R_callS (pc := 21) (As := [.int y5, .int 1, .int 3]) (rest := []) (c_X7_in (g := g) y5 1 3 M4 _ h) rfl rfl cal_RX7_41 sta_X7_in (by decide) (by decide) rfl rfl (Nat.le_of_ble_eq_true rfl) d_X7_areVisitors_21 (k_Z (fun y7 M6 h => ?_)) (fun _ _ h9 => False.elim h9)
      try dsimp only at h
      refine R_if_eq (pc := 24) (tgt := 31) d_X7_areVisitors_24 (by decide) (fun c => ?_) (fun c => ?_)
      · rw [if_pos c] at h
        exact WP_sub (B_X7_areVisitors_31 Q M6 h) (by decide) (ls_n (ls_n ls_0))
      · rw [if_neg c] at h
        refine R_iconst (pc := 27) (v := 1) d_X7_areVisitors_27 (by decide) ?_
        refine R_goto (pc := 28) (tgt := 32) d_X7_areVisitors_28 (by decide) ?_
        exact WP_sub (B_X7_areVisitors_32 Q 1 M6 h) (by decide) (ls_n (ls_n ls_0))
/-! X7_reports -/
theorem d_X7_reports_0 : decode mX7_reports.2.1 0 = .ok (.aload_n 0, 1) := by decide +kernel
theorem d_X7_reports_1 : decode mX7_reports.2.1 1 = .ok (.iload 5, 2) := by decide +kernel
theorem d_X7_reports_3 : decode mX7_reports.2.1 3 = .ok (.iconst (-1), 1) := by decide +kernel
theorem d_X7_reports_4 : decode mX7_reports.2.1 4 = .ok (.if_icmp .ne 7, 3) := by decide +kernel
theorem d_X7_reports_7 : decode mX7_reports.2.1 7 = .ok (.iconst 2, 1) := by decide +kernel
theorem d_X7_reports_8 : decode mX7_reports.2.1 8 = .ok (.goto 4, 3) := by decide +kernel
theorem d_X7_reports_11 : decode mX7_reports.2.1 11 = .ok (.iconst 3, 1) := by decide +kernel
theorem d_X7_reports_12 : decode mX7_reports.2.1 12 = .ok (.putfield 191, 3) := by decide +kernel
theorem d_X7_reports_15 : decode mX7_reports.2.1 15 = .ok (.aload_n 0, 1) := by decide +kernel
theorem d_X7_reports_16 : decode mX7_reports.2.1 16 = .ok (.getfield 25, 3) := by decide +kernel
theorem d_X7_reports_19 : decode mX7_reports.2.1 19 = .ok (.iconst 0, 1) := by decide +kernel
theorem d_X7_reports_20 : decode mX7_reports.2.1 20 = .ok (.bipush 99, 2) := by decide +kernel
theorem d_X7_reports_22 : decode mX7_reports.2.1 22 = .ok (.iastore, 1) := by decide +kernel
theorem d_X7_reports_23 : decode mX7_reports.2.1 23 = .ok (.aload_n 0, 1) := by decide +kernel
theorem d_X7_reports_24 : decode mX7_reports.2.1 24 = .ok (.getfield 28, 3) := by decide +kernel
theorem d_X7_reports_27 : decode mX7_reports.2.1 27 = .ok (.iconst 0, 1) := by decide +kernel
theorem d_X7_reports_28 : decode mX7_reports.2.1 28 = .ok (.iload 5, 2) := by decide +kernel
theorem d_X7_reports_30 : decode mX7_reports.2.1 30 = .ok (.iastore, 1) := by decide +kernel
theorem d_X7_reports_31 : decode mX7_reports.2.1 31 = .ok (.aload_n 0, 1) := by decide +kernel
theorem d_X7_reports_32 : decode mX7_reports.2.1 32 = .ok (.getfield 25, 3) := by decide +kernel
theorem d_X7_reports_35 : decode mX7_reports.2.1 35 = .ok (.aload_n 0, 1) := by decide +kernel
theorem d_X7_reports_36 : decode mX7_reports.2.1 36 = .ok (.getfield 191, 3) := by decide +kernel
theorem d_X7_reports_39 : decode mX7_reports.2.1 39 = .ok (.iconst 2, 1) := by decide +kernel
theorem d_X7_reports_40 : decode mX7_reports.2.1 40 = .ok (.isub, 1) := by decide +kernel
theorem d_X7_reports_41 : decode mX7_reports.2.1 41 = .ok (.iload_n 1, 1) := by decide +kernel
theorem d_X7_reports_42 : decode mX7_reports.2.1 42 = .ok (.iastore, 1) := by decide +kernel
theorem d_X7_reports_43 : decode mX7_reports.2.1 43 = .ok (.aload_n 0, 1) := by decide +kernel
theorem d_X7_reports_44 : decode mX7_reports.2.1 44 = .ok (.getfield 28, 3) := by decide +kernel
theorem d_X7_reports_47 : decode mX7_reports.2.1 47 = .ok (.aload_n 0, 1) := by decide +kernel
theorem d_X7_reports_48 : decode mX7_reports.2.1 48 = .ok (.getfield 191, 3) := by decide +kernel
theorem d_X7_reports_51 : decode mX7_reports.2.1 51 = .ok (.iconst 2, 1) := by decide +kernel
theorem d_X7_reports_52 : decode mX7_reports.2.1 52 = .ok (.isub, 1) := by decide +kernel
theorem d_X7_reports_53 : decode mX7_reports.2.1 53 = .ok (.iconst 4, 1) := by decide +kernel
theorem d_X7_reports_54 : decode mX7_reports.2.1 54 = .ok (.iload_n 2, 1) := by decide +kernel
theorem d_X7_reports_55 : decode mX7_reports.2.1 55 = .ok (.imul, 1) := by decide +kernel
theorem d_X7_reports_56 : decode mX7_reports.2.1 56 = .ok (.iload_n 3, 1) := by decide +kernel
theorem d_X7_reports_57 : decode mX7_reports.2.1 57 = .ok (.iadd, 1) := by decide +kernel
theorem d_X7_reports_58 : decode mX7_reports.2.1 58 = .ok (.iastore, 1) := by decide +kernel
theorem d_X7_reports_59 : decode mX7_reports.2.1 59 = .ok (.aload_n 0, 1) := by decide +kernel
theorem d_X7_reports_60 : decode mX7_reports.2.1 60 = .ok (.getfield 25, 3) := by decide +kernel
theorem d_X7_reports_63 : decode mX7_reports.2.1 63 = .ok (.aload_n 0, 1) := by decide +kernel
theorem d_X7_reports_64 : decode mX7_reports.2.1 64 = .ok (.getfield 191, 3) := by decide +kernel
theorem d_X7_reports_67 : decode mX7_reports.2.1 67 = .ok (.iconst 1, 1) := by decide +kernel
theorem d_X7_reports_68 : decode mX7_reports.2.1 68 = .ok (.isub, 1) := by decide +kernel
theorem d_X7_reports_69 : decode mX7_reports.2.1 69 = .ok (.iload 4, 2) := by decide +kernel
theorem d_X7_reports_71 : decode mX7_reports.2.1 71 = .ok (.iastore, 1) := by decide +kernel
theorem d_X7_reports_72 : decode mX7_reports.2.1 72 = .ok (.aload_n 0, 1) := by decide +kernel
theorem d_X7_reports_73 : decode mX7_reports.2.1 73 = .ok (.getfield 28, 3) := by decide +kernel
theorem d_X7_reports_76 : decode mX7_reports.2.1 76 = .ok (.aload_n 0, 1) := by decide +kernel
theorem d_X7_reports_77 : decode mX7_reports.2.1 77 = .ok (.getfield 191, 3) := by decide +kernel
theorem d_X7_reports_80 : decode mX7_reports.2.1 80 = .ok (.iconst 1, 1) := by decide +kernel
theorem d_X7_reports_81 : decode mX7_reports.2.1 81 = .ok (.isub, 1) := by decide +kernel
theorem d_X7_reports_82 : decode mX7_reports.2.1 82 = .ok (.aload_n 0, 1) := by decide +kernel
theorem d_X7_reports_83 : decode mX7_reports.2.1 83 = .ok (.getfield 101, 3) := by decide +kernel
theorem d_X7_reports_86 : decode mX7_reports.2.1 86 = .ok (.iastore, 1) := by decide +kernel
theorem d_X7_reports_87 : decode mX7_reports.2.1 87 = .ok (.return_, 1) := by decide +kernel
def T_X7_reports_12 (Q : Mem → Prop) (v0 : Nat) (v1 : Int32) (v2 : Int32) (v3 : Int32) (v4 : Int32) (v5 : Int32) (s0 : Int32) (s1 : Nat) (M : Mem) : Prop := (kd s1 = 7) ∧ ∀ M2 : Mem, M2 = mset M s1 11 s0 → (kd v0 = 7) ∧ (kd (rf v0 9) = 9) ∧ (vp_in 0 (ln (rf v0 9))) ∧ ∀ M6 : Mem, M6 = mset M2 (rf v0 9) (Int32.toNatClampNeg 0) 99 → (kd (rf v0 10) = 9) ∧ (vp_in 0 (ln (rf v0 10))) ∧ ∀ M9 : Mem, M9 = mset M6 (rf v0 10) (Int32.toNatClampNeg 0) v5 → (vp_in ((M9.1 v0 11) - 2) (ln (rf v0 9))) ∧ ∀ M11 : Mem, M11 = mset M9 (rf v0 9) (Int32.toNatClampNeg ((M9.1 v0 11) - 2)) v1 → (vp_in ((M11.1 v0 11) - 2) (ln (rf v0 10))) ∧ ∀ M13 : Mem, M13 = mset M11 (rf v0 10) (Int32.toNatClampNeg ((M11.1 v0 11) - 2)) ((4 * v2) + v3) → (vp_in ((M13.1 v0 11) - 1) (ln (rf v0 9))) ∧ ∀ M15 : Mem, M15 = mset M13 (rf v0 9) (Int32.toNatClampNeg ((M13.1 v0 11) - 1)) v4 → (vp_in ((M15.1 v0 11) - 1) (ln (rf v0 10))) ∧ ∀ M17 : Mem, M17 = mset M15 (rf v0 10) (Int32.toNatClampNeg ((M15.1 v0 11) - 1)) (M15.1 v0 13) → Q M17
set_option maxRecDepth 100000 in
set_option maxHeartbeats 4000000 in
theorem B_X7_reports_12 {g : GG} (Q : Mem → Prop) (v0 : Nat) (v1 : Int32) (v2 : Int32) (v3 : Int32) (v4 : Int32) (v5 : Int32) (s0 : Int32) (s1 : Nat) (M : Mem) (h : T_X7_reports_12 Q v0 v1 v2 v3 v4 v5 s0 s1 M) : WP g 9 mX7_reports 12 [some (.ref (g.1 + v0)), some (.int v1), some (.int v2), some (.int v3), some (.int v4), some (.int v5)] [.int s0, .ref (g.1 + s1)] M 0 (oV Q noX) := by
  unfold T_X7_reports_12 at h
  obtain ⟨k1, h⟩ := h
  refine R_putI (pc := 12) fld_RX7_191 rfl rfl rfl k1 rfl rfl d_X7_reports_12 (N_M (fun M2 eM2 => ?_))
  have h := h M2 eM2
  refine R_aload_n (pc := 15) d_X7_reports_15 rfl rfl ?_
  obtain ⟨k3, h⟩ := h
  refine R_getR (pc := 16) fld_RX7_25 rfl rfl k3 d_X7_reports_16 ?_
  refine R_iconst (pc := 19) (v := 0) d_X7_reports_19 (by decide) ?_
  refine R_bipush (pc := 20) (v := 99) d_X7_reports_20 (by decide) ?_
  obtain ⟨k4, h⟩ := h
  obtain ⟨k5, h⟩ := h
  refine R_iast (pc := 22) k4 k5 d_X7_reports_22 (N_M (fun M6 eM6 => ?_))
  have h := h M6 eM6
  refine R_aload_n (pc := 23) d_X7_reports_23 rfl rfl ?_
  refine R_getR (pc := 24) fld_RX7_28 rfl rfl k3 d_X7_reports_24 ?_
  refine R_iconst (pc := 27) (v := 0) d_X7_reports_27 (by decide) ?_
  refine R_iload (pc := 28) d_X7_reports_28 rfl ?_
  obtain ⟨k7, h⟩ := h
  obtain ⟨k8, h⟩ := h
  refine R_iast (pc := 30) k7 k8 d_X7_reports_30 (N_M (fun M9 eM9 => ?_))
  have h := h M9 eM9
  refine R_aload_n (pc := 31) d_X7_reports_31 rfl rfl ?_
  refine R_getR (pc := 32) fld_RX7_25 rfl rfl k3 d_X7_reports_32 ?_
  refine R_aload_n (pc := 35) d_X7_reports_35 rfl rfl ?_
  refine R_getI (pc := 36) fld_RX7_191 rfl rfl k3 d_X7_reports_36 ?_
  refine R_iconst (pc := 39) (v := 2) d_X7_reports_39 (by decide) ?_
  refine R_isub (pc := 40) d_X7_reports_40 ?_
  refine R_iload_n (pc := 41) d_X7_reports_41 rfl rfl ?_
  obtain ⟨k10, h⟩ := h
  refine R_iast (pc := 42) k4 k10 d_X7_reports_42 (N_M (fun M11 eM11 => ?_))
  have h := h M11 eM11
  refine R_aload_n (pc := 43) d_X7_reports_43 rfl rfl ?_
  refine R_getR (pc := 44) fld_RX7_28 rfl rfl k3 d_X7_reports_44 ?_
  refine R_aload_n (pc := 47) d_X7_reports_47 rfl rfl ?_
  refine R_getI (pc := 48) fld_RX7_191 rfl rfl k3 d_X7_reports_48 ?_
  refine R_iconst (pc := 51) (v := 2) d_X7_reports_51 (by decide) ?_
  refine R_isub (pc := 52) d_X7_reports_52 ?_
  refine R_iconst (pc := 53) (v := 4) d_X7_reports_53 (by decide) ?_
  refine R_iload_n (pc := 54) d_X7_reports_54 rfl rfl ?_
  refine R_imul (pc := 55) d_X7_reports_55 ?_
  refine R_iload_n (pc := 56) d_X7_reports_56 rfl rfl ?_
  refine R_iadd (pc := 57) d_X7_reports_57 ?_
  obtain ⟨k12, h⟩ := h
  refine R_iast (pc := 58) k7 k12 d_X7_reports_58 (N_M (fun M13 eM13 => ?_))
  have h := h M13 eM13
  refine R_aload_n (pc := 59) d_X7_reports_59 rfl rfl ?_
  refine R_getR (pc := 60) fld_RX7_25 rfl rfl k3 d_X7_reports_60 ?_
  refine R_aload_n (pc := 63) d_X7_reports_63 rfl rfl ?_
  refine R_getI (pc := 64) fld_RX7_191 rfl rfl k3 d_X7_reports_64 ?_
  refine R_iconst (pc := 67) (v := 1) d_X7_reports_67 (by decide) ?_
  refine R_isub (pc := 68) d_X7_reports_68 ?_
  refine R_iload (pc := 69) d_X7_reports_69 rfl ?_
  obtain ⟨k14, h⟩ := h
  refine R_iast (pc := 71) k4 k14 d_X7_reports_71 (N_M (fun M15 eM15 => ?_))
  have h := h M15 eM15
  refine R_aload_n (pc := 72) d_X7_reports_72 rfl rfl ?_
  refine R_getR (pc := 73) fld_RX7_28 rfl rfl k3 d_X7_reports_73 ?_
  refine R_aload_n (pc := 76) d_X7_reports_76 rfl rfl ?_
  refine R_getI (pc := 77) fld_RX7_191 rfl rfl k3 d_X7_reports_77 ?_
  refine R_iconst (pc := 80) (v := 1) d_X7_reports_80 (by decide) ?_
  refine R_isub (pc := 81) d_X7_reports_81 ?_
  refine R_aload_n (pc := 82) d_X7_reports_82 rfl rfl ?_
  refine R_getI (pc := 83) fld_RX7_101 rfl rfl k3 d_X7_reports_83 ?_
  obtain ⟨k16, h⟩ := h
  refine R_iast (pc := 86) k7 k16 d_X7_reports_86 (N_M (fun M17 eM17 => ?_))
  have h := h M17 eM17
  exact R_ret (pc := 87) d_X7_reports_87 h
def T_X7_reports (Q : Mem → Prop) (v0 : Nat) (v1 : Int32) (v2 : Int32) (v3 : Int32) (v4 : Int32) (v5 : Int32) (M : Mem) : Prop := if v5 = ((-1) : Int32) then (T_X7_reports_12 Q v0 v1 v2 v3 v4 v5 2 v0 M) else (T_X7_reports_12 Q v0 v1 v2 v3 v4 v5 3 v0 M)
set_option maxRecDepth 100000 in
set_option maxHeartbeats 4000000 in
theorem c_X7_reports {g : GG} (v0 : Nat) (v1 : Int32) (v2 : Int32) (v3 : Int32) (v4 : Int32) (v5 : Int32) (M : Mem) (Q : Mem → Prop) (h : T_X7_reports Q v0 v1 v2 v3 v4 v5 M) : CT g 9 mX7_reports [.ref (g.1 + v0), .int v1, .int v2, .int v3, .int v4, .int v5] M 0 (oV Q noX) := by
  refine CT_of (L := [some (.ref (g.1 + v0)), some (.int v1), some (.int v2), some (.int v3), some (.int v4), some (.int v5)]) (by decide) rfl (Nat.le_of_ble_eq_true rfl) (ro_V rfl) rfl ?_
  unfold T_X7_reports at h
  refine R_aload_n (pc := 0) d_X7_reports_0 rfl rfl ?_
  refine R_iload (pc := 1) d_X7_reports_1 rfl ?_
  refine R_iconst (pc := 3) (v := (-1)) d_X7_reports_3 (by decide) ?_
  refine R_icmp_ne (pc := 4) (tgt := 11) d_X7_reports_4 (by decide) (fun c => ?_) (fun c => ?_)
  · rw [if_neg c] at h
    refine R_iconst (pc := 11) (v := 3) d_X7_reports_11 (by decide) ?_
    exact WP_sub (B_X7_reports_12 Q v0 v1 v2 v3 v4 v5 3 v0 M h) (by decide) (ls_s (ls_s (ls_s (ls_s (ls_s (ls_s ls_0))))))
  · rw [if_pos c] at h
    refine R_iconst (pc := 7) (v := 2) d_X7_reports_7 (by decide) ?_
    refine R_goto (pc := 8) (tgt := 12) d_X7_reports_8 (by decide) ?_
    exact WP_sub (B_X7_reports_12 Q v0 v1 v2 v3 v4 v5 2 v0 M h) (by decide) (ls_s (ls_s (ls_s (ls_s (ls_s (ls_s ls_0))))))
/-! X7_booking -/
theorem d_X7_booking_0 : decode mX7_booking.2.1 0 = .ok (.aload_n 0, 1) := by decide +kernel
theorem d_X7_booking_1 : decode mX7_booking.2.1 1 = .ok (.iload_n 1, 1) := by decide +kernel
theorem d_X7_booking_2 : decode mX7_booking.2.1 2 = .ok (.invokevirtual 179, 3) := by decide +kernel
theorem d_X7_booking_5 : decode mX7_booking.2.1 5 = .ok (.ifCond .ne 5, 3) := by decide +kernel
theorem d_X7_booking_8 : decode mX7_booking.2.1 8 = .ok (.iconst 1, 1) := by decide +kernel
theorem d_X7_booking_9 : decode mX7_booking.2.1 9 = .ok (.ireturn, 1) := by decide +kernel
theorem d_X7_booking_10 : decode mX7_booking.2.1 10 = .ok (.aload_n 0, 1) := by decide +kernel
theorem d_X7_booking_11 : decode mX7_booking.2.1 11 = .ok (.iload_n 2, 1) := by decide +kernel
theorem d_X7_booking_12 : decode mX7_booking.2.1 12 = .ok (.invokevirtual 194, 3) := by decide +kernel
theorem d_X7_booking_15 : decode mX7_booking.2.1 15 = .ok (.ifCond .eq 23, 3) := by decide +kernel
theorem d_X7_booking_18 : decode mX7_booking.2.1 18 = .ok (.iload_n 3, 1) := by decide +kernel
theorem d_X7_booking_19 : decode mX7_booking.2.1 19 = .ok (.iconst 0, 1) := by decide +kernel
theorem d_X7_booking_20 : decode mX7_booking.2.1 20 = .ok (.bipush 55, 2) := by decide +kernel
theorem d_X7_booking_22 : decode mX7_booking.2.1 22 = .ok (.invokestatic 41, 3) := by decide +kernel
theorem d_X7_booking_25 : decode mX7_booking.2.1 25 = .ok (.ifCond .eq 13, 3) := by decide +kernel
theorem d_X7_booking_28 : decode mX7_booking.2.1 28 = .ok (.iload 4, 2) := by decide +kernel
theorem d_X7_booking_30 : decode mX7_booking.2.1 30 = .ok (.iconst 0, 1) := by decide +kernel
theorem d_X7_booking_31 : decode mX7_booking.2.1 31 = .ok (.iconst 3, 1) := by decide +kernel
theorem d_X7_booking_32 : decode mX7_booking.2.1 32 = .ok (.invokestatic 41, 3) := by decide +kernel
theorem d_X7_booking_35 : decode mX7_booking.2.1 35 = .ok (.ifCond .ne 5, 3) := by decide +kernel
theorem d_X7_booking_38 : decode mX7_booking.2.1 38 = .ok (.iconst 2, 1) := by decide +kernel
theorem d_X7_booking_39 : decode mX7_booking.2.1 39 = .ok (.ireturn, 1) := by decide +kernel
theorem d_X7_booking_40 : decode mX7_booking.2.1 40 = .ok (.aload_n 0, 1) := by decide +kernel
theorem d_X7_booking_41 : decode mX7_booking.2.1 41 = .ok (.iload_n 1, 1) := by decide +kernel
theorem d_X7_booking_42 : decode mX7_booking.2.1 42 = .ok (.iload_n 2, 1) := by decide +kernel
theorem d_X7_booking_43 : decode mX7_booking.2.1 43 = .ok (.iload_n 3, 1) := by decide +kernel
theorem d_X7_booking_44 : decode mX7_booking.2.1 44 = .ok (.iload 4, 2) := by decide +kernel
theorem d_X7_booking_46 : decode mX7_booking.2.1 46 = .ok (.invokevirtual 140, 3) := by decide +kernel
theorem d_X7_booking_49 : decode mX7_booking.2.1 49 = .ok (.istore 6, 2) := by decide +kernel
theorem d_X7_booking_51 : decode mX7_booking.2.1 51 = .ok (.iload 6, 2) := by decide +kernel
theorem d_X7_booking_53 : decode mX7_booking.2.1 53 = .ok (.ifCond .le 17, 3) := by decide +kernel
theorem d_X7_booking_56 : decode mX7_booking.2.1 56 = .ok (.aload_n 0, 1) := by decide +kernel
theorem d_X7_booking_57 : decode mX7_booking.2.1 57 = .ok (.iload_n 1, 1) := by decide +kernel
theorem d_X7_booking_58 : decode mX7_booking.2.1 58 = .ok (.iload_n 3, 1) := by decide +kernel
theorem d_X7_booking_59 : decode mX7_booking.2.1 59 = .ok (.iload 4, 2) := by decide +kernel
theorem d_X7_booking_61 : decode mX7_booking.2.1 61 = .ok (.iload 6, 2) := by decide +kernel
theorem d_X7_booking_63 : decode mX7_booking.2.1 63 = .ok (.iload 5, 2) := by decide +kernel
theorem d_X7_booking_65 : decode mX7_booking.2.1 65 = .ok (.invokevirtual 197, 3) := by decide +kernel
theorem d_X7_booking_68 : decode mX7_booking.2.1 68 = .ok (.iconst 3, 1) := by decide +kernel
theorem d_X7_booking_69 : decode mX7_booking.2.1 69 = .ok (.ireturn, 1) := by decide +kernel
theorem d_X7_booking_70 : decode mX7_booking.2.1 70 = .ok (.aload_n 0, 1) := by decide +kernel
theorem d_X7_booking_71 : decode mX7_booking.2.1 71 = .ok (.aload_n 0, 1) := by decide +kernel
theorem d_X7_booking_72 : decode mX7_booking.2.1 72 = .ok (.iload_n 1, 1) := by decide +kernel
theorem d_X7_booking_73 : decode mX7_booking.2.1 73 = .ok (.iload_n 2, 1) := by decide +kernel
theorem d_X7_booking_74 : decode mX7_booking.2.1 74 = .ok (.iload_n 3, 1) := by decide +kernel
theorem d_X7_booking_75 : decode mX7_booking.2.1 75 = .ok (.iload 4, 2) := by decide +kernel
theorem d_X7_booking_77 : decode mX7_booking.2.1 77 = .ok (.aload_n 0, 1) := by decide +kernel
theorem d_X7_booking_78 : decode mX7_booking.2.1 78 = .ok (.getfield 127, 3) := by decide +kernel
theorem d_X7_booking_81 : decode mX7_booking.2.1 81 = .ok (.invokevirtual 143, 3) := by decide +kernel
theorem d_X7_booking_84 : decode mX7_booking.2.1 84 = .ok (.putfield 201, 3) := by decide +kernel
theorem d_X7_booking_87 : decode mX7_booking.2.1 87 = .ok (.iconst 0, 1) := by decide +kernel
theorem d_X7_booking_88 : decode mX7_booking.2.1 88 = .ok (.ireturn, 1) := by decide +kernel
def T_X7_booking_38 (Q : Int32 → Mem → Prop) (M : Mem) : Prop := Q 2 M
set_option maxRecDepth 100000 in
set_option maxHeartbeats 4000000 in
theorem B_X7_booking_38 {g : GG} (Q : Int32 → Mem → Prop) (M : Mem) (h : T_X7_booking_38 Q  M) : WP g 16 mX7_booking 38 [none, none, none, none, none, none, none] [] M 0 (oI Q noX) := by
  unfold T_X7_booking_38 at h
  refine R_iconst (pc := 38) (v := 2) d_X7_booking_38 (by decide) ?_
  exact R_retv (pc := 39) d_X7_booking_39 h
def T_X7_booking (Q : Int32 → Mem → Prop) (v0 : Nat) (v1 : Int32) (v2 : Int32) (v3 : Int32) (v4 : Int32) (v5 : Int32) (M : Mem) : Prop := (kd v0 = 7) ∧ T_X7_isInmate (fun y3 M2 => if y3 = 0 then (Q 1 M2) else (T_X7_areVisitors (fun y5 M4 => if y5 = 0 then (T_X7_booking_38 Q M4) else (T_X7_in (fun y7 M6 => if y7 = 0 then (T_X7_booking_38 Q M6) else (T_X7_in (fun y9 M8 => if y9 = 0 then (T_X7_booking_38 Q M8) else (T_X7_reasonOf (fun y11 M10 => if y11 ≤ 0 then (T_X7_adds (fun y13 M12 => ∀ M14 : Mem, M14 = mset M12 v0 15 y13 → Q 0 M14)  v0 v1 v2 v3 v4 (M10.1 v0 14) M10) else (T_X7_reports (fun M15 => Q 3 M15)  v0 v1 v3 v4 y11 v5 M10))  v0 v1 v2 v3 v4 M8))  v4 0 3 M6))  v3 0 55 M4))  v0 v2 M2))  v0 v1 M
set_option maxRecDepth 100000 in
set_option maxHeartbeats 4000000 in
theorem c_X7_booking {g : GG} (v0 : Nat) (v1 : Int32) (v2 : Int32) (v3 : Int32) (v4 : Int32) (v5 : Int32) (M : Mem) (Q : Int32 → Mem → Prop) (h : T_X7_booking Q v0 v1 v2 v3 v4 v5 M) : CT g 16 mX7_booking [.ref (g.1 + v0), .int v1, .int v2, .int v3, .int v4, .int v5] M 0 (oI Q noX) := by
  refine CT_of (L := [some (.ref (g.1 + v0)), some (.int v1), some (.int v2), some (.int v3), some (.int v4), some (.int v5), none]) (by decide) rfl (Nat.le_of_ble_eq_true rfl) (ro_I rfl) rfl ?_
  unfold T_X7_booking at h
  refine R_aload_n (pc := 0) d_X7_booking_0 rfl rfl ?_
  refine R_iload_n (pc := 1) d_X7_booking_1 rfl rfl ?_
  obtain ⟨k1, h⟩ := h
  refine R_callV (pc := 2) (As := [.int v1]) (rest := []) (c_X7_isInmate (g := g) v0 v1 M _ h) rfl rfl cal_RX7_179 ins_X7_isInmate sel_X7_isInmate (cls_at k1 clsOK7) (by decide) (by decide) rfl rfl (Nat.le_of_ble_eq_true rfl) d_X7_booking_2 (k_Z (fun y3 M2 h => ?_)) (fun _ _ h9 => False.elim h9)
  try dsimp only at h
  refine R_if_ne (pc := 5) (tgt := 10) d_X7_booking_5 (by decide) (fun c => ?_) (fun c => ?_)
  · rw [if_neg c] at h
    refine R_aload_n (pc := 10) d_X7_booking_10 rfl rfl ?_
    refine R_iload_n (pc := 11) d_X7_booking_11 rfl rfl ?_
    refine R_callV (pc := 12) (As := [.int v2]) (rest := []) (c_X7_areVisitors (g := g) v0 v2 M2 _ h) rfl rfl cal_RX7_194 ins_X7_areVisitors sel_X7_areVisitors (cls_at k1 clsOK7) (by decide) (by decide) rfl rfl (Nat.le_of_ble_eq_true rfl) d_X7_booking_12 (k_Z (fun y5 M4 h => ?_)) (fun _ _ h9 => False.elim h9)
    try dsimp only at h
    refine R_if_eq (pc := 15) (tgt := 38) d_X7_booking_15 (by decide) (fun c => ?_) (fun c => ?_)
    · rw [if_pos c] at h
      exact WP_sub (B_X7_booking_38 Q M4 h) (by decide) (ls_n (ls_n (ls_n (ls_n (ls_n (ls_n (ls_n ls_0)))))))
    · rw [if_neg c] at h
      refine R_iload_n (pc := 18) d_X7_booking_18 rfl rfl ?_
      refine R_iconst (pc := 19) (v := 0) d_X7_booking_19 (by decide) ?_
      refine R_bipush (pc := 20) (v := 55) d_X7_booking_20 (by decide) ?_
      refine R_callS (pc := 22) (As := [.int v3, .int 0, .int 55]) (rest := []) (c_X7_in (g := g) v3 0 55 M4 _ h) rfl rfl cal_RX7_41 sta_X7_in (by decide) (by decide) rfl rfl (Nat.le_of_ble_eq_true rfl) d_X7_booking_22 (k_Z (fun y7 M6 h => ?_)) (fun _ _ h9 => False.elim h9)
      try dsimp only at h
      refine R_if_eq (pc := 25) (tgt := 38) d_X7_booking_25 (by decide) (fun c => ?_) (fun c => ?_)
      · rw [if_pos c] at h
        exact WP_sub (B_X7_booking_38 Q M6 h) (by decide) (ls_n (ls_n (ls_n (ls_n (ls_n (ls_n (ls_n ls_0)))))))
      · rw [if_neg c] at h
        refine R_iload (pc := 28) d_X7_booking_28 rfl ?_
        refine R_iconst (pc := 30) (v := 0) d_X7_booking_30 (by decide) ?_
        refine R_iconst (pc := 31) (v := 3) d_X7_booking_31 (by decide) ?_
        refine R_callS (pc := 32) (As := [.int v4, .int 0, .int 3]) (rest := []) (c_X7_in (g := g) v4 0 3 M6 _ h) rfl rfl cal_RX7_41 sta_X7_in (by decide) (by decide) rfl rfl (Nat.le_of_ble_eq_true rfl) d_X7_booking_32 (k_Z (fun y9 M8 h => ?_)) (fun _ _ h9 => False.elim h9)
        try dsimp only at h
        refine R_if_ne (pc := 35) (tgt := 40) d_X7_booking_35 (by decide) (fun c => ?_) (fun c => ?_)
        · rw [if_neg c] at h
          refine R_aload_n (pc := 40) d_X7_booking_40 rfl rfl ?_
          refine R_iload_n (pc := 41) d_X7_booking_41 rfl rfl ?_
          refine R_iload_n (pc := 42) d_X7_booking_42 rfl rfl ?_
          refine R_iload_n (pc := 43) d_X7_booking_43 rfl rfl ?_
          refine R_iload (pc := 44) d_X7_booking_44 rfl ?_
          refine R_callV (pc := 46) (As := [.int v1, .int v2, .int v3, .int v4]) (rest := []) (c_X7_reasonOf (g := g) v0 v1 v2 v3 v4 M8 _ h) rfl rfl cal_RX7_140 ins_X7_reasonOf sel_X7_reasonOf (cls_at k1 clsOK7) (by decide) (by decide) rfl rfl (Nat.le_of_ble_eq_true rfl) d_X7_booking_46 (k_I (fun y11 M10 h => ?_)) (fun _ _ h9 => False.elim h9)
          try dsimp only at h
          refine R_istore (pc := 49) (L' := [some (.ref (g.1 + v0)), some (.int v1), some (.int v2), some (.int v3), some (.int v4), some (.int v5), some (.int y11)]) d_X7_booking_49 (by decide) rfl ?_
          refine R_iload (pc := 51) d_X7_booking_51 rfl ?_
          refine R_if_le (pc := 53) (tgt := 70) d_X7_booking_53 (by decide) (fun c => ?_) (fun c => ?_)
          · rw [if_pos c] at h
            refine R_aload_n (pc := 70) d_X7_booking_70 rfl rfl ?_
            refine R_aload_n (pc := 71) d_X7_booking_71 rfl rfl ?_
            refine R_iload_n (pc := 72) d_X7_booking_72 rfl rfl ?_
            refine R_iload_n (pc := 73) d_X7_booking_73 rfl rfl ?_
            refine R_iload_n (pc := 74) d_X7_booking_74 rfl rfl ?_
            refine R_iload (pc := 75) d_X7_booking_75 rfl ?_
            refine R_aload_n (pc := 77) d_X7_booking_77 rfl rfl ?_
            refine R_getI (pc := 78) fld_RX7_127 rfl rfl k1 d_X7_booking_78 ?_
            refine R_callV (pc := 81) (As := [.int v1, .int v2, .int v3, .int v4, .int (M10.1 v0 14)]) (rest := [.ref (g.1 + v0)]) (c_X7_adds (g := g) v0 v1 v2 v3 v4 (M10.1 v0 14) M10 _ h) rfl rfl cal_RX7_143 ins_X7_adds sel_X7_adds (cls_at k1 clsOK7) (by decide) (by decide) rfl rfl (Nat.le_of_ble_eq_true rfl) d_X7_booking_81 (k_I (fun y13 M12 h => ?_)) (fun _ _ h9 => False.elim h9)
            try dsimp only at h
            refine R_putI (pc := 84) fld_RX7_201 rfl rfl rfl k1 rfl rfl d_X7_booking_84 (N_M (fun M14 eM14 => ?_))
            have h := h M14 eM14
            refine R_iconst (pc := 87) (v := 0) d_X7_booking_87 (by decide) ?_
            exact R_retv (pc := 88) d_X7_booking_88 h
          · rw [if_neg c] at h
            refine R_aload_n (pc := 56) d_X7_booking_56 rfl rfl ?_
            refine R_iload_n (pc := 57) d_X7_booking_57 rfl rfl ?_
            refine R_iload_n (pc := 58) d_X7_booking_58 rfl rfl ?_
            refine R_iload (pc := 59) d_X7_booking_59 rfl ?_
            refine R_iload (pc := 61) d_X7_booking_61 rfl ?_
            refine R_iload (pc := 63) d_X7_booking_63 rfl ?_
            refine R_callV (pc := 65) (As := [.int v1, .int v3, .int v4, .int y11, .int v5]) (rest := []) (c_X7_reports (g := g) v0 v1 v3 v4 y11 v5 M10 _ h) rfl rfl cal_RX7_197 ins_X7_reports sel_X7_reports (cls_at k1 clsOK7) (by decide) (by decide) rfl rfl (Nat.le_of_ble_eq_true rfl) d_X7_booking_65 (k_V (fun M15 h => ?_)) (fun _ _ h9 => False.elim h9)
            try dsimp only at h
            refine R_iconst (pc := 68) (v := 3) d_X7_booking_68 (by decide) ?_
            exact R_retv (pc := 69) d_X7_booking_69 h
        · rw [if_pos c] at h
          exact WP_sub (B_X7_booking_38 Q M8 h) (by decide) (ls_n (ls_n (ls_n (ls_n (ls_n (ls_n (ls_n ls_0)))))))
  · rw [if_pos c] at h
    refine R_iconst (pc := 8) (v := 1) d_X7_booking_8 (by decide) ?_
    exact R_retv (pc := 9) d_X7_booking_9 h
/-! X7_book -/
theorem d_X7_book_0 : decode mX7_book.2.1 0 = .ok (.aload_n 0, 1) := by decide +kernel
theorem d_X7_book_1 : decode mX7_book.2.1 1 = .ok (.invokevirtual 160, 3) := by decide +kernel
theorem d_X7_book_4 : decode mX7_book.2.1 4 = .ok (.aload_n 0, 1) := by decide +kernel
theorem d_X7_book_5 : decode mX7_book.2.1 5 = .ok (.aload_n 0, 1) := by decide +kernel
theorem d_X7_book_6 : decode mX7_book.2.1 6 = .ok (.iload_n 1, 1) := by decide +kernel
theorem d_X7_book_7 : decode mX7_book.2.1 7 = .ok (.iload_n 2, 1) := by decide +kernel
theorem d_X7_book_8 : decode mX7_book.2.1 8 = .ok (.iload_n 3, 1) := by decide +kernel
theorem d_X7_book_9 : decode mX7_book.2.1 9 = .ok (.iload 4, 2) := by decide +kernel
theorem d_X7_book_11 : decode mX7_book.2.1 11 = .ok (.iconst (-1), 1) := by decide +kernel
theorem d_X7_book_12 : decode mX7_book.2.1 12 = .ok (.invokevirtual 204, 3) := by decide +kernel
theorem d_X7_book_15 : decode mX7_book.2.1 15 = .ok (.putfield 37, 3) := by decide +kernel
theorem d_X7_book_18 : decode mX7_book.2.1 18 = .ok (.aload_n 0, 1) := by decide +kernel
theorem d_X7_book_19 : decode mX7_book.2.1 19 = .ok (.getfield 37, 3) := by decide +kernel
theorem d_X7_book_22 : decode mX7_book.2.1 22 = .ok (.ifCond .le 5, 3) := by decide +kernel
theorem d_X7_book_25 : decode mX7_book.2.1 25 = .ok (.iconst 0, 1) := by decide +kernel
theorem d_X7_book_26 : decode mX7_book.2.1 26 = .ok (.ireturn, 1) := by decide +kernel
theorem d_X7_book_27 : decode mX7_book.2.1 27 = .ok (.aload_n 0, 1) := by decide +kernel
theorem d_X7_book_28 : decode mX7_book.2.1 28 = .ok (.invokevirtual 166, 3) := by decide +kernel
theorem d_X7_book_31 : decode mX7_book.2.1 31 = .ok (.aload_n 0, 1) := by decide +kernel
theorem d_X7_book_32 : decode mX7_book.2.1 32 = .ok (.getfield 201, 3) := by decide +kernel
theorem d_X7_book_35 : decode mX7_book.2.1 35 = .ok (.ireturn, 1) := by decide +kernel
def T_X7_book (Q : Int32 → Mem → Prop) (v0 : Nat) (v1 : Int32) (v2 : Int32) (v3 : Int32) (v4 : Int32) (M : Mem) : Prop := (kd v0 = 7) ∧ T_X7_remembers (fun M2 => T_X7_booking (fun y4 M3 => ∀ M5 : Mem, M5 = mset M3 v0 0 y4 → if (M5.1 v0 0) ≤ 0 then (T_X7_keeps (fun M6 => Q (M6.1 v0 15) M6)  v0 M5) else (Q 0 M5))  v0 v1 v2 v3 v4 (-1) M2)  v0 M
set_option maxRecDepth 100000 in
set_option maxHeartbeats 4000000 in
theorem c_X7_book {g : GG} (v0 : Nat) (v1 : Int32) (v2 : Int32) (v3 : Int32) (v4 : Int32) (M : Mem) (Q : Int32 → Mem → Prop) (h : T_X7_book Q v0 v1 v2 v3 v4 M) : CT g 17 mX7_book [.ref (g.1 + v0), .int v1, .int v2, .int v3, .int v4] M 0 (oI Q noX) := by
  refine CT_of (L := [some (.ref (g.1 + v0)), some (.int v1), some (.int v2), some (.int v3), some (.int v4)]) (by decide) rfl (Nat.le_of_ble_eq_true rfl) (ro_I rfl) rfl ?_
  unfold T_X7_book at h
  refine R_aload_n (pc := 0) d_X7_book_0 rfl rfl ?_
  obtain ⟨k1, h⟩ := h
  refine R_callV (pc := 1) (As := []) (rest := []) (c_X7_remembers (g := g) v0 M _ h) rfl rfl cal_RX7_160 ins_X7_remembers sel_X7_remembers (cls_at k1 clsOK7) (by decide) (by decide) rfl rfl (Nat.le_of_ble_eq_true rfl) d_X7_book_1 (k_V (fun M2 h => ?_)) (fun _ _ h9 => False.elim h9)
  try dsimp only at h
  refine R_aload_n (pc := 4) d_X7_book_4 rfl rfl ?_
  refine R_aload_n (pc := 5) d_X7_book_5 rfl rfl ?_
  refine R_iload_n (pc := 6) d_X7_book_6 rfl rfl ?_
  refine R_iload_n (pc := 7) d_X7_book_7 rfl rfl ?_
  refine R_iload_n (pc := 8) d_X7_book_8 rfl rfl ?_
  refine R_iload (pc := 9) d_X7_book_9 rfl ?_
  refine R_iconst (pc := 11) (v := (-1)) d_X7_book_11 (by decide) ?_
  refine R_callV (pc := 12) (As := [.int v1, .int v2, .int v3, .int v4, .int (-1)]) (rest := [.ref (g.1 + v0)]) (c_X7_booking (g := g) v0 v1 v2 v3 v4 (-1) M2 _ h) rfl rfl cal_RX7_204 ins_X7_booking sel_X7_booking (cls_at k1 clsOK7) (by decide) (by decide) rfl rfl (Nat.le_of_ble_eq_true rfl) d_X7_book_12 (k_I (fun y4 M3 h => ?_)) (fun _ _ h9 => False.elim h9)
  try dsimp only at h
  refine R_putI (pc := 15) fld_RX7_37 rfl rfl rfl k1 rfl rfl d_X7_book_15 (N_M (fun M5 eM5 => ?_))
  have h := h M5 eM5
  refine R_aload_n (pc := 18) d_X7_book_18 rfl rfl ?_
  refine R_getI (pc := 19) fld_RX7_37 rfl rfl k1 d_X7_book_19 ?_
  refine R_if_le (pc := 22) (tgt := 27) d_X7_book_22 (by decide) (fun c => ?_) (fun c => ?_)
  · rw [if_pos c] at h
    refine R_aload_n (pc := 27) d_X7_book_27 rfl rfl ?_
    refine R_callV (pc := 28) (As := []) (rest := []) (c_X7_keeps (g := g) v0 M5 _ h) rfl rfl cal_RX7_166 ins_X7_keeps sel_X7_keeps (cls_at k1 clsOK7) (by decide) (by decide) rfl rfl (Nat.le_of_ble_eq_true rfl) d_X7_book_28 (k_V (fun M6 h => ?_)) (fun _ _ h9 => False.elim h9)
    try dsimp only at h
    refine R_aload_n (pc := 31) d_X7_book_31 rfl rfl ?_
    refine R_getI (pc := 32) fld_RX7_201 rfl rfl k1 d_X7_book_32 ?_
    exact R_retv (pc := 35) d_X7_book_35 h
  · rw [if_neg c] at h
    refine R_iconst (pc := 25) (v := 0) d_X7_book_25 (by decide) ?_
    exact R_retv (pc := 26) d_X7_book_26 h
/-! X7_cancelling -/
theorem d_X7_cancelling_0 : decode mX7_cancelling.2.1 0 = .ok (.aload_n 0, 1) := by decide +kernel
theorem d_X7_cancelling_1 : decode mX7_cancelling.2.1 1 = .ok (.iload_n 1, 1) := by decide +kernel
theorem d_X7_cancelling_2 : decode mX7_cancelling.2.1 2 = .ok (.invokevirtual 207, 3) := by decide +kernel
theorem d_X7_cancelling_5 : decode mX7_cancelling.2.1 5 = .ok (.ifCond .ne 5, 3) := by decide +kernel
theorem d_X7_cancelling_8 : decode mX7_cancelling.2.1 8 = .ok (.iconst 1, 1) := by decide +kernel
theorem d_X7_cancelling_9 : decode mX7_cancelling.2.1 9 = .ok (.ireturn, 1) := by decide +kernel
theorem d_X7_cancelling_10 : decode mX7_cancelling.2.1 10 = .ok (.aload_n 0, 1) := by decide +kernel
theorem d_X7_cancelling_11 : decode mX7_cancelling.2.1 11 = .ok (.iload_n 1, 1) := by decide +kernel
theorem d_X7_cancelling_12 : decode mX7_cancelling.2.1 12 = .ok (.invokevirtual 49, 3) := by decide +kernel
theorem d_X7_cancelling_15 : decode mX7_cancelling.2.1 15 = .ok (.ifCond .ne 5, 3) := by decide +kernel
theorem d_X7_cancelling_18 : decode mX7_cancelling.2.1 18 = .ok (.iconst 2, 1) := by decide +kernel
theorem d_X7_cancelling_19 : decode mX7_cancelling.2.1 19 = .ok (.ireturn, 1) := by decide +kernel
theorem d_X7_cancelling_20 : decode mX7_cancelling.2.1 20 = .ok (.aload_n 0, 1) := by decide +kernel
theorem d_X7_cancelling_21 : decode mX7_cancelling.2.1 21 = .ok (.iload_n 1, 1) := by decide +kernel
theorem d_X7_cancelling_22 : decode mX7_cancelling.2.1 22 = .ok (.iconst 2, 1) := by decide +kernel
theorem d_X7_cancelling_23 : decode mX7_cancelling.2.1 23 = .ok (.invokevirtual 133, 3) := by decide +kernel
theorem d_X7_cancelling_26 : decode mX7_cancelling.2.1 26 = .ok (.aload_n 0, 1) := by decide +kernel
theorem d_X7_cancelling_27 : decode mX7_cancelling.2.1 27 = .ok (.aload_n 0, 1) := by decide +kernel
theorem d_X7_cancelling_28 : decode mX7_cancelling.2.1 28 = .ok (.invokevirtual 175, 3) := by decide +kernel
theorem d_X7_cancelling_31 : decode mX7_cancelling.2.1 31 = .ok (.putfield 210, 3) := by decide +kernel
theorem d_X7_cancelling_34 : decode mX7_cancelling.2.1 34 = .ok (.iconst 0, 1) := by decide +kernel
theorem d_X7_cancelling_35 : decode mX7_cancelling.2.1 35 = .ok (.ireturn, 1) := by decide +kernel
def T_X7_cancelling (Q : Int32 → Mem → Prop) (v0 : Nat) (v1 : Int32) (M : Mem) : Prop := (kd v0 = 7) ∧ T_X7_isVisit (fun y3 M2 => if y3 = 0 then (Q 1 M2) else (T_X7_isBooked (fun y5 M4 => if y5 = 0 then (Q 2 M4) else (T_X7_setState (fun M6 => T_X7_grants (fun y8 M7 => ∀ M9 : Mem, M9 = mset M7 v0 16 y8 → Q 0 M9)  v0 M6)  v0 v1 2 M4))  v0 v1 M2))  v0 v1 M
set_option maxRecDepth 100000 in
set_option maxHeartbeats 4000000 in
theorem c_X7_cancelling {g : GG} (v0 : Nat) (v1 : Int32) (M : Mem) (Q : Int32 → Mem → Prop) (h : T_X7_cancelling Q v0 v1 M) : CT g 18 mX7_cancelling [.ref (g.1 + v0), .int v1] M 0 (oI Q noX) := by
  refine CT_of (L := [some (.ref (g.1 + v0)), some (.int v1)]) (by decide) rfl (Nat.le_of_ble_eq_true rfl) (ro_I rfl) rfl ?_
  unfold T_X7_cancelling at h
  refine R_aload_n (pc := 0) d_X7_cancelling_0 rfl rfl ?_
  refine R_iload_n (pc := 1) d_X7_cancelling_1 rfl rfl ?_
  obtain ⟨k1, h⟩ := h
  refine R_callV (pc := 2) (As := [.int v1]) (rest := []) (c_X7_isVisit (g := g) v0 v1 M _ h) rfl rfl cal_RX7_207 ins_X7_isVisit sel_X7_isVisit (cls_at k1 clsOK7) (by decide) (by decide) rfl rfl (Nat.le_of_ble_eq_true rfl) d_X7_cancelling_2 (k_Z (fun y3 M2 h => ?_)) (fun _ _ h9 => False.elim h9)
  try dsimp only at h
  refine R_if_ne (pc := 5) (tgt := 10) d_X7_cancelling_5 (by decide) (fun c => ?_) (fun c => ?_)
  · rw [if_neg c] at h
    refine R_aload_n (pc := 10) d_X7_cancelling_10 rfl rfl ?_
    refine R_iload_n (pc := 11) d_X7_cancelling_11 rfl rfl ?_
    refine R_callV (pc := 12) (As := [.int v1]) (rest := []) (c_X7_isBooked (g := g) v0 v1 M2 _ h) rfl rfl cal_RX7_49 ins_X7_isBooked sel_X7_isBooked (cls_at k1 clsOK7) (by decide) (by decide) rfl rfl (Nat.le_of_ble_eq_true rfl) d_X7_cancelling_12 (k_Z (fun y5 M4 h => ?_)) (fun _ _ h9 => False.elim h9)
    try dsimp only at h
    refine R_if_ne (pc := 15) (tgt := 20) d_X7_cancelling_15 (by decide) (fun c => ?_) (fun c => ?_)
    · rw [if_neg c] at h
      refine R_aload_n (pc := 20) d_X7_cancelling_20 rfl rfl ?_
      refine R_iload_n (pc := 21) d_X7_cancelling_21 rfl rfl ?_
      refine R_iconst (pc := 22) (v := 2) d_X7_cancelling_22 (by decide) ?_
      refine R_callV (pc := 23) (As := [.int v1, .int 2]) (rest := []) (c_X7_setState (g := g) v0 v1 2 M4 _ h) rfl rfl cal_RX7_133 ins_X7_setState sel_X7_setState (cls_at k1 clsOK7) (by decide) (by decide) rfl rfl (Nat.le_of_ble_eq_true rfl) d_X7_cancelling_23 (k_V (fun M6 h => ?_)) (fun _ _ h9 => False.elim h9)
      try dsimp only at h
      refine R_aload_n (pc := 26) d_X7_cancelling_26 rfl rfl ?_
      refine R_aload_n (pc := 27) d_X7_cancelling_27 rfl rfl ?_
      refine R_callV (pc := 28) (As := []) (rest := [.ref (g.1 + v0)]) (c_X7_grants (g := g) v0 M6 _ h) rfl rfl cal_RX7_175 ins_X7_grants sel_X7_grants (cls_at k1 clsOK7) (by decide) (by decide) rfl rfl (Nat.le_of_ble_eq_true rfl) d_X7_cancelling_28 (k_I (fun y8 M7 h => ?_)) (fun _ _ h9 => False.elim h9)
      try dsimp only at h
      refine R_putI (pc := 31) fld_RX7_210 rfl rfl rfl k1 rfl rfl d_X7_cancelling_31 (N_M (fun M9 eM9 => ?_))
      have h := h M9 eM9
      refine R_iconst (pc := 34) (v := 0) d_X7_cancelling_34 (by decide) ?_
      exact R_retv (pc := 35) d_X7_cancelling_35 h
    · rw [if_pos c] at h
      refine R_iconst (pc := 18) (v := 2) d_X7_cancelling_18 (by decide) ?_
      exact R_retv (pc := 19) d_X7_cancelling_19 h
  · rw [if_pos c] at h
    refine R_iconst (pc := 8) (v := 1) d_X7_cancelling_8 (by decide) ?_
    exact R_retv (pc := 9) d_X7_cancelling_9 h
/-! X7_cancel -/
theorem d_X7_cancel_0 : decode mX7_cancel.2.1 0 = .ok (.aload_n 0, 1) := by decide +kernel
theorem d_X7_cancel_1 : decode mX7_cancel.2.1 1 = .ok (.invokevirtual 160, 3) := by decide +kernel
theorem d_X7_cancel_4 : decode mX7_cancel.2.1 4 = .ok (.aload_n 0, 1) := by decide +kernel
theorem d_X7_cancel_5 : decode mX7_cancel.2.1 5 = .ok (.aload_n 0, 1) := by decide +kernel
theorem d_X7_cancel_6 : decode mX7_cancel.2.1 6 = .ok (.iload_n 1, 1) := by decide +kernel
theorem d_X7_cancel_7 : decode mX7_cancel.2.1 7 = .ok (.invokevirtual 213, 3) := by decide +kernel
theorem d_X7_cancel_10 : decode mX7_cancel.2.1 10 = .ok (.putfield 37, 3) := by decide +kernel
theorem d_X7_cancel_13 : decode mX7_cancel.2.1 13 = .ok (.aload_n 0, 1) := by decide +kernel
theorem d_X7_cancel_14 : decode mX7_cancel.2.1 14 = .ok (.getfield 37, 3) := by decide +kernel
theorem d_X7_cancel_17 : decode mX7_cancel.2.1 17 = .ok (.ifCond .le 5, 3) := by decide +kernel
theorem d_X7_cancel_20 : decode mX7_cancel.2.1 20 = .ok (.iconst 0, 1) := by decide +kernel
theorem d_X7_cancel_21 : decode mX7_cancel.2.1 21 = .ok (.ireturn, 1) := by decide +kernel
theorem d_X7_cancel_22 : decode mX7_cancel.2.1 22 = .ok (.aload_n 0, 1) := by decide +kernel
theorem d_X7_cancel_23 : decode mX7_cancel.2.1 23 = .ok (.invokevirtual 166, 3) := by decide +kernel
theorem d_X7_cancel_26 : decode mX7_cancel.2.1 26 = .ok (.aload_n 0, 1) := by decide +kernel
theorem d_X7_cancel_27 : decode mX7_cancel.2.1 27 = .ok (.getfield 210, 3) := by decide +kernel
theorem d_X7_cancel_30 : decode mX7_cancel.2.1 30 = .ok (.ireturn, 1) := by decide +kernel
def T_X7_cancel (Q : Int32 → Mem → Prop) (v0 : Nat) (v1 : Int32) (M : Mem) : Prop := (kd v0 = 7) ∧ T_X7_remembers (fun M2 => T_X7_cancelling (fun y4 M3 => ∀ M5 : Mem, M5 = mset M3 v0 0 y4 → if (M5.1 v0 0) ≤ 0 then (T_X7_keeps (fun M6 => Q (M6.1 v0 16) M6)  v0 M5) else (Q 0 M5))  v0 v1 M2)  v0 M
set_option maxRecDepth 100000 in
set_option maxHeartbeats 4000000 in
theorem c_X7_cancel {g : GG} (v0 : Nat) (v1 : Int32) (M : Mem) (Q : Int32 → Mem → Prop) (h : T_X7_cancel Q v0 v1 M) : CT g 19 mX7_cancel [.ref (g.1 + v0), .int v1] M 0 (oI Q noX) := by
  refine CT_of (L := [some (.ref (g.1 + v0)), some (.int v1)]) (by decide) rfl (Nat.le_of_ble_eq_true rfl) (ro_I rfl) rfl ?_
  unfold T_X7_cancel at h
  refine R_aload_n (pc := 0) d_X7_cancel_0 rfl rfl ?_
  obtain ⟨k1, h⟩ := h
  refine R_callV (pc := 1) (As := []) (rest := []) (c_X7_remembers (g := g) v0 M _ h) rfl rfl cal_RX7_160 ins_X7_remembers sel_X7_remembers (cls_at k1 clsOK7) (by decide) (by decide) rfl rfl (Nat.le_of_ble_eq_true rfl) d_X7_cancel_1 (k_V (fun M2 h => ?_)) (fun _ _ h9 => False.elim h9)
  try dsimp only at h
  refine R_aload_n (pc := 4) d_X7_cancel_4 rfl rfl ?_
  refine R_aload_n (pc := 5) d_X7_cancel_5 rfl rfl ?_
  refine R_iload_n (pc := 6) d_X7_cancel_6 rfl rfl ?_
  refine R_callV (pc := 7) (As := [.int v1]) (rest := [.ref (g.1 + v0)]) (c_X7_cancelling (g := g) v0 v1 M2 _ h) rfl rfl cal_RX7_213 ins_X7_cancelling sel_X7_cancelling (cls_at k1 clsOK7) (by decide) (by decide) rfl rfl (Nat.le_of_ble_eq_true rfl) d_X7_cancel_7 (k_I (fun y4 M3 h => ?_)) (fun _ _ h9 => False.elim h9)
  try dsimp only at h
  refine R_putI (pc := 10) fld_RX7_37 rfl rfl rfl k1 rfl rfl d_X7_cancel_10 (N_M (fun M5 eM5 => ?_))
  have h := h M5 eM5
  refine R_aload_n (pc := 13) d_X7_cancel_13 rfl rfl ?_
  refine R_getI (pc := 14) fld_RX7_37 rfl rfl k1 d_X7_cancel_14 ?_
  refine R_if_le (pc := 17) (tgt := 22) d_X7_cancel_17 (by decide) (fun c => ?_) (fun c => ?_)
  · rw [if_pos c] at h
    refine R_aload_n (pc := 22) d_X7_cancel_22 rfl rfl ?_
    refine R_callV (pc := 23) (As := []) (rest := []) (c_X7_keeps (g := g) v0 M5 _ h) rfl rfl cal_RX7_166 ins_X7_keeps sel_X7_keeps (cls_at k1 clsOK7) (by decide) (by decide) rfl rfl (Nat.le_of_ble_eq_true rfl) d_X7_cancel_23 (k_V (fun M6 h => ?_)) (fun _ _ h9 => False.elim h9)
    try dsimp only at h
    refine R_aload_n (pc := 26) d_X7_cancel_26 rfl rfl ?_
    refine R_getI (pc := 27) fld_RX7_210 rfl rfl k1 d_X7_cancel_27 ?_
    exact R_retv (pc := 30) d_X7_cancel_30 h
  · rw [if_neg c] at h
    refine R_iconst (pc := 20) (v := 0) d_X7_cancel_20 (by decide) ?_
    exact R_retv (pc := 21) d_X7_cancel_21 h
/-! X7_refusal -/
theorem d_X7_refusal_0 : decode mX7_refusal.2.1 0 = .ok (.aload_n 0, 1) := by decide +kernel
theorem d_X7_refusal_1 : decode mX7_refusal.2.1 1 = .ok (.iconst 0, 1) := by decide +kernel
theorem d_X7_refusal_2 : decode mX7_refusal.2.1 2 = .ok (.putfield 37, 3) := by decide +kernel
theorem d_X7_refusal_5 : decode mX7_refusal.2.1 5 = .ok (.aload_n 0, 1) := by decide +kernel
theorem d_X7_refusal_6 : decode mX7_refusal.2.1 6 = .ok (.iload_n 1, 1) := by decide +kernel
theorem d_X7_refusal_7 : decode mX7_refusal.2.1 7 = .ok (.invokevirtual 179, 3) := by decide +kernel
theorem d_X7_refusal_10 : decode mX7_refusal.2.1 10 = .ok (.ifCond .ne 9, 3) := by decide +kernel
theorem d_X7_refusal_13 : decode mX7_refusal.2.1 13 = .ok (.aload_n 0, 1) := by decide +kernel
theorem d_X7_refusal_14 : decode mX7_refusal.2.1 14 = .ok (.iconst 1, 1) := by decide +kernel
theorem d_X7_refusal_15 : decode mX7_refusal.2.1 15 = .ok (.invokevirtual 163, 3) := by decide +kernel
theorem d_X7_refusal_18 : decode mX7_refusal.2.1 18 = .ok (.ireturn, 1) := by decide +kernel
theorem d_X7_refusal_19 : decode mX7_refusal.2.1 19 = .ok (.aload_n 0, 1) := by decide +kernel
theorem d_X7_refusal_20 : decode mX7_refusal.2.1 20 = .ok (.iload_n 2, 1) := by decide +kernel
theorem d_X7_refusal_21 : decode mX7_refusal.2.1 21 = .ok (.invokevirtual 194, 3) := by decide +kernel
theorem d_X7_refusal_24 : decode mX7_refusal.2.1 24 = .ok (.ifCond .eq 23, 3) := by decide +kernel
theorem d_X7_refusal_27 : decode mX7_refusal.2.1 27 = .ok (.iload_n 3, 1) := by decide +kernel
theorem d_X7_refusal_28 : decode mX7_refusal.2.1 28 = .ok (.iconst 0, 1) := by decide +kernel
theorem d_X7_refusal_29 : decode mX7_refusal.2.1 29 = .ok (.bipush 55, 2) := by decide +kernel
theorem d_X7_refusal_31 : decode mX7_refusal.2.1 31 = .ok (.invokestatic 41, 3) := by decide +kernel
theorem d_X7_refusal_34 : decode mX7_refusal.2.1 34 = .ok (.ifCond .eq 13, 3) := by decide +kernel
theorem d_X7_refusal_37 : decode mX7_refusal.2.1 37 = .ok (.iload 4, 2) := by decide +kernel
theorem d_X7_refusal_39 : decode mX7_refusal.2.1 39 = .ok (.iconst 0, 1) := by decide +kernel
theorem d_X7_refusal_40 : decode mX7_refusal.2.1 40 = .ok (.iconst 3, 1) := by decide +kernel
theorem d_X7_refusal_41 : decode mX7_refusal.2.1 41 = .ok (.invokestatic 41, 3) := by decide +kernel
theorem d_X7_refusal_44 : decode mX7_refusal.2.1 44 = .ok (.ifCond .ne 9, 3) := by decide +kernel
theorem d_X7_refusal_47 : decode mX7_refusal.2.1 47 = .ok (.aload_n 0, 1) := by decide +kernel
theorem d_X7_refusal_48 : decode mX7_refusal.2.1 48 = .ok (.iconst 2, 1) := by decide +kernel
theorem d_X7_refusal_49 : decode mX7_refusal.2.1 49 = .ok (.invokevirtual 163, 3) := by decide +kernel
theorem d_X7_refusal_52 : decode mX7_refusal.2.1 52 = .ok (.ireturn, 1) := by decide +kernel
theorem d_X7_refusal_53 : decode mX7_refusal.2.1 53 = .ok (.aload_n 0, 1) := by decide +kernel
theorem d_X7_refusal_54 : decode mX7_refusal.2.1 54 = .ok (.getfield 101, 3) := by decide +kernel
theorem d_X7_refusal_57 : decode mX7_refusal.2.1 57 = .ok (.istore 5, 2) := by decide +kernel
theorem d_X7_refusal_59 : decode mX7_refusal.2.1 59 = .ok (.aload_n 0, 1) := by decide +kernel
theorem d_X7_refusal_60 : decode mX7_refusal.2.1 60 = .ok (.iload_n 1, 1) := by decide +kernel
theorem d_X7_refusal_61 : decode mX7_refusal.2.1 61 = .ok (.iload_n 2, 1) := by decide +kernel
theorem d_X7_refusal_62 : decode mX7_refusal.2.1 62 = .ok (.iload_n 3, 1) := by decide +kernel
theorem d_X7_refusal_63 : decode mX7_refusal.2.1 63 = .ok (.iload 4, 2) := by decide +kernel
theorem d_X7_refusal_65 : decode mX7_refusal.2.1 65 = .ok (.invokevirtual 140, 3) := by decide +kernel
theorem d_X7_refusal_68 : decode mX7_refusal.2.1 68 = .ok (.istore 6, 2) := by decide +kernel
theorem d_X7_refusal_70 : decode mX7_refusal.2.1 70 = .ok (.aload_n 0, 1) := by decide +kernel
theorem d_X7_refusal_71 : decode mX7_refusal.2.1 71 = .ok (.iload 5, 2) := by decide +kernel
theorem d_X7_refusal_73 : decode mX7_refusal.2.1 73 = .ok (.putfield 101, 3) := by decide +kernel
theorem d_X7_refusal_76 : decode mX7_refusal.2.1 76 = .ok (.iload 6, 2) := by decide +kernel
theorem d_X7_refusal_78 : decode mX7_refusal.2.1 78 = .ok (.ireturn, 1) := by decide +kernel
def T_X7_refusal_47 (Q : Int32 → Mem → Prop) (v0 : Nat) (M : Mem) : Prop := (kd v0 = 7) ∧ T_X7_fails (fun y3 M2 => Q y3 M2)  v0 2 M
set_option maxRecDepth 100000 in
set_option maxHeartbeats 4000000 in
theorem B_X7_refusal_47 {g : GG} (Q : Int32 → Mem → Prop) (v0 : Nat) (M : Mem) (h : T_X7_refusal_47 Q v0 M) : WP g 16 mX7_refusal 47 [some (.ref (g.1 + v0)), none, none, none, none, none, none] [] M 0 (oI Q noX) := by
  unfold T_X7_refusal_47 at h
  refine R_aload_n (pc := 47) d_X7_refusal_47 rfl rfl ?_
  refine R_iconst (pc := 48) (v := 2) d_X7_refusal_48 (by decide) ?_
  obtain ⟨k1, h⟩ := h
  refine R_callV (pc := 49) (As := [.int 2]) (rest := []) (c_X7_fails (g := g) v0 2 M _ h) rfl rfl cal_RX7_163 ins_X7_fails sel_X7_fails (cls_at k1 clsOK7) (by decide) (by decide) rfl rfl (Nat.le_of_ble_eq_true rfl) d_X7_refusal_49 (k_I (fun y3 M2 h => ?_)) (fun _ _ h9 => False.elim h9)
  try dsimp only at h
  exact R_retv (pc := 52) d_X7_refusal_52 h
def T_X7_refusal (Q : Int32 → Mem → Prop) (v0 : Nat) (v1 : Int32) (v2 : Int32) (v3 : Int32) (v4 : Int32) (M : Mem) : Prop := (kd v0 = 7) ∧ ∀ M2 : Mem, M2 = mset M v0 0 0 → T_X7_isInmate (fun y4 M3 => if y4 = 0 then (T_X7_fails (fun y16 M15 => Q y16 M15)  v0 1 M3) else (T_X7_areVisitors (fun y6 M5 => if y6 = 0 then (T_X7_refusal_47 Q v0 M5) else (T_X7_in (fun y8 M7 => if y8 = 0 then (T_X7_refusal_47 Q v0 M7) else (T_X7_in (fun y10 M9 => if y10 = 0 then (T_X7_refusal_47 Q v0 M9) else (∀ x11 : Int32, x11 = M9.1 v0 13 → T_X7_reasonOf (fun y13 M12 => ∀ M14 : Mem, M14 = mset M12 v0 13 x11 → Q y13 M14)  v0 v1 v2 v3 v4 M9))  v4 0 3 M7))  v3 0 55 M5))  v0 v2 M3))  v0 v1 M2
set_option maxRecDepth 100000 in
set_option maxHeartbeats 4000000 in
theorem c_X7_refusal {g : GG} (v0 : Nat) (v1 : Int32) (v2 : Int32) (v3 : Int32) (v4 : Int32) (M : Mem) (Q : Int32 → Mem → Prop) (h : T_X7_refusal Q v0 v1 v2 v3 v4 M) : CT g 16 mX7_refusal [.ref (g.1 + v0), .int v1, .int v2, .int v3, .int v4] M 0 (oI Q noX) := by
  refine CT_of (L := [some (.ref (g.1 + v0)), some (.int v1), some (.int v2), some (.int v3), some (.int v4), none, none]) (by decide) rfl (Nat.le_of_ble_eq_true rfl) (ro_I rfl) rfl ?_
  unfold T_X7_refusal at h
  refine R_aload_n (pc := 0) d_X7_refusal_0 rfl rfl ?_
  refine R_iconst (pc := 1) (v := 0) d_X7_refusal_1 (by decide) ?_
  obtain ⟨k1, h⟩ := h
  refine R_putI (pc := 2) fld_RX7_37 rfl rfl rfl k1 rfl rfl d_X7_refusal_2 (N_M (fun M2 eM2 => ?_))
  have h := h M2 eM2
  refine R_aload_n (pc := 5) d_X7_refusal_5 rfl rfl ?_
  refine R_iload_n (pc := 6) d_X7_refusal_6 rfl rfl ?_
  refine R_callV (pc := 7) (As := [.int v1]) (rest := []) (c_X7_isInmate (g := g) v0 v1 M2 _ h) rfl rfl cal_RX7_179 ins_X7_isInmate sel_X7_isInmate (cls_at k1 clsOK7) (by decide) (by decide) rfl rfl (Nat.le_of_ble_eq_true rfl) d_X7_refusal_7 (k_Z (fun y4 M3 h => ?_)) (fun _ _ h9 => False.elim h9)
  try dsimp only at h
  refine R_if_ne (pc := 10) (tgt := 19) d_X7_refusal_10 (by decide) (fun c => ?_) (fun c => ?_)
  · rw [if_neg c] at h
    refine R_aload_n (pc := 19) d_X7_refusal_19 rfl rfl ?_
    refine R_iload_n (pc := 20) d_X7_refusal_20 rfl rfl ?_
    refine R_callV (pc := 21) (As := [.int v2]) (rest := []) (c_X7_areVisitors (g := g) v0 v2 M3 _ h) rfl rfl cal_RX7_194 ins_X7_areVisitors sel_X7_areVisitors (cls_at k1 clsOK7) (by decide) (by decide) rfl rfl (Nat.le_of_ble_eq_true rfl) d_X7_refusal_21 (k_Z (fun y6 M5 h => ?_)) (fun _ _ h9 => False.elim h9)
    try dsimp only at h
    refine R_if_eq (pc := 24) (tgt := 47) d_X7_refusal_24 (by decide) (fun c => ?_) (fun c => ?_)
    · rw [if_pos c] at h
      exact WP_sub (B_X7_refusal_47 Q v0 M5 h) (by decide) (ls_s (ls_n (ls_n (ls_n (ls_n (ls_n (ls_n ls_0)))))))
    · rw [if_neg c] at h
      refine R_iload_n (pc := 27) d_X7_refusal_27 rfl rfl ?_
      refine R_iconst (pc := 28) (v := 0) d_X7_refusal_28 (by decide) ?_
      refine R_bipush (pc := 29) (v := 55) d_X7_refusal_29 (by decide) ?_
      refine R_callS (pc := 31) (As := [.int v3, .int 0, .int 55]) (rest := []) (c_X7_in (g := g) v3 0 55 M5 _ h) rfl rfl cal_RX7_41 sta_X7_in (by decide) (by decide) rfl rfl (Nat.le_of_ble_eq_true rfl) d_X7_refusal_31 (k_Z (fun y8 M7 h => ?_)) (fun _ _ h9 => False.elim h9)
      try dsimp only at h
      refine R_if_eq (pc := 34) (tgt := 47) d_X7_refusal_34 (by decide) (fun c => ?_) (fun c => ?_)
      · rw [if_pos c] at h
        exact WP_sub (B_X7_refusal_47 Q v0 M7 h) (by decide) (ls_s (ls_n (ls_n (ls_n (ls_n (ls_n (ls_n ls_0)))))))
      · rw [if_neg c] at h
        refine R_iload (pc := 37) d_X7_refusal_37 rfl ?_
        refine R_iconst (pc := 39) (v := 0) d_X7_refusal_39 (by decide) ?_
        refine R_iconst (pc := 40) (v := 3) d_X7_refusal_40 (by decide) ?_
        refine R_callS (pc := 41) (As := [.int v4, .int 0, .int 3]) (rest := []) (c_X7_in (g := g) v4 0 3 M7 _ h) rfl rfl cal_RX7_41 sta_X7_in (by decide) (by decide) rfl rfl (Nat.le_of_ble_eq_true rfl) d_X7_refusal_41 (k_Z (fun y10 M9 h => ?_)) (fun _ _ h9 => False.elim h9)
        try dsimp only at h
        refine R_if_ne (pc := 44) (tgt := 53) d_X7_refusal_44 (by decide) (fun c => ?_) (fun c => ?_)
        · rw [if_neg c] at h
          refine R_aload_n (pc := 53) d_X7_refusal_53 rfl rfl ?_
          refine R_getI (pc := 54) fld_RX7_101 rfl rfl k1 d_X7_refusal_54 ?_
          refine N_i (fun x11 ex11 => ?_)
          have h := h x11 ex11
          refine R_istore (pc := 57) (L' := [some (.ref (g.1 + v0)), some (.int v1), some (.int v2), some (.int v3), some (.int v4), some (.int x11), none]) d_X7_refusal_57 (by decide) rfl ?_
          refine R_aload_n (pc := 59) d_X7_refusal_59 rfl rfl ?_
          refine R_iload_n (pc := 60) d_X7_refusal_60 rfl rfl ?_
          refine R_iload_n (pc := 61) d_X7_refusal_61 rfl rfl ?_
          refine R_iload_n (pc := 62) d_X7_refusal_62 rfl rfl ?_
          refine R_iload (pc := 63) d_X7_refusal_63 rfl ?_
          refine R_callV (pc := 65) (As := [.int v1, .int v2, .int v3, .int v4]) (rest := []) (c_X7_reasonOf (g := g) v0 v1 v2 v3 v4 M9 _ h) rfl rfl cal_RX7_140 ins_X7_reasonOf sel_X7_reasonOf (cls_at k1 clsOK7) (by decide) (by decide) rfl rfl (Nat.le_of_ble_eq_true rfl) d_X7_refusal_65 (k_I (fun y13 M12 h => ?_)) (fun _ _ h9 => False.elim h9)
          try dsimp only at h
          refine R_istore (pc := 68) (L' := [some (.ref (g.1 + v0)), some (.int v1), some (.int v2), some (.int v3), some (.int v4), some (.int x11), some (.int y13)]) d_X7_refusal_68 (by decide) rfl ?_
          refine R_aload_n (pc := 70) d_X7_refusal_70 rfl rfl ?_
          refine R_iload (pc := 71) d_X7_refusal_71 rfl ?_
          refine R_putI (pc := 73) fld_RX7_101 rfl rfl rfl k1 rfl rfl d_X7_refusal_73 (N_M (fun M14 eM14 => ?_))
          have h := h M14 eM14
          refine R_iload (pc := 76) d_X7_refusal_76 rfl ?_
          exact R_retv (pc := 78) d_X7_refusal_78 h
        · rw [if_pos c] at h
          exact WP_sub (B_X7_refusal_47 Q v0 M9 h) (by decide) (ls_s (ls_n (ls_n (ls_n (ls_n (ls_n (ls_n ls_0)))))))
  · rw [if_pos c] at h
    refine R_aload_n (pc := 13) d_X7_refusal_13 rfl rfl ?_
    refine R_iconst (pc := 14) (v := 1) d_X7_refusal_14 (by decide) ?_
    refine R_callV (pc := 15) (As := [.int 1]) (rest := []) (c_X7_fails (g := g) v0 1 M3 _ h) rfl rfl cal_RX7_163 ins_X7_fails sel_X7_fails (cls_at k1 clsOK7) (by decide) (by decide) rfl rfl (Nat.le_of_ble_eq_true rfl) d_X7_refusal_15 (k_I (fun y16 M15 h => ?_)) (fun _ _ h9 => False.elim h9)
    try dsimp only at h
    exact R_retv (pc := 18) d_X7_refusal_18 h
/-! X7_firstFree -/
theorem d_X7_firstFree_0 : decode mX7_firstFree.2.1 0 = .ok (.aload_n 0, 1) := by decide +kernel
theorem d_X7_firstFree_1 : decode mX7_firstFree.2.1 1 = .ok (.iconst 0, 1) := by decide +kernel
theorem d_X7_firstFree_2 : decode mX7_firstFree.2.1 2 = .ok (.putfield 37, 3) := by decide +kernel
theorem d_X7_firstFree_5 : decode mX7_firstFree.2.1 5 = .ok (.aload_n 0, 1) := by decide +kernel
theorem d_X7_firstFree_6 : decode mX7_firstFree.2.1 6 = .ok (.iload_n 1, 1) := by decide +kernel
theorem d_X7_firstFree_7 : decode mX7_firstFree.2.1 7 = .ok (.invokevirtual 179, 3) := by decide +kernel
theorem d_X7_firstFree_10 : decode mX7_firstFree.2.1 10 = .ok (.ifCond .ne 9, 3) := by decide +kernel
theorem d_X7_firstFree_13 : decode mX7_firstFree.2.1 13 = .ok (.aload_n 0, 1) := by decide +kernel
theorem d_X7_firstFree_14 : decode mX7_firstFree.2.1 14 = .ok (.iconst 1, 1) := by decide +kernel
theorem d_X7_firstFree_15 : decode mX7_firstFree.2.1 15 = .ok (.invokevirtual 163, 3) := by decide +kernel
theorem d_X7_firstFree_18 : decode mX7_firstFree.2.1 18 = .ok (.ireturn, 1) := by decide +kernel
theorem d_X7_firstFree_19 : decode mX7_firstFree.2.1 19 = .ok (.aload_n 0, 1) := by decide +kernel
theorem d_X7_firstFree_20 : decode mX7_firstFree.2.1 20 = .ok (.iload_n 2, 1) := by decide +kernel
theorem d_X7_firstFree_21 : decode mX7_firstFree.2.1 21 = .ok (.invokevirtual 194, 3) := by decide +kernel
theorem d_X7_firstFree_24 : decode mX7_firstFree.2.1 24 = .ok (.ifCond .ne 9, 3) := by decide +kernel
theorem d_X7_firstFree_27 : decode mX7_firstFree.2.1 27 = .ok (.aload_n 0, 1) := by decide +kernel
theorem d_X7_firstFree_28 : decode mX7_firstFree.2.1 28 = .ok (.iconst 2, 1) := by decide +kernel
theorem d_X7_firstFree_29 : decode mX7_firstFree.2.1 29 = .ok (.invokevirtual 163, 3) := by decide +kernel
theorem d_X7_firstFree_32 : decode mX7_firstFree.2.1 32 = .ok (.ireturn, 1) := by decide +kernel
theorem d_X7_firstFree_33 : decode mX7_firstFree.2.1 33 = .ok (.iconst 4, 1) := by decide +kernel
theorem d_X7_firstFree_34 : decode mX7_firstFree.2.1 34 = .ok (.aload_n 0, 1) := by decide +kernel
theorem d_X7_firstFree_35 : decode mX7_firstFree.2.1 35 = .ok (.getfield 7, 3) := by decide +kernel
theorem d_X7_firstFree_38 : decode mX7_firstFree.2.1 38 = .ok (.iconst 0, 1) := by decide +kernel
theorem d_X7_firstFree_39 : decode mX7_firstFree.2.1 39 = .ok (.iaload, 1) := by decide +kernel
theorem d_X7_firstFree_40 : decode mX7_firstFree.2.1 40 = .ok (.imul, 1) := by decide +kernel
theorem d_X7_firstFree_41 : decode mX7_firstFree.2.1 41 = .ok (.istore_n 3, 1) := by decide +kernel
theorem d_X7_firstFree_42 : decode mX7_firstFree.2.1 42 = .ok (.iload_n 3, 1) := by decide +kernel
theorem d_X7_firstFree_43 : decode mX7_firstFree.2.1 43 = .ok (.sipush 224, 3) := by decide +kernel
theorem d_X7_firstFree_46 : decode mX7_firstFree.2.1 46 = .ok (.if_icmp .ge 26, 3) := by decide +kernel
theorem d_X7_firstFree_49 : decode mX7_firstFree.2.1 49 = .ok (.aload_n 0, 1) := by decide +kernel
theorem d_X7_firstFree_50 : decode mX7_firstFree.2.1 50 = .ok (.iload_n 1, 1) := by decide +kernel
theorem d_X7_firstFree_51 : decode mX7_firstFree.2.1 51 = .ok (.iload_n 2, 1) := by decide +kernel
theorem d_X7_firstFree_52 : decode mX7_firstFree.2.1 52 = .ok (.iload_n 3, 1) := by decide +kernel
theorem d_X7_firstFree_53 : decode mX7_firstFree.2.1 53 = .ok (.iconst 4, 1) := by decide +kernel
theorem d_X7_firstFree_54 : decode mX7_firstFree.2.1 54 = .ok (.idiv, 1) := by decide +kernel
theorem d_X7_firstFree_55 : decode mX7_firstFree.2.1 55 = .ok (.iload_n 3, 1) := by decide +kernel
theorem d_X7_firstFree_56 : decode mX7_firstFree.2.1 56 = .ok (.iconst 4, 1) := by decide +kernel
theorem d_X7_firstFree_57 : decode mX7_firstFree.2.1 57 = .ok (.irem, 1) := by decide +kernel
theorem d_X7_firstFree_58 : decode mX7_firstFree.2.1 58 = .ok (.invokevirtual 140, 3) := by decide +kernel
theorem d_X7_firstFree_61 : decode mX7_firstFree.2.1 61 = .ok (.ifCond .ne 5, 3) := by decide +kernel
theorem d_X7_firstFree_64 : decode mX7_firstFree.2.1 64 = .ok (.iload_n 3, 1) := by decide +kernel
theorem d_X7_firstFree_65 : decode mX7_firstFree.2.1 65 = .ok (.ireturn, 1) := by decide +kernel
theorem d_X7_firstFree_66 : decode mX7_firstFree.2.1 66 = .ok (.iinc 3 1, 3) := by decide +kernel
theorem d_X7_firstFree_69 : decode mX7_firstFree.2.1 69 = .ok (.goto (-27), 3) := by decide +kernel
theorem d_X7_firstFree_72 : decode mX7_firstFree.2.1 72 = .ok (.aload_n 0, 1) := by decide +kernel
theorem d_X7_firstFree_73 : decode mX7_firstFree.2.1 73 = .ok (.iconst 3, 1) := by decide +kernel
theorem d_X7_firstFree_74 : decode mX7_firstFree.2.1 74 = .ok (.invokevirtual 163, 3) := by decide +kernel
theorem d_X7_firstFree_77 : decode mX7_firstFree.2.1 77 = .ok (.ireturn, 1) := by decide +kernel
def T_X7_firstFree_42 (Q : Int32 → Mem → Prop) : Nat → Nat → Int32 → Int32 → Int32 → Mem → Prop
  | 0, _, _, _, _, _ => False
  | n + 1, v0, v1, v2, v3, M => if (224 : Int32) ≤ v3 then ((kd v0 = 7) ∧ T_X7_fails (fun y3 M2 => Q y3 M2)  v0 3 M) else ((kd v0 = 7) ∧ T_X7_reasonOf (fun y6 M5 => if y6 = 0 then (Q v3 M5) else (∀ x7 : Int32, x7 = v3 + 1 → (T_X7_firstFree_42 Q n) v0 v1 v2 x7 M5))  v0 v1 v2 (v3 / 4) (v3 - v3 / 4 * 4) M)
set_option maxRecDepth 100000 in
set_option maxHeartbeats 4000000 in
theorem B_X7_firstFree_42 {g : GG} (Q : Int32 → Mem → Prop) : ∀ (n : Nat) (v0 : Nat) (v1 : Int32) (v2 : Int32) (v3 : Int32) (M : Mem), T_X7_firstFree_42 Q n v0 v1 v2 v3 M → WP g 16 mX7_firstFree 42 [some (.ref (g.1 + v0)), some (.int v1), some (.int v2), some (.int v3)] [] M 0 (oI Q noX) := by
  intro n
  induction n with
  | zero => intro v0 v1 v2 v3 M h; exact h.elim
  | succ n hκ42 =>
    intro v0 v1 v2 v3 M h
    unfold T_X7_firstFree_42 at h
    refine R_iload_n (pc := 42) d_X7_firstFree_42 rfl rfl ?_
    refine R_sipush (pc := 43) (v := 224) d_X7_firstFree_43 (by decide) ?_
    refine R_icmp_ge (pc := 46) (tgt := 72) d_X7_firstFree_46 (by decide) (fun c => ?_) (fun c => ?_)
    · rw [if_pos c] at h
      refine R_aload_n (pc := 72) d_X7_firstFree_72 rfl rfl ?_
      refine R_iconst (pc := 73) (v := 3) d_X7_firstFree_73 (by decide) ?_
      obtain ⟨k1, h⟩ := h
      refine R_callV (pc := 74) (As := [.int 3]) (rest := []) (c_X7_fails (g := g) v0 3 M _ h) rfl rfl cal_RX7_163 ins_X7_fails sel_X7_fails (cls_at k1 clsOK7) (by decide) (by decide) rfl rfl (Nat.le_of_ble_eq_true rfl) d_X7_firstFree_74 (k_I (fun y3 M2 h => ?_)) (fun _ _ h9 => False.elim h9)
      try dsimp only at h
      exact R_retv (pc := 77) d_X7_firstFree_77 h
    · rw [if_neg c] at h
      refine R_aload_n (pc := 49) d_X7_firstFree_49 rfl rfl ?_
      refine R_iload_n (pc := 50) d_X7_firstFree_50 rfl rfl ?_
      refine R_iload_n (pc := 51) d_X7_firstFree_51 rfl rfl ?_
      refine R_iload_n (pc := 52) d_X7_firstFree_52 rfl rfl ?_
      refine R_iconst (pc := 53) (v := 4) d_X7_firstFree_53 (by decide) ?_
      refine R_idiv (pc := 54) d_X7_firstFree_54 (by decide) ?_
      refine R_iload_n (pc := 55) d_X7_firstFree_55 rfl rfl ?_
      refine R_iconst (pc := 56) (v := 4) d_X7_firstFree_56 (by decide) ?_
      refine R_irem (pc := 57) d_X7_firstFree_57 (by decide) ?_
      obtain ⟨k4, h⟩ := h
      refine R_callV (pc := 58) (As := [.int v1, .int v2, .int (v3 / 4), .int (v3 - v3 / 4 * 4)]) (rest := []) (c_X7_reasonOf (g := g) v0 v1 v2 (v3 / 4) (v3 - v3 / 4 * 4) M _ h) rfl rfl cal_RX7_140 ins_X7_reasonOf sel_X7_reasonOf (cls_at k4 clsOK7) (by decide) (by decide) rfl rfl (Nat.le_of_ble_eq_true rfl) d_X7_firstFree_58 (k_I (fun y6 M5 h => ?_)) (fun _ _ h9 => False.elim h9)
      try dsimp only at h
      refine R_if_ne (pc := 61) (tgt := 66) d_X7_firstFree_61 (by decide) (fun c => ?_) (fun c => ?_)
      · rw [if_neg c] at h
        obtain ⟨x7, ex7⟩ : ∃ z : Int32, z = v3 + 1 := ⟨_, rfl⟩
        have h := h x7 ex7
        refine R_iinc (pc := 66) (v := x7) (L' := [some (.ref (g.1 + v0)), some (.int v1), some (.int v2), some (.int x7)]) d_X7_firstFree_66 rfl (by rw [ex7]; rfl) (by decide) rfl ?_
        refine R_goto (pc := 69) (tgt := 42) d_X7_firstFree_69 (by decide) ?_
        exact WP_sub (hκ42 v0 v1 v2 x7 M5 h) (by decide) (ls_s (ls_s (ls_s (ls_s ls_0))))
      · rw [if_pos c] at h
        refine R_iload_n (pc := 64) d_X7_firstFree_64 rfl rfl ?_
        exact R_retv (pc := 65) d_X7_firstFree_65 h
def T_X7_firstFree (Q : Int32 → Mem → Prop) (v0 : Nat) (v1 : Int32) (v2 : Int32) (M : Mem) : Prop := (kd v0 = 7) ∧ ∀ M2 : Mem, M2 = mset M v0 0 0 → T_X7_isInmate (fun y4 M3 => if y4 = 0 then (T_X7_fails (fun y13 M12 => Q y13 M12)  v0 1 M3) else (T_X7_areVisitors (fun y6 M5 => if y6 = 0 then (T_X7_fails (fun y11 M10 => Q y11 M10)  v0 2 M5) else ((kd (rf v0 1) = 9) ∧ (vp_in 0 (ln (rf v0 1))) ∧ ∀ x9 : Int32, x9 = 4 * (M5.1 (rf v0 1) (Int32.toNatClampNeg 0)) → (∃ N : Nat, T_X7_firstFree_42 Q N v0 v1 v2 x9 M5)))  v0 v2 M3))  v0 v1 M2
set_option maxRecDepth 100000 in
set_option maxHeartbeats 4000000 in
theorem c_X7_firstFree {g : GG} (v0 : Nat) (v1 : Int32) (v2 : Int32) (M : Mem) (Q : Int32 → Mem → Prop) (h : T_X7_firstFree Q v0 v1 v2 M) : CT g 16 mX7_firstFree [.ref (g.1 + v0), .int v1, .int v2] M 0 (oI Q noX) := by
  refine CT_of (L := [some (.ref (g.1 + v0)), some (.int v1), some (.int v2), none]) (by decide) rfl (Nat.le_of_ble_eq_true rfl) (ro_I rfl) rfl ?_
  unfold T_X7_firstFree at h
  refine R_aload_n (pc := 0) d_X7_firstFree_0 rfl rfl ?_
  refine R_iconst (pc := 1) (v := 0) d_X7_firstFree_1 (by decide) ?_
  obtain ⟨k1, h⟩ := h
  refine R_putI (pc := 2) fld_RX7_37 rfl rfl rfl k1 rfl rfl d_X7_firstFree_2 (N_M (fun M2 eM2 => ?_))
  have h := h M2 eM2
  refine R_aload_n (pc := 5) d_X7_firstFree_5 rfl rfl ?_
  refine R_iload_n (pc := 6) d_X7_firstFree_6 rfl rfl ?_
  refine R_callV (pc := 7) (As := [.int v1]) (rest := []) (c_X7_isInmate (g := g) v0 v1 M2 _ h) rfl rfl cal_RX7_179 ins_X7_isInmate sel_X7_isInmate (cls_at k1 clsOK7) (by decide) (by decide) rfl rfl (Nat.le_of_ble_eq_true rfl) d_X7_firstFree_7 (k_Z (fun y4 M3 h => ?_)) (fun _ _ h9 => False.elim h9)
  try dsimp only at h
  refine R_if_ne (pc := 10) (tgt := 19) d_X7_firstFree_10 (by decide) (fun c => ?_) (fun c => ?_)
  · rw [if_neg c] at h
    refine R_aload_n (pc := 19) d_X7_firstFree_19 rfl rfl ?_
    refine R_iload_n (pc := 20) d_X7_firstFree_20 rfl rfl ?_
    refine R_callV (pc := 21) (As := [.int v2]) (rest := []) (c_X7_areVisitors (g := g) v0 v2 M3 _ h) rfl rfl cal_RX7_194 ins_X7_areVisitors sel_X7_areVisitors (cls_at k1 clsOK7) (by decide) (by decide) rfl rfl (Nat.le_of_ble_eq_true rfl) d_X7_firstFree_21 (k_Z (fun y6 M5 h => ?_)) (fun _ _ h9 => False.elim h9)
    try dsimp only at h
    refine R_if_ne (pc := 24) (tgt := 33) d_X7_firstFree_24 (by decide) (fun c => ?_) (fun c => ?_)
    · rw [if_neg c] at h
      refine R_iconst (pc := 33) (v := 4) d_X7_firstFree_33 (by decide) ?_
      refine R_aload_n (pc := 34) d_X7_firstFree_34 rfl rfl ?_
      refine R_getR (pc := 35) fld_RX7_7 rfl rfl k1 d_X7_firstFree_35 ?_
      refine R_iconst (pc := 38) (v := 0) d_X7_firstFree_38 (by decide) ?_
      obtain ⟨k7, h⟩ := h
      obtain ⟨k8, h⟩ := h
      refine R_iald (pc := 39) k7 k8 d_X7_firstFree_39 ?_
      refine R_imul (pc := 40) d_X7_firstFree_40 ?_
      refine N_i (fun x9 ex9 => ?_)
      have h := h x9 ex9
      refine R_istore_n (pc := 41) (L' := [some (.ref (g.1 + v0)), some (.int v1), some (.int v2), some (.int x9)]) d_X7_firstFree_41 rfl (by decide) rfl ?_
      obtain ⟨N, h⟩ := h
      exact WP_sub (B_X7_firstFree_42 Q N v0 v1 v2 x9 M5 h) (by decide) (ls_s (ls_s (ls_s (ls_s ls_0))))
    · rw [if_pos c] at h
      refine R_aload_n (pc := 27) d_X7_firstFree_27 rfl rfl ?_
      refine R_iconst (pc := 28) (v := 2) d_X7_firstFree_28 (by decide) ?_
      refine R_callV (pc := 29) (As := [.int 2]) (rest := []) (c_X7_fails (g := g) v0 2 M5 _ h) rfl rfl cal_RX7_163 ins_X7_fails sel_X7_fails (cls_at k1 clsOK7) (by decide) (by decide) rfl rfl (Nat.le_of_ble_eq_true rfl) d_X7_firstFree_29 (k_I (fun y11 M10 h => ?_)) (fun _ _ h9 => False.elim h9)
      try dsimp only at h
      exact R_retv (pc := 32) d_X7_firstFree_32 h
  · rw [if_pos c] at h
    refine R_aload_n (pc := 13) d_X7_firstFree_13 rfl rfl ?_
    refine R_iconst (pc := 14) (v := 1) d_X7_firstFree_14 (by decide) ?_
    refine R_callV (pc := 15) (As := [.int 1]) (rest := []) (c_X7_fails (g := g) v0 1 M3 _ h) rfl rfl cal_RX7_163 ins_X7_fails sel_X7_fails (cls_at k1 clsOK7) (by decide) (by decide) rfl rfl (Nat.le_of_ble_eq_true rfl) d_X7_firstFree_15 (k_I (fun y13 M12 h => ?_)) (fun _ _ h9 => False.elim h9)
    try dsimp only at h
    exact R_retv (pc := 18) d_X7_firstFree_18 h
