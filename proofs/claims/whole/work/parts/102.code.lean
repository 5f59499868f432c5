/-! X2_chooseRoom -/
theorem d_X2_chooseRoom_0 : decode mX2_chooseRoom.2.1 0 = .ok (.iload_n 2, 1) := by decide +kernel
theorem d_X2_chooseRoom_1 : decode mX2_chooseRoom.2.1 1 = .ok (.invokestatic 84, 3) := by decide +kernel
theorem d_X2_chooseRoom_4 : decode mX2_chooseRoom.2.1 4 = .ok (.istore 4, 2) := by decide +kernel
theorem d_X2_chooseRoom_6 : decode mX2_chooseRoom.2.1 6 = .ok (.aload_n 0, 1) := by decide +kernel
theorem d_X2_chooseRoom_7 : decode mX2_chooseRoom.2.1 7 = .ok (.invokevirtual 111, 3) := by decide +kernel
theorem d_X2_chooseRoom_10 : decode mX2_chooseRoom.2.1 10 = .ok (.istore 5, 2) := by decide +kernel
theorem d_X2_chooseRoom_12 : decode mX2_chooseRoom.2.1 12 = .ok (.aload_n 0, 1) := by decide +kernel
theorem d_X2_chooseRoom_13 : decode mX2_chooseRoom.2.1 13 = .ok (.iload_n 1, 1) := by decide +kernel
theorem d_X2_chooseRoom_14 : decode mX2_chooseRoom.2.1 14 = .ok (.iload 4, 2) := by decide +kernel
theorem d_X2_chooseRoom_16 : decode mX2_chooseRoom.2.1 16 = .ok (.iload 5, 2) := by decide +kernel
theorem d_X2_chooseRoom_18 : decode mX2_chooseRoom.2.1 18 = .ok (.aload_n 0, 1) := by decide +kernel
theorem d_X2_chooseRoom_19 : decode mX2_chooseRoom.2.1 19 = .ok (.iload_n 1, 1) := by decide +kernel
theorem d_X2_chooseRoom_20 : decode mX2_chooseRoom.2.1 20 = .ok (.iload_n 3, 1) := by decide +kernel
theorem d_X2_chooseRoom_21 : decode mX2_chooseRoom.2.1 21 = .ok (.invokevirtual 115, 3) := by decide +kernel
theorem d_X2_chooseRoom_24 : decode mX2_chooseRoom.2.1 24 = .ok (.iconst (-1), 1) := by decide +kernel
theorem d_X2_chooseRoom_25 : decode mX2_chooseRoom.2.1 25 = .ok (.ixor, 1) := by decide +kernel
theorem d_X2_chooseRoom_26 : decode mX2_chooseRoom.2.1 26 = .ok (.iand, 1) := by decide +kernel
theorem d_X2_chooseRoom_27 : decode mX2_chooseRoom.2.1 27 = .ok (.invokevirtual 118, 3) := by decide +kernel
theorem d_X2_chooseRoom_30 : decode mX2_chooseRoom.2.1 30 = .ok (.istore 6, 2) := by decide +kernel
theorem d_X2_chooseRoom_32 : decode mX2_chooseRoom.2.1 32 = .ok (.iload 6, 2) := by decide +kernel
theorem d_X2_chooseRoom_34 : decode mX2_chooseRoom.2.1 34 = .ok (.ifCond .ne 15, 3) := by decide +kernel
theorem d_X2_chooseRoom_37 : decode mX2_chooseRoom.2.1 37 = .ok (.aload_n 0, 1) := by decide +kernel
theorem d_X2_chooseRoom_38 : decode mX2_chooseRoom.2.1 38 = .ok (.bipush 6, 2) := by decide +kernel
theorem d_X2_chooseRoom_40 : decode mX2_chooseRoom.2.1 40 = .ok (.iload 5, 2) := by decide +kernel
theorem d_X2_chooseRoom_42 : decode mX2_chooseRoom.2.1 42 = .ok (.invokestatic 84, 3) := by decide +kernel
theorem d_X2_chooseRoom_45 : decode mX2_chooseRoom.2.1 45 = .ok (.invokevirtual 48, 3) := by decide +kernel
theorem d_X2_chooseRoom_48 : decode mX2_chooseRoom.2.1 48 = .ok (.ireturn, 1) := by decide +kernel
theorem d_X2_chooseRoom_49 : decode mX2_chooseRoom.2.1 49 = .ok (.aload_n 0, 1) := by decide +kernel
theorem d_X2_chooseRoom_50 : decode mX2_chooseRoom.2.1 50 = .ok (.aload_n 0, 1) := by decide +kernel
theorem d_X2_chooseRoom_51 : decode mX2_chooseRoom.2.1 51 = .ok (.getfield 9, 3) := by decide +kernel
theorem d_X2_chooseRoom_54 : decode mX2_chooseRoom.2.1 54 = .ok (.iload_n 1, 1) := by decide +kernel
theorem d_X2_chooseRoom_55 : decode mX2_chooseRoom.2.1 55 = .ok (.aload_n 0, 1) := by decide +kernel
theorem d_X2_chooseRoom_56 : decode mX2_chooseRoom.2.1 56 = .ok (.getfield 26, 3) := by decide +kernel
theorem d_X2_chooseRoom_59 : decode mX2_chooseRoom.2.1 59 = .ok (.iload 4, 2) := by decide +kernel
theorem d_X2_chooseRoom_61 : decode mX2_chooseRoom.2.1 61 = .ok (.if_icmp .lt 8, 3) := by decide +kernel
theorem d_X2_chooseRoom_64 : decode mX2_chooseRoom.2.1 64 = .ok (.iload 6, 2) := by decide +kernel
theorem d_X2_chooseRoom_66 : decode mX2_chooseRoom.2.1 66 = .ok (.goto 9, 3) := by decide +kernel
theorem d_X2_chooseRoom_69 : decode mX2_chooseRoom.2.1 69 = .ok (.aload_n 0, 1) := by decide +kernel
theorem d_X2_chooseRoom_70 : decode mX2_chooseRoom.2.1 70 = .ok (.iload 6, 2) := by decide +kernel
theorem d_X2_chooseRoom_72 : decode mX2_chooseRoom.2.1 72 = .ok (.invokevirtual 121, 3) := by decide +kernel
theorem d_X2_chooseRoom_75 : decode mX2_chooseRoom.2.1 75 = .ok (.invokevirtual 124, 3) := by decide +kernel
theorem d_X2_chooseRoom_78 : decode mX2_chooseRoom.2.1 78 = .ok (.putfield 32, 3) := by decide +kernel
theorem d_X2_chooseRoom_81 : decode mX2_chooseRoom.2.1 81 = .ok (.aload_n 0, 1) := by decide +kernel
theorem d_X2_chooseRoom_82 : decode mX2_chooseRoom.2.1 82 = .ok (.getfield 32, 3) := by decide +kernel
theorem d_X2_chooseRoom_85 : decode mX2_chooseRoom.2.1 85 = .ok (.iconst (-1), 1) := by decide +kernel
theorem d_X2_chooseRoom_86 : decode mX2_chooseRoom.2.1 86 = .ok (.if_icmp .ne 16, 3) := by decide +kernel
theorem d_X2_chooseRoom_89 : decode mX2_chooseRoom.2.1 89 = .ok (.aload_n 0, 1) := by decide +kernel
theorem d_X2_chooseRoom_90 : decode mX2_chooseRoom.2.1 90 = .ok (.bipush 7, 2) := by decide +kernel
theorem d_X2_chooseRoom_92 : decode mX2_chooseRoom.2.1 92 = .ok (.aload_n 0, 1) := by decide +kernel
theorem d_X2_chooseRoom_93 : decode mX2_chooseRoom.2.1 93 = .ok (.getfield 26, 3) := by decide +kernel
theorem d_X2_chooseRoom_96 : decode mX2_chooseRoom.2.1 96 = .ok (.invokevirtual 48, 3) := by decide +kernel
theorem d_X2_chooseRoom_99 : decode mX2_chooseRoom.2.1 99 = .ok (.goto 4, 3) := by decide +kernel
theorem d_X2_chooseRoom_102 : decode mX2_chooseRoom.2.1 102 = .ok (.iconst 0, 1) := by decide +kernel
theorem d_X2_chooseRoom_103 : decode mX2_chooseRoom.2.1 103 = .ok (.ireturn, 1) := by decide +kernel
def T_X2_chooseRoom_103 (Q : Int32 → Mem → Prop) (s0 : Int32) (M : Mem) : Prop := Q s0 M
set_option maxRecDepth 100000 in
set_option maxHeartbeats 4000000 in
theorem B_X2_chooseRoom_103 {g : GG} (Q : Int32 → Mem → Prop) (s0 : Int32) (M : Mem) (h : T_X2_chooseRoom_103 Q s0 M) : WP g 11 mX2_chooseRoom 103 [none, none, none, none, none, none, none] [.int s0] M 0 (oI Q noX) := by
  unfold T_X2_chooseRoom_103 at h
  exact R_retv (pc := 103) d_X2_chooseRoom_103 h
def T_X2_chooseRoom_75 (Q : Int32 → Mem → Prop) (v0 : Nat) (s0 : Int32) (s1 : Int32) (s2 : Nat) (s3 : Nat) (M : Mem) : Prop := (kd s2 = 3) ∧ T_X3_firstRoom (fun y3 M2 => (kd s3 = 2) ∧ ∀ M5 : Mem, M5 = mset M2 s3 6 y3 → (kd v0 = 2) ∧ if (M5.1 v0 6) = ((-1) : Int32) then (T_X2_refuse (fun y8 M7 => T_X2_chooseRoom_103 Q y8 M7)  v0 7 (M5.1 v0 4) M5) else (T_X2_chooseRoom_103 Q 0 M5))  s2 s1 s0 M
set_option maxRecDepth 100000 in
set_option maxHeartbeats 4000000 in
theorem B_X2_chooseRoom_75 {g : GG} (Q : Int32 → Mem → Prop) (v0 : Nat) (s0 : Int32) (s1 : Int32) (s2 : Nat) (s3 : Nat) (M : Mem) (h : T_X2_chooseRoom_75 Q v0 s0 s1 s2 s3 M) : WP g 11 mX2_chooseRoom 75 [some (.ref (g.1 + v0)), none, none, none, none, none, none] [.int s0, .int s1, .ref (g.1 + s2), .ref (g.1 + s3)] M 0 (oI Q noX) := by
  unfold T_X2_chooseRoom_75 at h
  obtain ⟨k1, h⟩ := h
  refine R_callV (pc := 75) (As := [.int s1, .int s0]) (rest := [.ref (g.1 + s3)]) (c_X3_firstRoom (g := g) s2 s1 s0 M _ h) rfl rfl cal_RX2_124 ins_X3_firstRoom sel_X3_firstRoom (cls_at k1 clsOK3) (by decide) (by decide) rfl rfl (Nat.le_of_ble_eq_true rfl) d_X2_chooseRoom_75 (k_I (fun y3 M2 h => ?_)) (fun _ _ h9 => False.elim h9)
  try dsimp only at h
  obtain ⟨k4, h⟩ := h
  refine R_putI (pc := 78) fld_RX2_32 rfl rfl rfl k4 rfl rfl d_X2_chooseRoom_78 (N_M (fun M5 eM5 => ?_))
  have h := h M5 eM5
  refine R_aload_n (pc := 81) d_X2_chooseRoom_81 rfl rfl ?_
  obtain ⟨k6, h⟩ := h
  refine R_getI (pc := 82) fld_RX2_32 rfl rfl k6 d_X2_chooseRoom_82 ?_
  refine R_iconst (pc := 85) (v := (-1)) d_X2_chooseRoom_85 (by decide) ?_
  refine R_icmp_ne (pc := 86) (tgt := 102) d_X2_chooseRoom_86 (by decide) (fun c => ?_) (fun c => ?_)
  · rw [if_neg c] at h
    refine R_iconst (pc := 102) (v := 0) d_X2_chooseRoom_102 (by decide) ?_
    exact WP_sub (B_X2_chooseRoom_103 Q 0 M5 h) (by decide) (ls_n (ls_n (ls_n (ls_n (ls_n (ls_n (ls_n ls_0)))))))
  · rw [if_pos c] at h
    refine R_aload_n (pc := 89) d_X2_chooseRoom_89 rfl rfl ?_
    refine R_bipush (pc := 90) (v := 7) d_X2_chooseRoom_90 (by decide) ?_
    refine R_aload_n (pc := 92) d_X2_chooseRoom_92 rfl rfl ?_
    refine R_getI (pc := 93) fld_RX2_26 rfl rfl k6 d_X2_chooseRoom_93 ?_
    refine R_callV (pc := 96) (As := [.int 7, .int (M5.1 v0 4)]) (rest := []) (c_X2_refuse (g := g) v0 7 (M5.1 v0 4) M5 _ h) rfl rfl cal_RX2_48 ins_X2_refuse sel_X2_refuse (cls_at k6 clsOK2) (by decide) (by decide) rfl rfl (Nat.le_of_ble_eq_true rfl) d_X2_chooseRoom_96 (k_I (fun y8 M7 h => ?_)) (fun _ _ h9 => False.elim h9)
    try dsimp only at h
    refine R_goto (pc := 99) (tgt := 103) d_X2_chooseRoom_99 (by decide) ?_
    exact WP_sub (B_X2_chooseRoom_103 Q y8 M7 h) (by decide) (ls_n (ls_n (ls_n (ls_n (ls_n (ls_n (ls_n ls_0)))))))
def T_X2_chooseRoom (Q : Int32 → Mem → Prop) (v0 : Nat) (v1 : Int32) (v2 : Int32) (v3 : Int32) (M : Mem) : Prop := T_J6_bitCount_0f7a4 (fun y2 M1 => (kd v0 = 2) ∧ T_X2_freeRooms (fun y5 M4 => T_X2_barredRooms (fun y7 M6 => T_X2_possibleRooms (fun y9 M8 => if y9 = 0 then (T_J6_bitCount_0f7a4 (fun y13 M12 => T_X2_refuse (fun y15 M14 => Q y15 M14)  v0 6 y13 M12)  y5 M8) else (if (M8.1 v0 4) < y2 then (T_X2_glassRooms (fun y11 M10 => T_X2_chooseRoom_75 Q v0 y11 v1 (rf v0 0) v0 M10)  v0 y9 M8) else (T_X2_chooseRoom_75 Q v0 y9 v1 (rf v0 0) v0 M8)))  v0 v1 y2 (y5 &&& (y7 ^^^ (-1))) M6)  v0 v1 v3 M4)  v0 M1)  v2 M
set_option maxRecDepth 100000 in
set_option maxHeartbeats 4000000 in
theorem c_X2_chooseRoom {g : GG} (v0 : Nat) (v1 : Int32) (v2 : Int32) (v3 : Int32) (M : Mem) (Q : Int32 → Mem → Prop) (h : T_X2_chooseRoom Q v0 v1 v2 v3 M) : CT g 11 mX2_chooseRoom [.ref (g.1 + v0), .int v1, .int v2, .int v3] M 0 (oI Q noX) := by
  refine CT_of (L := [some (.ref (g.1 + v0)), some (.int v1), some (.int v2), some (.int v3), none, none, none]) (by decide) rfl (Nat.le_of_ble_eq_true rfl) (ro_I rfl) rfl ?_
  unfold T_X2_chooseRoom at h
  refine R_iload_n (pc := 0) d_X2_chooseRoom_0 rfl rfl ?_
  refine R_callS (pc := 1) (As := [.int v2]) (rest := []) (c_J6_bitCount_0f7a4 (g := g) v2 M _ h) rfl rfl cal_RX2_84 sta_J6_bitCount_0f7a4 (by decide) (by decide) rfl rfl (Nat.le_of_ble_eq_true rfl) d_X2_chooseRoom_1 (k_I (fun y2 M1 h => ?_)) (fun _ _ h9 => False.elim h9)
  try dsimp only at h
  refine R_istore (pc := 4) (L' := [some (.ref (g.1 + v0)), some (.int v1), some (.int v2), some (.int v3), some (.int y2), none, none]) d_X2_chooseRoom_4 (by decide) rfl ?_
  refine R_aload_n (pc := 6) d_X2_chooseRoom_6 rfl rfl ?_
  obtain ⟨k3, h⟩ := h
  refine R_callV (pc := 7) (As := []) (rest := []) (c_X2_freeRooms (g := g) v0 M1 _ h) rfl rfl cal_RX2_111 ins_X2_freeRooms sel_X2_freeRooms (cls_at k3 clsOK2) (by decide) (by decide) rfl rfl (Nat.le_of_ble_eq_true rfl) d_X2_chooseRoom_7 (k_I (fun y5 M4 h => ?_)) (fun _ _ h9 => False.elim h9)
  try dsimp only at h
  refine R_istore (pc := 10) (L' := [some (.ref (g.1 + v0)), some (.int v1), some (.int v2), some (.int v3), some (.int y2), some (.int y5), none]) d_X2_chooseRoom_10 (by decide) rfl ?_
  refine R_aload_n (pc := 12) d_X2_chooseRoom_12 rfl rfl ?_
  refine R_iload_n (pc := 13) d_X2_chooseRoom_13 rfl rfl ?_
  refine R_iload (pc := 14) d_X2_chooseRoom_14 rfl ?_
  refine R_iload (pc := 16) d_X2_chooseRoom_16 rfl ?_
  refine R_aload_n (pc := 18) d_X2_chooseRoom_18 rfl rfl ?_
  refine R_iload_n (pc := 19) d_X2_chooseRoom_19 rfl rfl ?_
  refine R_iload_n (pc := 20) d_X2_chooseRoom_20 rfl rfl ?_
  refine R_callV (pc := 21) (As := [.int v1, .int v3]) (rest := [.int y5, .int y2, .int v1, .ref (g.1 + v0)]) (c_X2_barredRooms (g := g) v0 v1 v3 M4 _ h) rfl rfl cal_RX2_115 ins_X2_barredRooms sel_X2_barredRooms (cls_at k3 clsOK2) (by decide) (by decide) rfl rfl (Nat.le_of_ble_eq_true rfl) d_X2_chooseRoom_21 (k_I (fun y7 M6 h => ?_)) (fun _ _ h9 => False.elim h9)
  try dsimp only at h
  refine R_iconst (pc := 24) (v := (-1)) d_X2_chooseRoom_24 (by decide) ?_
  refine R_ixor (pc := 25) d_X2_chooseRoom_25 ?_
  refine R_iand (pc := 26) d_X2_chooseRoom_26 ?_
  refine R_callV (pc := 27) (As := [.int v1, .int y2, .int (y5 &&& (y7 ^^^ (-1)))]) (rest := []) (c_X2_possibleRooms (g := g) v0 v1 y2 (y5 &&& (y7 ^^^ (-1))) M6 _ h) rfl rfl cal_RX2_118 ins_X2_possibleRooms sel_X2_possibleRooms (cls_at k3 clsOK2) (by decide) (by decide) rfl rfl (Nat.le_of_ble_eq_true rfl) d_X2_chooseRoom_27 (k_I (fun y9 M8 h => ?_)) (fun _ _ h9 => False.elim h9)
  try dsimp only at h
  refine R_istore (pc := 30) (L' := [some (.ref (g.1 + v0)), some (.int v1), some (.int v2), some (.int v3), some (.int y2), some (.int y5), some (.int y9)]) d_X2_chooseRoom_30 (by decide) rfl ?_
  refine R_iload (pc := 32) d_X2_chooseRoom_32 rfl ?_
  refine R_if_ne (pc := 34) (tgt := 49) d_X2_chooseRoom_34 (by decide) (fun c => ?_) (fun c => ?_)
  · rw [if_neg c] at h
    refine R_aload_n (pc := 49) d_X2_chooseRoom_49 rfl rfl ?_
    refine R_aload_n (pc := 50) d_X2_chooseRoom_50 rfl rfl ?_
    refine R_getR (pc := 51) fld_RX2_9 rfl rfl k3 d_X2_chooseRoom_51 ?_
    refine R_iload_n (pc := 54) d_X2_chooseRoom_54 rfl rfl ?_
    refine R_aload_n (pc := 55) d_X2_chooseRoom_55 rfl rfl ?_
    refine R_getI (pc := 56) fld_RX2_26 rfl rfl k3 d_X2_chooseRoom_56 ?_
    refine R_iload (pc := 59) d_X2_chooseRoom_59 rfl ?_
    refine R_icmp_lt (pc := 61) (tgt := 69) d_X2_chooseRoom_61 (by decide) (fun c => ?_) (fun c => ?_)
    · rw [if_pos c] at h
      refine R_aload_n (pc := 69) d_X2_chooseRoom_69 rfl rfl ?_
      refine R_iload (pc := 70) d_X2_chooseRoom_70 rfl ?_
      refine R_callV (pc := 72) (As := [.int y9]) (rest := [.int v1, .ref (g.1 + (rf v0 0)), .ref (g.1 + v0)]) (c_X2_glassRooms (g := g) v0 y9 M8 _ h) rfl rfl cal_RX2_121 ins_X2_glassRooms sel_X2_glassRooms (cls_at k3 clsOK2) (by decide) (by decide) rfl rfl (Nat.le_of_ble_eq_true rfl) d_X2_chooseRoom_72 (k_I (fun y11 M10 h => ?_)) (fun _ _ h9 => False.elim h9)
      try dsimp only at h
      exact WP_sub (B_X2_chooseRoom_75 Q v0 y11 v1 (rf v0 0) v0 M10 h) (by decide) (ls_s (ls_n (ls_n (ls_n (ls_n (ls_n (ls_n ls_0)))))))
    · rw [if_neg c] at h
      refine R_iload (pc := 64) d_X2_chooseRoom_64 rfl ?_
      refine R_goto (pc := 66) (tgt := 75) d_X2_chooseRoom_66 (by decide) ?_
      exact WP_sub (B_X2_chooseRoom_75 Q v0 y9 v1 (rf v0 0) v0 M8 h) (by decide) (ls_s (ls_n (ls_n (ls_n (ls_n (ls_n (ls_n ls_0)))))))
  · rw [if_pos c] at h
    refine R_aload_n (pc := 37) d_X2_chooseRoom_37 rfl rfl ?_
    refine R_bipush (pc := 38) (v := 6) d_X2_chooseRoom_38 (by decide) ?_
    refine R_iload (pc := 40) d_X2_chooseRoom_40 rfl ?_
    refine R_callS (pc := 42) (As := [.int y5]) (rest := [.int 6, .ref (g.1 + v0)]) (c_J6_bitCount_0f7a4 (g := g) y5 M8 _ h) rfl rfl cal_RX2_84 sta_J6_bitCount_0f7a4 (by decide) (by decide) rfl rfl (Nat.le_of_ble_eq_true rfl) d_X2_chooseRoom_42 (k_I (fun y13 M12 h => ?_)) (fun _ _ h9 => False.elim h9)
    try dsimp only at h
    refine R_callV (pc := 45) (As := [.int 6, .int y13]) (rest := []) (c_X2_refuse (g := g) v0 6 y13 M12 _ h) rfl rfl cal_RX2_48 ins_X2_refuse sel_X2_refuse (cls_at k3 clsOK2) (by decide) (by decide) rfl rfl (Nat.le_of_ble_eq_true rfl) d_X2_chooseRoom_45 (k_I (fun y15 M14 h => ?_)) (fun _ _ h9 => False.elim h9)
    try dsimp only at h
    exact R_retv (pc := 48) d_X2_chooseRoom_48 h
/-! X4_isFull -/
theorem d_X4_isFull_0 : decode mX4_isFull.2.1 0 = .ok (.aload_n 0, 1) := by decide +kernel
theorem d_X4_isFull_1 : decode mX4_isFull.2.1 1 = .ok (.getfield 18, 3) := by decide +kernel
theorem d_X4_isFull_4 : decode mX4_isFull.2.1 4 = .ok (.aload_n 0, 1) := by decide +kernel
theorem d_X4_isFull_5 : decode mX4_isFull.2.1 5 = .ok (.getfield 9, 3) := by decide +kernel
theorem d_X4_isFull_8 : decode mX4_isFull.2.1 8 = .ok (.arraylength, 1) := by decide +kernel
theorem d_X4_isFull_9 : decode mX4_isFull.2.1 9 = .ok (.if_icmp .lt 7, 3) := by decide +kernel
theorem d_X4_isFull_12 : decode mX4_isFull.2.1 12 = .ok (.iconst 1, 1) := by decide +kernel
theorem d_X4_isFull_13 : decode mX4_isFull.2.1 13 = .ok (.goto 4, 3) := by decide +kernel
theorem d_X4_isFull_16 : decode mX4_isFull.2.1 16 = .ok (.iconst 0, 1) := by decide +kernel
theorem d_X4_isFull_17 : decode mX4_isFull.2.1 17 = .ok (.ireturn, 1) := by decide +kernel
def T_X4_isFull_17 (Q : Int32 → Mem → Prop) (s0 : Int32) (M : Mem) : Prop := ((s0 : Int32) = 0 ∨ (s0 : Int32) = 1) ∧ Q s0 M
set_option maxRecDepth 100000 in
set_option maxHeartbeats 4000000 in
theorem B_X4_isFull_17 {g : GG} (Q : Int32 → Mem → Prop) (s0 : Int32) (M : Mem) (h : T_X4_isFull_17 Q s0 M) : WP g 9 mX4_isFull 17 [none] [.int s0] M 0 (oZ Q noX) := by
  unfold T_X4_isFull_17 at h
  exact R_retv (pc := 17) d_X4_isFull_17 h
def T_X4_isFull (Q : Int32 → Mem → Prop) (v0 : Nat) (M : Mem) : Prop := (kd v0 = 4) ∧ (8 ≤ kd (rf v0 0)) ∧ (kd (rf v0 0) < 14) ∧ if (M.1 v0 2) < (Int32.ofNat (ln (rf v0 0))) then (T_X4_isFull_17 Q 0 M) else (T_X4_isFull_17 Q 1 M)
set_option maxRecDepth 100000 in
set_option maxHeartbeats 4000000 in
theorem c_X4_isFull {g : GG} (v0 : Nat) (M : Mem) (Q : Int32 → Mem → Prop) (h : T_X4_isFull Q v0 M) : CT g 9 mX4_isFull [.ref (g.1 + v0)] M 0 (oZ Q noX) := by
  refine CT_of (L := [some (.ref (g.1 + v0))]) (by decide) rfl (Nat.le_of_ble_eq_true rfl) (ro_Z rfl) rfl ?_
  unfold T_X4_isFull at h
  refine R_aload_n (pc := 0) d_X4_isFull_0 rfl rfl ?_
  obtain ⟨k1, h⟩ := h
  refine R_getI (pc := 1) fld_RX4_18 rfl rfl k1 d_X4_isFull_1 ?_
  refine R_aload_n (pc := 4) d_X4_isFull_4 rfl rfl ?_
  refine R_getR (pc := 5) fld_RX4_9 rfl rfl k1 d_X4_isFull_5 ?_
  obtain ⟨k2, h⟩ := h
  obtain ⟨k3, h⟩ := h
  refine R_alen (pc := 8) k2 k3 d_X4_isFull_8 ?_
  refine R_icmp_lt (pc := 9) (tgt := 16) d_X4_isFull_9 (by decide) (fun c => ?_) (fun c => ?_)
  · rw [if_pos c] at h
    refine R_iconst (pc := 16) (v := 0) d_X4_isFull_16 (by decide) ?_
    exact WP_sub (B_X4_isFull_17 Q 0 M h) (by decide) (ls_n ls_0)
  · rw [if_neg c] at h
    refine R_iconst (pc := 12) (v := 1) d_X4_isFull_12 (by decide) ?_
    refine R_goto (pc := 13) (tgt := 17) d_X4_isFull_13 (by decide) ?_
    exact WP_sub (B_X4_isFull_17 Q 1 M h) (by decide) (ls_n ls_0)
/-! X2_reasonOfSlot -/
theorem d_X2_reasonOfSlot_0 : decode mX2_reasonOfSlot.2.1 0 = .ok (.aload_n 0, 1) := by decide +kernel
theorem d_X2_reasonOfSlot_1 : decode mX2_reasonOfSlot.2.1 1 = .ok (.iload_n 3, 1) := by decide +kernel
theorem d_X2_reasonOfSlot_2 : decode mX2_reasonOfSlot.2.1 2 = .ok (.iload 4, 2) := by decide +kernel
theorem d_X2_reasonOfSlot_4 : decode mX2_reasonOfSlot.2.1 4 = .ok (.invokevirtual 80, 3) := by decide +kernel
theorem d_X2_reasonOfSlot_7 : decode mX2_reasonOfSlot.2.1 7 = .ok (.aload_n 0, 1) := by decide +kernel
theorem d_X2_reasonOfSlot_8 : decode mX2_reasonOfSlot.2.1 8 = .ok (.getfield 15, 3) := by decide +kernel
theorem d_X2_reasonOfSlot_11 : decode mX2_reasonOfSlot.2.1 11 = .ok (.iload_n 1, 1) := by decide +kernel
theorem d_X2_reasonOfSlot_12 : decode mX2_reasonOfSlot.2.1 12 = .ok (.iaload, 1) := by decide +kernel
theorem d_X2_reasonOfSlot_13 : decode mX2_reasonOfSlot.2.1 13 = .ok (.iconst (-1), 1) := by decide +kernel
theorem d_X2_reasonOfSlot_14 : decode mX2_reasonOfSlot.2.1 14 = .ok (.if_icmp .eq 15, 3) := by decide +kernel
theorem d_X2_reasonOfSlot_17 : decode mX2_reasonOfSlot.2.1 17 = .ok (.aload_n 0, 1) := by decide +kernel
theorem d_X2_reasonOfSlot_18 : decode mX2_reasonOfSlot.2.1 18 = .ok (.iconst 4, 1) := by decide +kernel
theorem d_X2_reasonOfSlot_19 : decode mX2_reasonOfSlot.2.1 19 = .ok (.aload_n 0, 1) := by decide +kernel
theorem d_X2_reasonOfSlot_20 : decode mX2_reasonOfSlot.2.1 20 = .ok (.getfield 15, 3) := by decide +kernel
theorem d_X2_reasonOfSlot_23 : decode mX2_reasonOfSlot.2.1 23 = .ok (.iload_n 1, 1) := by decide +kernel
theorem d_X2_reasonOfSlot_24 : decode mX2_reasonOfSlot.2.1 24 = .ok (.iaload, 1) := by decide +kernel
theorem d_X2_reasonOfSlot_25 : decode mX2_reasonOfSlot.2.1 25 = .ok (.invokevirtual 48, 3) := by decide +kernel
theorem d_X2_reasonOfSlot_28 : decode mX2_reasonOfSlot.2.1 28 = .ok (.ireturn, 1) := by decide +kernel
theorem d_X2_reasonOfSlot_29 : decode mX2_reasonOfSlot.2.1 29 = .ok (.iload_n 2, 1) := by decide +kernel
theorem d_X2_reasonOfSlot_30 : decode mX2_reasonOfSlot.2.1 30 = .ok (.aload_n 0, 1) := by decide +kernel
theorem d_X2_reasonOfSlot_31 : decode mX2_reasonOfSlot.2.1 31 = .ok (.getfield 19, 3) := by decide +kernel
theorem d_X2_reasonOfSlot_34 : decode mX2_reasonOfSlot.2.1 34 = .ok (.iand, 1) := by decide +kernel
theorem d_X2_reasonOfSlot_35 : decode mX2_reasonOfSlot.2.1 35 = .ok (.istore 5, 2) := by decide +kernel
theorem d_X2_reasonOfSlot_37 : decode mX2_reasonOfSlot.2.1 37 = .ok (.iload 5, 2) := by decide +kernel
theorem d_X2_reasonOfSlot_39 : decode mX2_reasonOfSlot.2.1 39 = .ok (.ifCond .eq 20, 3) := by decide +kernel
theorem d_X2_reasonOfSlot_42 : decode mX2_reasonOfSlot.2.1 42 = .ok (.aload_n 0, 1) := by decide +kernel
theorem d_X2_reasonOfSlot_43 : decode mX2_reasonOfSlot.2.1 43 = .ok (.iconst 5, 1) := by decide +kernel
theorem d_X2_reasonOfSlot_44 : decode mX2_reasonOfSlot.2.1 44 = .ok (.iload 5, 2) := by decide +kernel
theorem d_X2_reasonOfSlot_46 : decode mX2_reasonOfSlot.2.1 46 = .ok (.iload 5, 2) := by decide +kernel
theorem d_X2_reasonOfSlot_48 : decode mX2_reasonOfSlot.2.1 48 = .ok (.ineg, 1) := by decide +kernel
theorem d_X2_reasonOfSlot_49 : decode mX2_reasonOfSlot.2.1 49 = .ok (.iand, 1) := by decide +kernel
theorem d_X2_reasonOfSlot_50 : decode mX2_reasonOfSlot.2.1 50 = .ok (.iconst 1, 1) := by decide +kernel
theorem d_X2_reasonOfSlot_51 : decode mX2_reasonOfSlot.2.1 51 = .ok (.isub, 1) := by decide +kernel
theorem d_X2_reasonOfSlot_52 : decode mX2_reasonOfSlot.2.1 52 = .ok (.invokestatic 84, 3) := by decide +kernel
theorem d_X2_reasonOfSlot_55 : decode mX2_reasonOfSlot.2.1 55 = .ok (.invokevirtual 48, 3) := by decide +kernel
theorem d_X2_reasonOfSlot_58 : decode mX2_reasonOfSlot.2.1 58 = .ok (.ireturn, 1) := by decide +kernel
theorem d_X2_reasonOfSlot_59 : decode mX2_reasonOfSlot.2.1 59 = .ok (.aload_n 0, 1) := by decide +kernel
theorem d_X2_reasonOfSlot_60 : decode mX2_reasonOfSlot.2.1 60 = .ok (.iload_n 1, 1) := by decide +kernel
theorem d_X2_reasonOfSlot_61 : decode mX2_reasonOfSlot.2.1 61 = .ok (.iload_n 2, 1) := by decide +kernel
theorem d_X2_reasonOfSlot_62 : decode mX2_reasonOfSlot.2.1 62 = .ok (.iload_n 3, 1) := by decide +kernel
theorem d_X2_reasonOfSlot_63 : decode mX2_reasonOfSlot.2.1 63 = .ok (.invokevirtual 89, 3) := by decide +kernel
theorem d_X2_reasonOfSlot_66 : decode mX2_reasonOfSlot.2.1 66 = .ok (.istore 6, 2) := by decide +kernel
theorem d_X2_reasonOfSlot_68 : decode mX2_reasonOfSlot.2.1 68 = .ok (.iload 6, 2) := by decide +kernel
theorem d_X2_reasonOfSlot_70 : decode mX2_reasonOfSlot.2.1 70 = .ok (.ifCond .ne 25, 3) := by decide +kernel
theorem d_X2_reasonOfSlot_73 : decode mX2_reasonOfSlot.2.1 73 = .ok (.aload_n 0, 1) := by decide +kernel
theorem d_X2_reasonOfSlot_74 : decode mX2_reasonOfSlot.2.1 74 = .ok (.getfield 9, 3) := by decide +kernel
theorem d_X2_reasonOfSlot_77 : decode mX2_reasonOfSlot.2.1 77 = .ok (.getfield 92, 3) := by decide +kernel
theorem d_X2_reasonOfSlot_80 : decode mX2_reasonOfSlot.2.1 80 = .ok (.invokevirtual 95, 3) := by decide +kernel
theorem d_X2_reasonOfSlot_83 : decode mX2_reasonOfSlot.2.1 83 = .ok (.ifCond .eq 12, 3) := by decide +kernel
theorem d_X2_reasonOfSlot_86 : decode mX2_reasonOfSlot.2.1 86 = .ok (.aload_n 0, 1) := by decide +kernel
theorem d_X2_reasonOfSlot_87 : decode mX2_reasonOfSlot.2.1 87 = .ok (.bipush 8, 2) := by decide +kernel
theorem d_X2_reasonOfSlot_89 : decode mX2_reasonOfSlot.2.1 89 = .ok (.bipush 60, 2) := by decide +kernel
theorem d_X2_reasonOfSlot_91 : decode mX2_reasonOfSlot.2.1 91 = .ok (.invokevirtual 48, 3) := by decide +kernel
theorem d_X2_reasonOfSlot_94 : decode mX2_reasonOfSlot.2.1 94 = .ok (.ireturn, 1) := by decide +kernel
theorem d_X2_reasonOfSlot_95 : decode mX2_reasonOfSlot.2.1 95 = .ok (.iload 6, 2) := by decide +kernel
theorem d_X2_reasonOfSlot_97 : decode mX2_reasonOfSlot.2.1 97 = .ok (.ireturn, 1) := by decide +kernel
def T_X2_reasonOfSlot_95 (Q : Int32 → Mem → Prop) (v6 : Int32) (M : Mem) : Prop := Q v6 M
set_option maxRecDepth 100000 in
set_option maxHeartbeats 4000000 in
theorem B_X2_reasonOfSlot_95 {g : GG} (Q : Int32 → Mem → Prop) (v6 : Int32) (M : Mem) (h : T_X2_reasonOfSlot_95 Q v6 M) : WP g 12 mX2_reasonOfSlot 95 [none, none, none, none, none, none, some (.int v6)] [] M 0 (oI Q noX) := by
  unfold T_X2_reasonOfSlot_95 at h
  refine R_iload (pc := 95) d_X2_reasonOfSlot_95 rfl ?_
  exact R_retv (pc := 97) d_X2_reasonOfSlot_97 h
def T_X2_reasonOfSlot (Q : Int32 → Mem → Prop) (v0 : Nat) (v1 : Int32) (v2 : Int32) (v3 : Int32) (v4 : Int32) (M : Mem) : Prop := (kd v0 = 2) ∧ T_X2_lookAt (fun M2 => (kd (rf v0 1) = 9) ∧ (vp_in v1 (ln (rf v0 1))) ∧ if (M2.1 (rf v0 1) (Int32.toNatClampNeg v1)) = ((-1) : Int32) then (∀ x5 : Int32, x5 = v2 &&& (M2.1 v0 2) → if x5 = 0 then (T_X2_chooseRoom (fun y7 M6 => if y7 = 0 then ((kd (rf v0 0) = 3) ∧ (kd (rf (rf v0 0) 5) = 4) ∧ T_X4_isFull (fun y11 M10 => if y11 = 0 then (T_X2_reasonOfSlot_95 Q y7 M10) else (T_X2_refuse (fun y13 M12 => Q y13 M12)  v0 8 60 M10))  (rf (rf v0 0) 5) M6) else (T_X2_reasonOfSlot_95 Q y7 M6))  v0 v1 v2 v3 M2) else (T_J6_bitCount_0f7a4 (fun y15 M14 => T_X2_refuse (fun y17 M16 => Q y17 M16)  v0 5 y15 M14)  ((x5 &&& (-x5)) - 1) M2)) else (T_X2_refuse (fun y19 M18 => Q y19 M18)  v0 4 (M2.1 (rf v0 1) (Int32.toNatClampNeg v1)) M2))  v0 v3 v4 M
set_option maxRecDepth 100000 in
set_option maxHeartbeats 4000000 in
theorem c_X2_reasonOfSlot {g : GG} (v0 : Nat) (v1 : Int32) (v2 : Int32) (v3 : Int32) (v4 : Int32) (M : Mem) (Q : Int32 → Mem → Prop) (h : T_X2_reasonOfSlot Q v0 v1 v2 v3 v4 M) : CT g 12 mX2_reasonOfSlot [.ref (g.1 + v0), .int v1, .int v2, .int v3, .int v4] M 0 (oI Q noX) := by
  refine CT_of (L := [some (.ref (g.1 + v0)), some (.int v1), some (.int v2), some (.int v3), some (.int v4), none, none]) (by decide) rfl (Nat.le_of_ble_eq_true rfl) (ro_I rfl) rfl ?_
  unfold T_X2_reasonOfSlot at h
  refine R_aload_n (pc := 0) d_X2_reasonOfSlot_0 rfl rfl ?_
  refine R_iload_n (pc := 1) d_X2_reasonOfSlot_1 rfl rfl ?_
  refine R_iload (pc := 2) d_X2_reasonOfSlot_2 rfl ?_
  obtain ⟨k1, h⟩ := h
  refine R_callV (pc := 4) (As := [.int v3, .int v4]) (rest := []) (c_X2_lookAt (g := g) v0 v3 v4 M _ h) rfl rfl cal_RX2_80 ins_X2_lookAt sel_X2_lookAt (cls_at k1 clsOK2) (by decide) (by decide) rfl rfl (Nat.le_of_ble_eq_true rfl) d_X2_reasonOfSlot_4 (k_V (fun M2 h => ?_)) (fun _ _ h9 => False.elim h9)
  try dsimp only at h
  refine R_aload_n (pc := 7) d_X2_reasonOfSlot_7 rfl rfl ?_
  refine R_getR (pc := 8) fld_RX2_15 rfl rfl k1 d_X2_reasonOfSlot_8 ?_
  refine R_iload_n (pc := 11) d_X2_reasonOfSlot_11 rfl rfl ?_
  obtain ⟨k3, h⟩ := h
  obtain ⟨k4, h⟩ := h
  refine R_iald (pc := 12) k3 k4 d_X2_reasonOfSlot_12 ?_
  refine R_iconst (pc := 13) (v := (-1)) d_X2_reasonOfSlot_13 (by decide) ?_
  refine R_icmp_eq (pc := 14) (tgt := 29) d_X2_reasonOfSlot_14 (by decide) (fun c => ?_) (fun c => ?_)
  · rw [if_pos c] at h
    refine R_iload_n (pc := 29) d_X2_reasonOfSlot_29 rfl rfl ?_
    refine R_aload_n (pc := 30) d_X2_reasonOfSlot_30 rfl rfl ?_
    refine R_getI (pc := 31) fld_RX2_19 rfl rfl k1 d_X2_reasonOfSlot_31 ?_
    refine R_iand (pc := 34) d_X2_reasonOfSlot_34 ?_
    refine N_i (fun x5 ex5 => ?_)
    have h := h x5 ex5
    refine R_istore (pc := 35) (L' := [some (.ref (g.1 + v0)), some (.int v1), some (.int v2), some (.int v3), some (.int v4), some (.int x5), none]) d_X2_reasonOfSlot_35 (by decide) rfl ?_
    refine R_iload (pc := 37) d_X2_reasonOfSlot_37 rfl ?_
    refine R_if_eq (pc := 39) (tgt := 59) d_X2_reasonOfSlot_39 (by decide) (fun c => ?_) (fun c => ?_)
    · rw [if_pos c] at h
      refine R_aload_n (pc := 59) d_X2_reasonOfSlot_59 rfl rfl ?_
      refine R_iload_n (pc := 60) d_X2_reasonOfSlot_60 rfl rfl ?_
      refine R_iload_n (pc := 61) d_X2_reasonOfSlot_61 rfl rfl ?_
      refine R_iload_n (pc := 62) d_X2_reasonOfSlot_62 rfl rfl ?_
      refine R_callV (pc := 63) (As := [.int v1, .int v2, .int v3]) (rest := []) (c_X2_chooseRoom (g := g) v0 v1 v2 v3 M2 _ h) rfl rfl cal_RX2_89 ins_X2_chooseRoom sel_X2_chooseRoom (cls_at k1 clsOK2) (by decide) (by decide) rfl rfl (Nat.le_of_ble_eq_true rfl) d_X2_reasonOfSlot_63 (k_I (fun y7 M6 h => ?_)) (fun _ _ h9 => False.elim h9)
      try dsimp only at h
      refine R_istore (pc := 66) (L' := [some (.ref (g.1 + v0)), some (.int v1), some (.int v2), some (.int v3), some (.int v4), some (.int x5), some (.int y7)]) d_X2_reasonOfSlot_66 (by decide) rfl ?_
      refine R_iload (pc := 68) d_X2_reasonOfSlot_68 rfl ?_
      refine R_if_ne (pc := 70) (tgt := 95) d_X2_reasonOfSlot_70 (by decide) (fun c => ?_) (fun c => ?_)
      · rw [if_neg c] at h
        exact WP_sub (B_X2_reasonOfSlot_95 Q y7 M6 h) (by decide) (ls_n (ls_n (ls_n (ls_n (ls_n (ls_n (ls_s ls_0)))))))
      · rw [if_pos c] at h
        refine R_aload_n (pc := 73) d_X2_reasonOfSlot_73 rfl rfl ?_
        refine R_getR (pc := 74) fld_RX2_9 rfl rfl k1 d_X2_reasonOfSlot_74 ?_
        obtain ⟨k8, h⟩ := h
        refine R_getR (pc := 77) fld_RX2_92 rfl rfl k8 d_X2_reasonOfSlot_77 ?_
        obtain ⟨k9, h⟩ := h
        refine R_callV (pc := 80) (As := []) (rest := []) (c_X4_isFull (g := g) (rf (rf v0 0) 5) M6 _ h) rfl rfl cal_RX2_95 ins_X4_isFull sel_X4_isFull (cls_at k9 clsOK4) (by decide) (by decide) rfl rfl (Nat.le_of_ble_eq_true rfl) d_X2_reasonOfSlot_80 (k_Z (fun y11 M10 h => ?_)) (fun _ _ h9 => False.elim h9)
        try dsimp only at h
        refine R_if_eq (pc := 83) (tgt := 95) d_X2_reasonOfSlot_83 (by decide) (fun c => ?_) (fun c => ?_)
        · rw [if_pos c] at h
          exact WP_sub (B_X2_reasonOfSlot_95 Q y7 M10 h) (by decide) (ls_n (ls_n (ls_n (ls_n (ls_n (ls_n (ls_s ls_0)))))))
        · rw [if_neg c] at h
          refine R_aload_n (pc := 86) d_X2_reasonOfSlot_86 rfl rfl ?_
          refine R_bipush (pc := 87) (v := 8) d_X2_reasonOfSlot_87 (by decide) ?_
          refine R_bipush (pc := 89) (v := 60) d_X2_reasonOfSlot_89 (by decide) ?_
          refine R_callV (pc := 91) (As := [.int 8, .int 60]) (rest := []) (c_X2_refuse (g := g) v0 8 60 M10 _ h) rfl rfl cal_RX2_48 ins_X2_refuse sel_X2_refuse (cls_at k1 clsOK2) (by decide) (by decide) rfl rfl (Nat.le_of_ble_eq_true rfl) d_X2_reasonOfSlot_91 (k_I (fun y13 M12 h => ?_)) (fun _ _ h9 => False.elim h9)
          try dsimp only at h
          exact R_retv (pc := 94) d_X2_reasonOfSlot_94 h
    · rw [if_neg c] at h
      refine R_aload_n (pc := 42) d_X2_reasonOfSlot_42 rfl rfl ?_
      refine R_iconst (pc := 43) (v := 5) d_X2_reasonOfSlot_43 (by decide) ?_
      refine R_iload (pc := 44) d_X2_reasonOfSlot_44 rfl ?_
      refine R_iload (pc := 46) d_X2_reasonOfSlot_46 rfl ?_
      refine R_ineg (pc := 48) d_X2_reasonOfSlot_48 ?_
      refine R_iand (pc := 49) d_X2_reasonOfSlot_49 ?_
      refine R_iconst (pc := 50) (v := 1) d_X2_reasonOfSlot_50 (by decide) ?_
      refine R_isub (pc := 51) d_X2_reasonOfSlot_51 ?_
      refine R_callS (pc := 52) (As := [.int ((x5 &&& (-x5)) - 1)]) (rest := [.int 5, .ref (g.1 + v0)]) (c_J6_bitCount_0f7a4 (g := g) ((x5 &&& (-x5)) - 1) M2 _ h) rfl rfl cal_RX2_84 sta_J6_bitCount_0f7a4 (by decide) (by decide) rfl rfl (Nat.le_of_ble_eq_true rfl) d_X2_reasonOfSlot_52 (k_I (fun y15 M14 h => ?_)) (fun _ _ h9 => False.elim h9)
      try dsimp only at h
      refine R_callV (pc := 55) (As := [.int 5, .int y15]) (rest := []) (c_X2_refuse (g := g) v0 5 y15 M14 _ h) rfl rfl cal_RX2_48 ins_X2_refuse sel_X2_refuse (cls_at k1 clsOK2) (by decide) (by decide) rfl rfl (Nat.le_of_ble_eq_true rfl) d_X2_reasonOfSlot_55 (k_I (fun y17 M16 h => ?_)) (fun _ _ h9 => False.elim h9)
      try dsimp only at h
      exact R_retv (pc := 58) d_X2_reasonOfSlot_58 h
  · rw [if_neg c] at h
    refine R_aload_n (pc := 17) d_X2_reasonOfSlot_17 rfl rfl ?_
    refine R_iconst (pc := 18) (v := 4) d_X2_reasonOfSlot_18 (by decide) ?_
    refine R_aload_n (pc := 19) d_X2_reasonOfSlot_19 rfl rfl ?_
    refine R_getR (pc := 20) fld_RX2_15 rfl rfl k1 d_X2_reasonOfSlot_20 ?_
    refine R_iload_n (pc := 23) d_X2_reasonOfSlot_23 rfl rfl ?_
    refine R_iald (pc := 24) k3 k4 d_X2_reasonOfSlot_24 ?_
    refine R_callV (pc := 25) (As := [.int 4, .int (M2.1 (rf v0 1) (Int32.toNatClampNeg v1))]) (rest := []) (c_X2_refuse (g := g) v0 4 (M2.1 (rf v0 1) (Int32.toNatClampNeg v1)) M2 _ h) rfl rfl cal_RX2_48 ins_X2_refuse sel_X2_refuse (cls_at k1 clsOK2) (by decide) (by decide) rfl rfl (Nat.le_of_ble_eq_true rfl) d_X2_reasonOfSlot_25 (k_I (fun y19 M18 h => ?_)) (fun _ _ h9 => False.elim h9)
    try dsimp only at h
    exact R_retv (pc := 28) d_X2_reasonOfSlot_28 h
/-! X2_firstMoment -/
theorem d_X2_firstMoment_0 : decode mX2_firstMoment.2.1 0 = .ok (.iload_n 3, 1) := by decide +kernel
theorem d_X2_firstMoment_1 : decode mX2_firstMoment.2.1 1 = .ok (.istore 5, 2) := by decide +kernel
theorem d_X2_firstMoment_3 : decode mX2_firstMoment.2.1 3 = .ok (.iload 5, 2) := by decide +kernel
theorem d_X2_firstMoment_5 : decode mX2_firstMoment.2.1 5 = .ok (.iload 4, 2) := by decide +kernel
theorem d_X2_firstMoment_7 : decode mX2_firstMoment.2.1 7 = .ok (.if_icmp .gt 59, 3) := by decide +kernel
theorem d_X2_firstMoment_10 : decode mX2_firstMoment.2.1 10 = .ok (.aload_n 0, 1) := by decide +kernel
theorem d_X2_firstMoment_11 : decode mX2_firstMoment.2.1 11 = .ok (.iload_n 1, 1) := by decide +kernel
theorem d_X2_firstMoment_12 : decode mX2_firstMoment.2.1 12 = .ok (.iload_n 2, 1) := by decide +kernel
theorem d_X2_firstMoment_13 : decode mX2_firstMoment.2.1 13 = .ok (.iload 5, 2) := by decide +kernel
theorem d_X2_firstMoment_15 : decode mX2_firstMoment.2.1 15 = .ok (.invokevirtual 35, 3) := by decide +kernel
theorem d_X2_firstMoment_18 : decode mX2_firstMoment.2.1 18 = .ok (.ifCond .eq 6, 3) := by decide +kernel
theorem d_X2_firstMoment_21 : decode mX2_firstMoment.2.1 21 = .ok (.goto 39, 3) := by decide +kernel
theorem d_X2_firstMoment_24 : decode mX2_firstMoment.2.1 24 = .ok (.iconst 0, 1) := by decide +kernel
theorem d_X2_firstMoment_25 : decode mX2_firstMoment.2.1 25 = .ok (.istore 6, 2) := by decide +kernel
theorem d_X2_firstMoment_27 : decode mX2_firstMoment.2.1 27 = .ok (.iload 6, 2) := by decide +kernel
theorem d_X2_firstMoment_29 : decode mX2_firstMoment.2.1 29 = .ok (.iconst 4, 1) := by decide +kernel
theorem d_X2_firstMoment_30 : decode mX2_firstMoment.2.1 30 = .ok (.if_icmp .ge 30, 3) := by decide +kernel
theorem d_X2_firstMoment_33 : decode mX2_firstMoment.2.1 33 = .ok (.aload_n 0, 1) := by decide +kernel
theorem d_X2_firstMoment_34 : decode mX2_firstMoment.2.1 34 = .ok (.iload_n 1, 1) := by decide +kernel
theorem d_X2_firstMoment_35 : decode mX2_firstMoment.2.1 35 = .ok (.iload_n 2, 1) := by decide +kernel
theorem d_X2_firstMoment_36 : decode mX2_firstMoment.2.1 36 = .ok (.iload 5, 2) := by decide +kernel
theorem d_X2_firstMoment_38 : decode mX2_firstMoment.2.1 38 = .ok (.iload 6, 2) := by decide +kernel
theorem d_X2_firstMoment_40 : decode mX2_firstMoment.2.1 40 = .ok (.invokevirtual 39, 3) := by decide +kernel
theorem d_X2_firstMoment_43 : decode mX2_firstMoment.2.1 43 = .ok (.ifCond .ne 11, 3) := by decide +kernel
theorem d_X2_firstMoment_46 : decode mX2_firstMoment.2.1 46 = .ok (.iload 5, 2) := by decide +kernel
theorem d_X2_firstMoment_48 : decode mX2_firstMoment.2.1 48 = .ok (.iconst 4, 1) := by decide +kernel
theorem d_X2_firstMoment_49 : decode mX2_firstMoment.2.1 49 = .ok (.imul, 1) := by decide +kernel
theorem d_X2_firstMoment_50 : decode mX2_firstMoment.2.1 50 = .ok (.iload 6, 2) := by decide +kernel
theorem d_X2_firstMoment_52 : decode mX2_firstMoment.2.1 52 = .ok (.iadd, 1) := by decide +kernel
theorem d_X2_firstMoment_53 : decode mX2_firstMoment.2.1 53 = .ok (.ireturn, 1) := by decide +kernel
theorem d_X2_firstMoment_54 : decode mX2_firstMoment.2.1 54 = .ok (.iinc 6 1, 3) := by decide +kernel
theorem d_X2_firstMoment_57 : decode mX2_firstMoment.2.1 57 = .ok (.goto (-30), 3) := by decide +kernel
theorem d_X2_firstMoment_60 : decode mX2_firstMoment.2.1 60 = .ok (.iinc 5 1, 3) := by decide +kernel
theorem d_X2_firstMoment_63 : decode mX2_firstMoment.2.1 63 = .ok (.goto (-60), 3) := by decide +kernel
theorem d_X2_firstMoment_66 : decode mX2_firstMoment.2.1 66 = .ok (.iconst (-1), 1) := by decide +kernel
theorem d_X2_firstMoment_67 : decode mX2_firstMoment.2.1 67 = .ok (.ireturn, 1) := by decide +kernel
def T_X2_firstMoment_60 (κ3 : Nat → Int32 → Int32 → Int32 → Int32 → Mem → Prop) (Q : Int32 → Mem → Prop) (v0 : Nat) (v1 : Int32) (v2 : Int32) (v4 : Int32) (v5 : Int32) (M : Mem) : Prop := ∀ x1 : Int32, x1 = v5 + 1 → κ3 v0 v1 v2 v4 x1 M
set_option maxRecDepth 100000 in
set_option maxHeartbeats 4000000 in
theorem B_X2_firstMoment_60 {g : GG} (Q : Int32 → Mem → Prop) (κ3 : Nat → Int32 → Int32 → Int32 → Int32 → Mem → Prop) (hκ3 : ∀ (v0 : Nat) (v1 : Int32) (v2 : Int32) (v4 : Int32) (v5 : Int32) (M : Mem), κ3 v0 v1 v2 v4 v5 M → WP g 13 mX2_firstMoment 3 [some (.ref (g.1 + v0)), some (.int v1), some (.int v2), none, some (.int v4), some (.int v5), none] [] M 0 (oI Q noX)) (v0 : Nat) (v1 : Int32) (v2 : Int32) (v4 : Int32) (v5 : Int32) (M : Mem) (h : T_X2_firstMoment_60 κ3 Q v0 v1 v2 v4 v5 M) : WP g 13 mX2_firstMoment 60 [some (.ref (g.1 + v0)), some (.int v1), some (.int v2), none, some (.int v4), some (.int v5), none] [] M 0 (oI Q noX) := by
  unfold T_X2_firstMoment_60 at h
  obtain ⟨x1, ex1⟩ : ∃ z : Int32, z = v5 + 1 := ⟨_, rfl⟩
  have h := h x1 ex1
  refine R_iinc (pc := 60) (v := x1) (L' := [some (.ref (g.1 + v0)), some (.int v1), some (.int v2), none, some (.int v4), some (.int x1), none]) d_X2_firstMoment_60 rfl (by rw [ex1]; rfl) (by decide) rfl ?_
  refine R_goto (pc := 63) (tgt := 3) d_X2_firstMoment_63 (by decide) ?_
  exact WP_sub (hκ3 v0 v1 v2 v4 x1 M h) (by decide) (ls_s (ls_s (ls_s (ls_n (ls_s (ls_s (ls_n ls_0)))))))
def T_X2_firstMoment_27 (κ3 : Nat → Int32 → Int32 → Int32 → Int32 → Mem → Prop) (Q : Int32 → Mem → Prop) : Nat → Nat → Int32 → Int32 → Int32 → Int32 → Int32 → Mem → Prop
  | 0, _, _, _, _, _, _, _ => False
  | n + 1, v0, v1, v2, v4, v5, v6, M => if (4 : Int32) ≤ v6 then (T_X2_firstMoment_60 κ3 Q v0 v1 v2 v4 v5 M) else ((kd v0 = 2) ∧ T_X2_reasonOfSlot (fun y3 M2 => if y3 = 0 then (Q ((v5 * 4) + v6) M2) else (∀ x4 : Int32, x4 = v6 + 1 → (T_X2_firstMoment_27 κ3 Q n) v0 v1 v2 v4 v5 x4 M2))  v0 v1 v2 v5 v6 M)
set_option maxRecDepth 100000 in
set_option maxHeartbeats 4000000 in
theorem B_X2_firstMoment_27 {g : GG} (Q : Int32 → Mem → Prop) (κ3 : Nat → Int32 → Int32 → Int32 → Int32 → Mem → Prop) (hκ3 : ∀ (v0 : Nat) (v1 : Int32) (v2 : Int32) (v4 : Int32) (v5 : Int32) (M : Mem), κ3 v0 v1 v2 v4 v5 M → WP g 13 mX2_firstMoment 3 [some (.ref (g.1 + v0)), some (.int v1), some (.int v2), none, some (.int v4), some (.int v5), none] [] M 0 (oI Q noX)) : ∀ (n : Nat) (v0 : Nat) (v1 : Int32) (v2 : Int32) (v4 : Int32) (v5 : Int32) (v6 : Int32) (M : Mem), T_X2_firstMoment_27 κ3 Q n v0 v1 v2 v4 v5 v6 M → WP g 13 mX2_firstMoment 27 [some (.ref (g.1 + v0)), some (.int v1), some (.int v2), none, some (.int v4), some (.int v5), some (.int v6)] [] M 0 (oI Q noX) := by
  intro n
  induction n with
  | zero => intro v0 v1 v2 v4 v5 v6 M h; exact h.elim
  | succ n hκ27 =>
    intro v0 v1 v2 v4 v5 v6 M h
    unfold T_X2_firstMoment_27 at h
    refine R_iload (pc := 27) d_X2_firstMoment_27 rfl ?_
    refine R_iconst (pc := 29) (v := 4) d_X2_firstMoment_29 (by decide) ?_
    refine R_icmp_ge (pc := 30) (tgt := 60) d_X2_firstMoment_30 (by decide) (fun c => ?_) (fun c => ?_)
    · rw [if_pos c] at h
      exact WP_sub (B_X2_firstMoment_60 Q κ3 hκ3 v0 v1 v2 v4 v5 M h) (by decide) (ls_s (ls_s (ls_s (ls_n (ls_s (ls_s (ls_n ls_0)))))))
    · rw [if_neg c] at h
      refine R_aload_n (pc := 33) d_X2_firstMoment_33 rfl rfl ?_
      refine R_iload_n (pc := 34) d_X2_firstMoment_34 rfl rfl ?_
      refine R_iload_n (pc := 35) d_X2_firstMoment_35 rfl rfl ?_
      refine R_iload (pc := 36) d_X2_firstMoment_36 rfl ?_
      refine R_iload (pc := 38) d_X2_firstMoment_38 rfl ?_
      obtain ⟨k1, h⟩ := h
      refine R_callV (pc := 40) (As := [.int v1, .int v2, .int v5, .int v6]) (rest := []) (c_X2_reasonOfSlot (g := g) v0 v1 v2 v5 v6 M _ h) rfl rfl cal_RX2_39 ins_X2_reasonOfSlot sel_X2_reasonOfSlot (cls_at k1 clsOK2) (by decide) (by decide) rfl rfl (Nat.le_of_ble_eq_true rfl) d_X2_firstMoment_40 (k_I (fun y3 M2 h => ?_)) (fun _ _ h9 => False.elim h9)
      try dsimp only at h
      refine R_if_ne (pc := 43) (tgt := 54) d_X2_firstMoment_43 (by decide) (fun c => ?_) (fun c => ?_)
      · rw [if_neg c] at h
        obtain ⟨x4, ex4⟩ : ∃ z : Int32, z = v6 + 1 := ⟨_, rfl⟩
        have h := h x4 ex4
        refine R_iinc (pc := 54) (v := x4) (L' := [some (.ref (g.1 + v0)), some (.int v1), some (.int v2), none, some (.int v4), some (.int v5), some (.int x4)]) d_X2_firstMoment_54 rfl (by rw [ex4]; rfl) (by decide) rfl ?_
        refine R_goto (pc := 57) (tgt := 27) d_X2_firstMoment_57 (by decide) ?_
        exact WP_sub (hκ27 v0 v1 v2 v4 v5 x4 M2 h) (by decide) (ls_s (ls_s (ls_s (ls_n (ls_s (ls_s (ls_s ls_0)))))))
      · rw [if_pos c] at h
        refine R_iload (pc := 46) d_X2_firstMoment_46 rfl ?_
        refine R_iconst (pc := 48) (v := 4) d_X2_firstMoment_48 (by decide) ?_
        refine R_imul (pc := 49) d_X2_firstMoment_49 ?_
        refine R_iload (pc := 50) d_X2_firstMoment_50 rfl ?_
        refine R_iadd (pc := 52) d_X2_firstMoment_52 ?_
        exact R_retv (pc := 53) d_X2_firstMoment_53 h
def T_X2_firstMoment_3 (Q : Int32 → Mem → Prop) : Nat → Nat → Int32 → Int32 → Int32 → Int32 → Mem → Prop
  | 0, _, _, _, _, _, _ => False
  | n + 1, v0, v1, v2, v4, v5, M => if v4 < v5 then (Q (-1) M) else ((kd v0 = 2) ∧ T_X2_reasonOfDay (fun y3 M2 => if y3 = 0 then ((∃ N : Nat, T_X2_firstMoment_27 (T_X2_firstMoment_3 Q n) Q N v0 v1 v2 v4 v5 0 M2)) else (T_X2_firstMoment_60 (T_X2_firstMoment_3 Q n) Q v0 v1 v2 v4 v5 M2))  v0 v1 v2 v5 M)
set_option maxRecDepth 100000 in
set_option maxHeartbeats 4000000 in
theorem B_X2_firstMoment_3 {g : GG} (Q : Int32 → Mem → Prop) : ∀ (n : Nat) (v0 : Nat) (v1 : Int32) (v2 : Int32) (v4 : Int32) (v5 : Int32) (M : Mem), T_X2_firstMoment_3 Q n v0 v1 v2 v4 v5 M → WP g 13 mX2_firstMoment 3 [some (.ref (g.1 + v0)), some (.int v1), some (.int v2), none, some (.int v4), some (.int v5), none] [] M 0 (oI Q noX) := by
  intro n
  induction n with
  | zero => intro v0 v1 v2 v4 v5 M h; exact h.elim
  | succ n hκ3 =>
    intro v0 v1 v2 v4 v5 M h
    unfold T_X2_firstMoment_3 at h
    refine R_iload (pc := 3) d_X2_firstMoment_3 rfl ?_
    refine R_iload (pc := 5) d_X2_firstMoment_5 rfl ?_
    refine R_icmp_gt (pc := 7) (tgt := 66) d_X2_firstMoment_7 (by decide) (fun c => ?_) (fun c => ?_)
    · rw [if_pos c] at h
      refine R_iconst (pc := 66) (v := (-1)) d_X2_firstMoment_66 (by decide) ?_
      exact R_retv (pc := 67) d_X2_firstMoment_67 h
    · rw [if_neg c] at h
      refine R_aload_n (pc := 10) d_X2_firstMoment_10 rfl rfl ?_
      refine R_iload_n (pc := 11) d_X2_firstMoment_11 rfl rfl ?_
      refine R_iload_n (pc := 12) d_X2_firstMoment_12 rfl rfl ?_
      refine R_iload (pc := 13) d_X2_firstMoment_13 rfl ?_
      obtain ⟨k1, h⟩ := h
      refine R_callV (pc := 15) (As := [.int v1, .int v2, .int v5]) (rest := []) (c_X2_reasonOfDay (g := g) v0 v1 v2 v5 M _ h) rfl rfl cal_RX2_35 ins_X2_reasonOfDay sel_X2_reasonOfDay (cls_at k1 clsOK2) (by decide) (by decide) rfl rfl (Nat.le_of_ble_eq_true rfl) d_X2_firstMoment_15 (k_I (fun y3 M2 h => ?_)) (fun _ _ h9 => False.elim h9)
      try dsimp only at h
      refine R_if_eq (pc := 18) (tgt := 24) d_X2_firstMoment_18 (by decide) (fun c => ?_) (fun c => ?_)
      · rw [if_pos c] at h
        refine R_iconst (pc := 24) (v := 0) d_X2_firstMoment_24 (by decide) ?_
        refine R_istore (pc := 25) (L' := [some (.ref (g.1 + v0)), some (.int v1), some (.int v2), none, some (.int v4), some (.int v5), some (.int 0)]) d_X2_firstMoment_25 (by decide) rfl ?_
        obtain ⟨N, h⟩ := h
        exact WP_sub (B_X2_firstMoment_27 Q (T_X2_firstMoment_3 Q n) hκ3 N v0 v1 v2 v4 v5 0 M2 h) (by decide) (ls_s (ls_s (ls_s (ls_n (ls_s (ls_s (ls_s ls_0)))))))
      · rw [if_neg c] at h
        refine R_goto (pc := 21) (tgt := 60) d_X2_firstMoment_21 (by decide) ?_
        exact WP_sub (B_X2_firstMoment_60 Q (T_X2_firstMoment_3 Q n) hκ3 v0 v1 v2 v4 v5 M2 h) (by decide) (ls_s (ls_s (ls_s (ls_n (ls_s (ls_s (ls_n ls_0)))))))
def T_X2_firstMoment (Q : Int32 → Mem → Prop) (v0 : Nat) (v1 : Int32) (v2 : Int32) (v3 : Int32) (v4 : Int32) (M : Mem) : Prop := (∃ N : Nat, T_X2_firstMoment_3 Q N v0 v1 v2 v4 v3 M)
set_option maxRecDepth 100000 in
set_option maxHeartbeats 4000000 in
theorem c_X2_firstMoment {g : GG} (v0 : Nat) (v1 : Int32) (v2 : Int32) (v3 : Int32) (v4 : Int32) (M : Mem) (Q : Int32 → Mem → Prop) (h : T_X2_firstMoment Q v0 v1 v2 v3 v4 M) : CT g 13 mX2_firstMoment [.ref (g.1 + v0), .int v1, .int v2, .int v3, .int v4] M 0 (oI Q noX) := by
  refine CT_of (L := [some (.ref (g.1 + v0)), some (.int v1), some (.int v2), some (.int v3), some (.int v4), none, none]) (by decide) rfl (Nat.le_of_ble_eq_true rfl) (ro_I rfl) rfl ?_
  unfold T_X2_firstMoment at h
  refine R_iload_n (pc := 0) d_X2_firstMoment_0 rfl rfl ?_
  refine R_istore (pc := 1) (L' := [some (.ref (g.1 + v0)), some (.int v1), some (.int v2), some (.int v3), some (.int v4), some (.int v3), none]) d_X2_firstMoment_1 (by decide) rfl ?_
  obtain ⟨N, h⟩ := h
  exact WP_sub (B_X2_firstMoment_3 Q N v0 v1 v2 v4 v3 M h) (by decide) (ls_s (ls_s (ls_s (ls_n (ls_s (ls_s (ls_n ls_0)))))))
/-! X4_removeRow -/
theorem d_X4_removeRow_0 : decode mX4_removeRow.2.1 0 = .ok (.iload_n 1, 1) := by decide +kernel
theorem d_X4_removeRow_1 : decode mX4_removeRow.2.1 1 = .ok (.ifCond .lt 11, 3) := by decide +kernel
theorem d_X4_removeRow_4 : decode mX4_removeRow.2.1 4 = .ok (.iload_n 1, 1) := by decide +kernel
theorem d_X4_removeRow_5 : decode mX4_removeRow.2.1 5 = .ok (.aload_n 0, 1) := by decide +kernel
theorem d_X4_removeRow_6 : decode mX4_removeRow.2.1 6 = .ok (.getfield 18, 3) := by decide +kernel
theorem d_X4_removeRow_9 : decode mX4_removeRow.2.1 9 = .ok (.if_icmp .lt 4, 3) := by decide +kernel
theorem d_X4_removeRow_12 : decode mX4_removeRow.2.1 12 = .ok (.return_, 1) := by decide +kernel
theorem d_X4_removeRow_13 : decode mX4_removeRow.2.1 13 = .ok (.iload_n 1, 1) := by decide +kernel
theorem d_X4_removeRow_14 : decode mX4_removeRow.2.1 14 = .ok (.iconst 1, 1) := by decide +kernel
theorem d_X4_removeRow_15 : decode mX4_removeRow.2.1 15 = .ok (.iadd, 1) := by decide +kernel
theorem d_X4_removeRow_16 : decode mX4_removeRow.2.1 16 = .ok (.istore_n 2, 1) := by decide +kernel
theorem d_X4_removeRow_17 : decode mX4_removeRow.2.1 17 = .ok (.iload_n 2, 1) := by decide +kernel
theorem d_X4_removeRow_18 : decode mX4_removeRow.2.1 18 = .ok (.aload_n 0, 1) := by decide +kernel
theorem d_X4_removeRow_19 : decode mX4_removeRow.2.1 19 = .ok (.getfield 18, 3) := by decide +kernel
theorem d_X4_removeRow_22 : decode mX4_removeRow.2.1 22 = .ok (.if_icmp .ge 32, 3) := by decide +kernel
theorem d_X4_removeRow_25 : decode mX4_removeRow.2.1 25 = .ok (.aload_n 0, 1) := by decide +kernel
theorem d_X4_removeRow_26 : decode mX4_removeRow.2.1 26 = .ok (.getfield 9, 3) := by decide +kernel
theorem d_X4_removeRow_29 : decode mX4_removeRow.2.1 29 = .ok (.iload_n 2, 1) := by decide +kernel
theorem d_X4_removeRow_30 : decode mX4_removeRow.2.1 30 = .ok (.aaload, 1) := by decide +kernel
theorem d_X4_removeRow_31 : decode mX4_removeRow.2.1 31 = .ok (.iconst 0, 1) := by decide +kernel
theorem d_X4_removeRow_32 : decode mX4_removeRow.2.1 32 = .ok (.aload_n 0, 1) := by decide +kernel
theorem d_X4_removeRow_33 : decode mX4_removeRow.2.1 33 = .ok (.getfield 9, 3) := by decide +kernel
theorem d_X4_removeRow_36 : decode mX4_removeRow.2.1 36 = .ok (.iload_n 2, 1) := by decide +kernel
theorem d_X4_removeRow_37 : decode mX4_removeRow.2.1 37 = .ok (.iconst 1, 1) := by decide +kernel
theorem d_X4_removeRow_38 : decode mX4_removeRow.2.1 38 = .ok (.isub, 1) := by decide +kernel
theorem d_X4_removeRow_39 : decode mX4_removeRow.2.1 39 = .ok (.aaload, 1) := by decide +kernel
theorem d_X4_removeRow_40 : decode mX4_removeRow.2.1 40 = .ok (.iconst 0, 1) := by decide +kernel
theorem d_X4_removeRow_41 : decode mX4_removeRow.2.1 41 = .ok (.aload_n 0, 1) := by decide +kernel
theorem d_X4_removeRow_42 : decode mX4_removeRow.2.1 42 = .ok (.getfield 14, 3) := by decide +kernel
theorem d_X4_removeRow_45 : decode mX4_removeRow.2.1 45 = .ok (.invokestatic 21, 3) := by decide +kernel
theorem d_X4_removeRow_48 : decode mX4_removeRow.2.1 48 = .ok (.iinc 2 1, 3) := by decide +kernel
theorem d_X4_removeRow_51 : decode mX4_removeRow.2.1 51 = .ok (.goto (-34), 3) := by decide +kernel
theorem d_X4_removeRow_54 : decode mX4_removeRow.2.1 54 = .ok (.aload_n 0, 1) := by decide +kernel
theorem d_X4_removeRow_55 : decode mX4_removeRow.2.1 55 = .ok (.dup, 1) := by decide +kernel
theorem d_X4_removeRow_56 : decode mX4_removeRow.2.1 56 = .ok (.getfield 18, 3) := by decide +kernel
theorem d_X4_removeRow_59 : decode mX4_removeRow.2.1 59 = .ok (.iconst 1, 1) := by decide +kernel
theorem d_X4_removeRow_60 : decode mX4_removeRow.2.1 60 = .ok (.isub, 1) := by decide +kernel
theorem d_X4_removeRow_61 : decode mX4_removeRow.2.1 61 = .ok (.putfield 18, 3) := by decide +kernel
theorem d_X4_removeRow_64 : decode mX4_removeRow.2.1 64 = .ok (.return_, 1) := by decide +kernel
def T_X4_removeRow_17 (Q : Mem → Prop) : Nat → Nat → Int32 → Mem → Prop
  | 0, _, _, _ => False
  | n + 1, v0, v2, M => (kd v0 = 4) ∧ if (M.1 v0 2) ≤ v2 then (∀ M2 : Mem, M2 = mset M v0 2 ((M.1 v0 2) - 1) → Q M2) else ((kd (rf v0 0) = 10 ∨ kd (rf v0 0) = 11) ∧ (vp_in v2 (ln (rf v0 0))) ∧ (vp_in (v2 - 1) (ln (rf v0 0))) ∧ (kd (rf (rf v0 0) (Int32.toNatClampNeg v2)) = 9) ∧ (kd (rf (rf v0 0) (Int32.toNatClampNeg (v2 - 1))) = 9) ∧ (¬ (0 : Int32) < 0) ∧ (¬ (M.1 v0 1) < 0) ∧ ((Int32.toNatClampNeg 0) + (Int32.toNatClampNeg (M.1 v0 1)) ≤ ln (rf (rf v0 0) (Int32.toNatClampNeg v2))) ∧ ((Int32.toNatClampNeg 0) + (Int32.toNatClampNeg (M.1 v0 1)) ≤ ln (rf (rf v0 0) (Int32.toNatClampNeg (v2 - 1)))) ∧ ∀ M12 : Mem, M12 = mcpy M (rf (rf v0 0) (Int32.toNatClampNeg v2)) (rf (rf v0 0) (Int32.toNatClampNeg (v2 - 1))) (Int32.toNatClampNeg 0) (Int32.toNatClampNeg 0) (Int32.toNatClampNeg (M.1 v0 1)) → ∀ x13 : Int32, x13 = v2 + 1 → (T_X4_removeRow_17 Q n) v0 x13 M12)
set_option maxRecDepth 100000 in
set_option maxHeartbeats 4000000 in
theorem B_X4_removeRow_17 {g : GG} (Q : Mem → Prop) : ∀ (n : Nat) (v0 : Nat) (v2 : Int32) (M : Mem), T_X4_removeRow_17 Q n v0 v2 M → WP g 9 mX4_removeRow 17 [some (.ref (g.1 + v0)), none, some (.int v2)] [] M 0 (oV Q noX) := by
  intro n
  induction n with
  | zero => intro v0 v2 M h; exact h.elim
  | succ n hκ17 =>
    intro v0 v2 M h
    unfold T_X4_removeRow_17 at h
    refine R_iload_n (pc := 17) d_X4_removeRow_17 rfl rfl ?_
    refine R_aload_n (pc := 18) d_X4_removeRow_18 rfl rfl ?_
    obtain ⟨k1, h⟩ := h
    refine R_getI (pc := 19) fld_RX4_18 rfl rfl k1 d_X4_removeRow_19 ?_
    refine R_icmp_ge (pc := 22) (tgt := 54) d_X4_removeRow_22 (by decide) (fun c => ?_) (fun c => ?_)
    · rw [if_pos c] at h
      refine R_aload_n (pc := 54) d_X4_removeRow_54 rfl rfl ?_
      refine R_dup (pc := 55) d_X4_removeRow_55 rfl ?_
      refine R_getI (pc := 56) fld_RX4_18 rfl rfl k1 d_X4_removeRow_56 ?_
      refine R_iconst (pc := 59) (v := 1) d_X4_removeRow_59 (by decide) ?_
      refine R_isub (pc := 60) d_X4_removeRow_60 ?_
      refine R_putI (pc := 61) fld_RX4_18 rfl rfl rfl k1 rfl rfl d_X4_removeRow_61 (N_M (fun M2 eM2 => ?_))
      have h := h M2 eM2
      exact R_ret (pc := 64) d_X4_removeRow_64 h
    · rw [if_neg c] at h
      refine R_aload_n (pc := 25) d_X4_removeRow_25 rfl rfl ?_
      refine R_getR (pc := 26) fld_RX4_9 rfl rfl k1 d_X4_removeRow_26 ?_
      refine R_iload_n (pc := 29) d_X4_removeRow_29 rfl rfl ?_
      obtain ⟨k3, h⟩ := h
      obtain ⟨k4, h⟩ := h
      refine R_aald (pc := 30) k3 k4 d_X4_removeRow_30 ?_
      refine R_iconst (pc := 31) (v := 0) d_X4_removeRow_31 (by decide) ?_
      refine R_aload_n (pc := 32) d_X4_removeRow_32 rfl rfl ?_
      refine R_getR (pc := 33) fld_RX4_9 rfl rfl k1 d_X4_removeRow_33 ?_
      refine R_iload_n (pc := 36) d_X4_removeRow_36 rfl rfl ?_
      refine R_iconst (pc := 37) (v := 1) d_X4_removeRow_37 (by decide) ?_
      refine R_isub (pc := 38) d_X4_removeRow_38 ?_
      obtain ⟨k5, h⟩ := h
      refine R_aald (pc := 39) k3 k5 d_X4_removeRow_39 ?_
      refine R_iconst (pc := 40) (v := 0) d_X4_removeRow_40 (by decide) ?_
      refine R_aload_n (pc := 41) d_X4_removeRow_41 rfl rfl ?_
      refine R_getI (pc := 42) fld_RX4_14 rfl rfl k1 d_X4_removeRow_42 ?_
      obtain ⟨k6, h⟩ := h
      obtain ⟨k7, h⟩ := h
      obtain ⟨k8, h⟩ := h
      obtain ⟨k9, h⟩ := h
      obtain ⟨k10, h⟩ := h
      obtain ⟨k11, h⟩ := h
      refine R_copy (pc := 45) rfl ac_RX4_21 k6 k7 k8 k8 k9 k10 k11 (Nat.le_of_ble_eq_true rfl) (by decide) d_X4_removeRow_45 (N_M (fun M12 eM12 => ?_))
      have h := h M12 eM12
      obtain ⟨x13, ex13⟩ : ∃ z : Int32, z = v2 + 1 := ⟨_, rfl⟩
      have h := h x13 ex13
      refine R_iinc (pc := 48) (v := x13) (L' := [some (.ref (g.1 + v0)), none, some (.int x13)]) d_X4_removeRow_48 rfl (by rw [ex13]; rfl) (by decide) rfl ?_
      refine R_goto (pc := 51) (tgt := 17) d_X4_removeRow_51 (by decide) ?_
      exact WP_sub (hκ17 v0 x13 M12 h) (by decide) (ls_s (ls_n (ls_s ls_0)))
def T_X4_removeRow_12 (Q : Mem → Prop) (M : Mem) : Prop := Q M
set_option maxRecDepth 100000 in
set_option maxHeartbeats 4000000 in
theorem B_X4_removeRow_12 {g : GG} (Q : Mem → Prop) (M : Mem) (h : T_X4_removeRow_12 Q  M) : WP g 9 mX4_removeRow 12 [none, none, none] [] M 0 (oV Q noX) := by
  unfold T_X4_removeRow_12 at h
  exact R_ret (pc := 12) d_X4_removeRow_12 h
def T_X4_removeRow (Q : Mem → Prop) (v0 : Nat) (v1 : Int32) (M : Mem) : Prop := if v1 < 0 then (T_X4_removeRow_12 Q M) else ((kd v0 = 4) ∧ if v1 < (M.1 v0 2) then (∀ x2 : Int32, x2 = v1 + 1 → (∃ N : Nat, T_X4_removeRow_17 Q N v0 x2 M)) else (T_X4_removeRow_12 Q M))
set_option maxRecDepth 100000 in
set_option maxHeartbeats 4000000 in
theorem c_X4_removeRow {g : GG} (v0 : Nat) (v1 : Int32) (M : Mem) (Q : Mem → Prop) (h : T_X4_removeRow Q v0 v1 M) : CT g 9 mX4_removeRow [.ref (g.1 + v0), .int v1] M 0 (oV Q noX) := by
  refine CT_of (L := [some (.ref (g.1 + v0)), some (.int v1), none]) (by decide) rfl (Nat.le_of_ble_eq_true rfl) (ro_V rfl) rfl ?_
  unfold T_X4_removeRow at h
  refine R_iload_n (pc := 0) d_X4_removeRow_0 rfl rfl ?_
  refine R_if_lt (pc := 1) (tgt := 12) d_X4_removeRow_1 (by decide) (fun c => ?_) (fun c => ?_)
  · rw [if_pos c] at h
    exact WP_sub (B_X4_removeRow_12 Q M h) (by decide) (ls_n (ls_n (ls_n ls_0)))
  · rw [if_neg c] at h
    refine R_iload_n (pc := 4) d_X4_removeRow_4 rfl rfl ?_
    refine R_aload_n (pc := 5) d_X4_removeRow_5 rfl rfl ?_
    obtain ⟨k1, h⟩ := h
    refine R_getI (pc := 6) fld_RX4_18 rfl rfl k1 d_X4_removeRow_6 ?_
    refine R_icmp_lt (pc := 9) (tgt := 13) d_X4_removeRow_9 (by decide) (fun c => ?_) (fun c => ?_)
    · rw [if_pos c] at h
      refine R_iload_n (pc := 13) d_X4_removeRow_13 rfl rfl ?_
      refine R_iconst (pc := 14) (v := 1) d_X4_removeRow_14 (by decide) ?_
      refine R_iadd (pc := 15) d_X4_removeRow_15 ?_
      refine N_i (fun x2 ex2 => ?_)
      have h := h x2 ex2
      refine R_istore_n (pc := 16) (L' := [some (.ref (g.1 + v0)), some (.int v1), some (.int x2)]) d_X4_removeRow_16 rfl (by decide) rfl ?_
      obtain ⟨N, h⟩ := h
      exact WP_sub (B_X4_removeRow_17 Q N v0 x2 M h) (by decide) (ls_s (ls_n (ls_s ls_0)))
    · rw [if_neg c] at h
      exact WP_sub (B_X4_removeRow_12 Q M h) (by decide) (ls_n (ls_n (ls_n ls_0)))
/-! X3_addNotice -/
theorem d_X3_addNotice_0 : decode mX3_addNotice.2.1 0 = .ok (.aload_n 0, 1) := by decide +kernel
theorem d_X3_addNotice_1 : decode mX3_addNotice.2.1 1 = .ok (.getfield 43, 3) := by decide +kernel
theorem d_X3_addNotice_4 : decode mX3_addNotice.2.1 4 = .ok (.invokevirtual 56, 3) := by decide +kernel
theorem d_X3_addNotice_7 : decode mX3_addNotice.2.1 7 = .ok (.ifCond .eq 11, 3) := by decide +kernel
theorem d_X3_addNotice_10 : decode mX3_addNotice.2.1 10 = .ok (.aload_n 0, 1) := by decide +kernel
theorem d_X3_addNotice_11 : decode mX3_addNotice.2.1 11 = .ok (.getfield 43, 3) := by decide +kernel
theorem d_X3_addNotice_14 : decode mX3_addNotice.2.1 14 = .ok (.iconst 0, 1) := by decide +kernel
theorem d_X3_addNotice_15 : decode mX3_addNotice.2.1 15 = .ok (.invokevirtual 60, 3) := by decide +kernel
theorem d_X3_addNotice_18 : decode mX3_addNotice.2.1 18 = .ok (.aload_n 0, 1) := by decide +kernel
theorem d_X3_addNotice_19 : decode mX3_addNotice.2.1 19 = .ok (.getfield 43, 3) := by decide +kernel
theorem d_X3_addNotice_22 : decode mX3_addNotice.2.1 22 = .ok (.invokevirtual 64, 3) := by decide +kernel
theorem d_X3_addNotice_25 : decode mX3_addNotice.2.1 25 = .ok (.astore_n 3, 1) := by decide +kernel
theorem d_X3_addNotice_26 : decode mX3_addNotice.2.1 26 = .ok (.aload_n 3, 1) := by decide +kernel
theorem d_X3_addNotice_27 : decode mX3_addNotice.2.1 27 = .ok (.iconst 0, 1) := by decide +kernel
theorem d_X3_addNotice_28 : decode mX3_addNotice.2.1 28 = .ok (.iload_n 1, 1) := by decide +kernel
theorem d_X3_addNotice_29 : decode mX3_addNotice.2.1 29 = .ok (.iastore, 1) := by decide +kernel
theorem d_X3_addNotice_30 : decode mX3_addNotice.2.1 30 = .ok (.aload_n 3, 1) := by decide +kernel
theorem d_X3_addNotice_31 : decode mX3_addNotice.2.1 31 = .ok (.iconst 1, 1) := by decide +kernel
theorem d_X3_addNotice_32 : decode mX3_addNotice.2.1 32 = .ok (.iload_n 2, 1) := by decide +kernel
theorem d_X3_addNotice_33 : decode mX3_addNotice.2.1 33 = .ok (.iastore, 1) := by decide +kernel
theorem d_X3_addNotice_34 : decode mX3_addNotice.2.1 34 = .ok (.return_, 1) := by decide +kernel
def T_X3_addNotice_18 (Q : Mem → Prop) (v0 : Nat) (v1 : Int32) (v2 : Int32) (M : Mem) : Prop := (kd v0 = 3) ∧ (kd (rf v0 8) = 4) ∧ T_X4_addRow (fun y4 M3 => (kd y4 = 9) ∧ (vp_in 0 (ln y4)) ∧ ∀ M7 : Mem, M7 = mset M3 y4 (Int32.toNatClampNeg 0) v1 → (vp_in 1 (ln y4)) ∧ ∀ M9 : Mem, M9 = mset M7 y4 (Int32.toNatClampNeg 1) v2 → Q M9)  (rf v0 8) M
set_option maxRecDepth 100000 in
set_option maxHeartbeats 4000000 in
theorem B_X3_addNotice_18 {g : GG} (Q : Mem → Prop) (v0 : Nat) (v1 : Int32) (v2 : Int32) (M : Mem) (h : T_X3_addNotice_18 Q v0 v1 v2 M) : WP g 10 mX3_addNotice 18 [some (.ref (g.1 + v0)), some (.int v1), some (.int v2), none] [] M 0 (oV Q noX) := by
  unfold T_X3_addNotice_18 at h
  refine R_aload_n (pc := 18) d_X3_addNotice_18 rfl rfl ?_
  obtain ⟨k1, h⟩ := h
  refine R_getR (pc := 19) fld_RX3_43 rfl rfl k1 d_X3_addNotice_19 ?_
  obtain ⟨k2, h⟩ := h
  refine R_callV (pc := 22) (As := []) (rest := []) (c_X4_addRow (g := g) (rf v0 8) M _ h) rfl rfl cal_RX3_64 ins_X4_addRow sel_X4_addRow (cls_at k2 clsOK4) (by decide) (by decide) rfl rfl (Nat.le_of_ble_eq_true rfl) d_X3_addNotice_22 (k_R (fun y4 M3 h => ?_)) (fun _ _ h9 => False.elim h9)
  try dsimp only at h
  refine R_astore_n (pc := 25) (L' := [some (.ref (g.1 + v0)), some (.int v1), some (.int v2), some (.ref (g.1 + y4))]) d_X3_addNotice_25 rfl (by decide) rfl ?_
  refine R_aload_n (pc := 26) d_X3_addNotice_26 rfl rfl ?_
  refine R_iconst (pc := 27) (v := 0) d_X3_addNotice_27 (by decide) ?_
  refine R_iload_n (pc := 28) d_X3_addNotice_28 rfl rfl ?_
  obtain ⟨k5, h⟩ := h
  obtain ⟨k6, h⟩ := h
  refine R_iast (pc := 29) k5 k6 d_X3_addNotice_29 (N_M (fun M7 eM7 => ?_))
  have h := h M7 eM7
  refine R_aload_n (pc := 30) d_X3_addNotice_30 rfl rfl ?_
  refine R_iconst (pc := 31) (v := 1) d_X3_addNotice_31 (by decide) ?_
  refine R_iload_n (pc := 32) d_X3_addNotice_32 rfl rfl ?_
  obtain ⟨k8, h⟩ := h
  refine R_iast (pc := 33) k5 k8 d_X3_addNotice_33 (N_M (fun M9 eM9 => ?_))
  have h := h M9 eM9
  exact R_ret (pc := 34) d_X3_addNotice_34 h
def T_X3_addNotice (Q : Mem → Prop) (v0 : Nat) (v1 : Int32) (v2 : Int32) (M : Mem) : Prop := (kd v0 = 3) ∧ (kd (rf v0 8) = 4) ∧ T_X4_isFull (fun y4 M3 => if y4 = 0 then (T_X3_addNotice_18 Q v0 v1 v2 M3) else (T_X4_removeRow (fun M5 => T_X3_addNotice_18 Q v0 v1 v2 M5)  (rf v0 8) 0 M3))  (rf v0 8) M
set_option maxRecDepth 100000 in
set_option maxHeartbeats 4000000 in
theorem c_X3_addNotice {g : GG} (v0 : Nat) (v1 : Int32) (v2 : Int32) (M : Mem) (Q : Mem → Prop) (h : T_X3_addNotice Q v0 v1 v2 M) : CT g 10 mX3_addNotice [.ref (g.1 + v0), .int v1, .int v2] M 0 (oV Q noX) := by
  refine CT_of (L := [some (.ref (g.1 + v0)), some (.int v1), some (.int v2), none]) (by decide) rfl (Nat.le_of_ble_eq_true rfl) (ro_V rfl) rfl ?_
  unfold T_X3_addNotice at h
  refine R_aload_n (pc := 0) d_X3_addNotice_0 rfl rfl ?_
  obtain ⟨k1, h⟩ := h
  refine R_getR (pc := 1) fld_RX3_43 rfl rfl k1 d_X3_addNotice_1 ?_
  obtain ⟨k2, h⟩ := h
  refine R_callV (pc := 4) (As := []) (rest := []) (c_X4_isFull (g := g) (rf v0 8) M _ h) rfl rfl cal_RX3_56 ins_X4_isFull sel_X4_isFull (cls_at k2 clsOK4) (by decide) (by decide) rfl rfl (Nat.le_of_ble_eq_true rfl) d_X3_addNotice_4 (k_Z (fun y4 M3 h => ?_)) (fun _ _ h9 => False.elim h9)
  try dsimp only at h
  refine R_if_eq (pc := 7) (tgt := 18) d_X3_addNotice_7 (by decide) (fun c => ?_) (fun c => ?_)
  · rw [if_pos c] at h
    exact WP_sub (B_X3_addNotice_18 Q v0 v1 v2 M3 h) (by decide) (ls_s (ls_s (ls_s (ls_n ls_0))))
  · rw [if_neg c] at h
    refine R_aload_n (pc := 10) d_X3_addNotice_10 rfl rfl ?_
    refine R_getR (pc := 11) fld_RX3_43 rfl rfl k1 d_X3_addNotice_11 ?_
    refine R_iconst (pc := 14) (v := 0) d_X3_addNotice_14 (by decide) ?_
    refine R_callV (pc := 15) (As := [.int 0]) (rest := []) (c_X4_removeRow (g := g) (rf v0 8) 0 M3 _ h) rfl rfl cal_RX3_60 ins_X4_removeRow sel_X4_removeRow (cls_at k2 clsOK4) (by decide) (by decide) rfl rfl (Nat.le_of_ble_eq_true rfl) d_X3_addNotice_15 (k_V (fun M5 h => ?_)) (fun _ _ h9 => False.elim h9)
    try dsimp only at h
    exact WP_sub (B_X3_addNotice_18 Q v0 v1 v2 M5 h) (by decide) (ls_s (ls_s (ls_s (ls_n ls_0))))
/-! X0_serveWishes -/
theorem d_X0_serveWishes_0 : decode mX0_serveWishes.2.1 0 = .ok (.iconst 0, 1) := by decide +kernel
theorem d_X0_serveWishes_1 : decode mX0_serveWishes.2.1 1 = .ok (.istore_n 1, 1) := by decide +kernel
theorem d_X0_serveWishes_2 : decode mX0_serveWishes.2.1 2 = .ok (.iconst 0, 1) := by decide +kernel
theorem d_X0_serveWishes_3 : decode mX0_serveWishes.2.1 3 = .ok (.istore_n 2, 1) := by decide +kernel
theorem d_X0_serveWishes_4 : decode mX0_serveWishes.2.1 4 = .ok (.aload_n 0, 1) := by decide +kernel
theorem d_X0_serveWishes_5 : decode mX0_serveWishes.2.1 5 = .ok (.getfield 9, 3) := by decide +kernel
theorem d_X0_serveWishes_8 : decode mX0_serveWishes.2.1 8 = .ok (.getfield 82, 3) := by decide +kernel
theorem d_X0_serveWishes_11 : decode mX0_serveWishes.2.1 11 = .ok (.getfield 37, 3) := by decide +kernel
theorem d_X0_serveWishes_14 : decode mX0_serveWishes.2.1 14 = .ok (.istore_n 3, 1) := by decide +kernel
theorem d_X0_serveWishes_15 : decode mX0_serveWishes.2.1 15 = .ok (.iconst 0, 1) := by decide +kernel
theorem d_X0_serveWishes_16 : decode mX0_serveWishes.2.1 16 = .ok (.istore 4, 2) := by decide +kernel
theorem d_X0_serveWishes_18 : decode mX0_serveWishes.2.1 18 = .ok (.iload 4, 2) := by decide +kernel
theorem d_X0_serveWishes_20 : decode mX0_serveWishes.2.1 20 = .ok (.iload_n 3, 1) := by decide +kernel
theorem d_X0_serveWishes_21 : decode mX0_serveWishes.2.1 21 = .ok (.if_icmp .ge 128, 3) := by decide +kernel
theorem d_X0_serveWishes_24 : decode mX0_serveWishes.2.1 24 = .ok (.aload_n 0, 1) := by decide +kernel
theorem d_X0_serveWishes_25 : decode mX0_serveWishes.2.1 25 = .ok (.getfield 9, 3) := by decide +kernel
theorem d_X0_serveWishes_28 : decode mX0_serveWishes.2.1 28 = .ok (.getfield 82, 3) := by decide +kernel
theorem d_X0_serveWishes_31 : decode mX0_serveWishes.2.1 31 = .ok (.getfield 40, 3) := by decide +kernel
theorem d_X0_serveWishes_34 : decode mX0_serveWishes.2.1 34 = .ok (.iload_n 2, 1) := by decide +kernel
theorem d_X0_serveWishes_35 : decode mX0_serveWishes.2.1 35 = .ok (.aaload, 1) := by decide +kernel
theorem d_X0_serveWishes_36 : decode mX0_serveWishes.2.1 36 = .ok (.astore 5, 2) := by decide +kernel
theorem d_X0_serveWishes_38 : decode mX0_serveWishes.2.1 38 = .ok (.aload 5, 2) := by decide +kernel
theorem d_X0_serveWishes_40 : decode mX0_serveWishes.2.1 40 = .ok (.iconst 2, 1) := by decide +kernel
theorem d_X0_serveWishes_41 : decode mX0_serveWishes.2.1 41 = .ok (.iaload, 1) := by decide +kernel
theorem d_X0_serveWishes_42 : decode mX0_serveWishes.2.1 42 = .ok (.aload_n 0, 1) := by decide +kernel
theorem d_X0_serveWishes_43 : decode mX0_serveWishes.2.1 43 = .ok (.getfield 9, 3) := by decide +kernel
theorem d_X0_serveWishes_46 : decode mX0_serveWishes.2.1 46 = .ok (.getfield 85, 3) := by decide +kernel
theorem d_X0_serveWishes_49 : decode mX0_serveWishes.2.1 49 = .ok (.if_icmp .le 10, 3) := by decide +kernel
theorem d_X0_serveWishes_52 : decode mX0_serveWishes.2.1 52 = .ok (.aload 5, 2) := by decide +kernel
theorem d_X0_serveWishes_54 : decode mX0_serveWishes.2.1 54 = .ok (.iconst 2, 1) := by decide +kernel
theorem d_X0_serveWishes_55 : decode mX0_serveWishes.2.1 55 = .ok (.iaload, 1) := by decide +kernel
theorem d_X0_serveWishes_56 : decode mX0_serveWishes.2.1 56 = .ok (.goto 10, 3) := by decide +kernel
theorem d_X0_serveWishes_59 : decode mX0_serveWishes.2.1 59 = .ok (.aload_n 0, 1) := by decide +kernel
theorem d_X0_serveWishes_60 : decode mX0_serveWishes.2.1 60 = .ok (.getfield 9, 3) := by decide +kernel
theorem d_X0_serveWishes_63 : decode mX0_serveWishes.2.1 63 = .ok (.getfield 85, 3) := by decide +kernel
theorem d_X0_serveWishes_66 : decode mX0_serveWishes.2.1 66 = .ok (.istore 6, 2) := by decide +kernel
theorem d_X0_serveWishes_68 : decode mX0_serveWishes.2.1 68 = .ok (.aload_n 0, 1) := by decide +kernel
theorem d_X0_serveWishes_69 : decode mX0_serveWishes.2.1 69 = .ok (.getfield 15, 3) := by decide +kernel
theorem d_X0_serveWishes_72 : decode mX0_serveWishes.2.1 72 = .ok (.aload 5, 2) := by decide +kernel
theorem d_X0_serveWishes_74 : decode mX0_serveWishes.2.1 74 = .ok (.iconst 0, 1) := by decide +kernel
theorem d_X0_serveWishes_75 : decode mX0_serveWishes.2.1 75 = .ok (.iaload, 1) := by decide +kernel
theorem d_X0_serveWishes_76 : decode mX0_serveWishes.2.1 76 = .ok (.aload 5, 2) := by decide +kernel
theorem d_X0_serveWishes_78 : decode mX0_serveWishes.2.1 78 = .ok (.iconst 1, 1) := by decide +kernel
theorem d_X0_serveWishes_79 : decode mX0_serveWishes.2.1 79 = .ok (.iaload, 1) := by decide +kernel
theorem d_X0_serveWishes_80 : decode mX0_serveWishes.2.1 80 = .ok (.iload 6, 2) := by decide +kernel
theorem d_X0_serveWishes_82 : decode mX0_serveWishes.2.1 82 = .ok (.aload 5, 2) := by decide +kernel
theorem d_X0_serveWishes_84 : decode mX0_serveWishes.2.1 84 = .ok (.iconst 3, 1) := by decide +kernel
theorem d_X0_serveWishes_85 : decode mX0_serveWishes.2.1 85 = .ok (.iaload, 1) := by decide +kernel
theorem d_X0_serveWishes_86 : decode mX0_serveWishes.2.1 86 = .ok (.invokevirtual 88, 3) := by decide +kernel
theorem d_X0_serveWishes_89 : decode mX0_serveWishes.2.1 89 = .ok (.istore 7, 2) := by decide +kernel
theorem d_X0_serveWishes_91 : decode mX0_serveWishes.2.1 91 = .ok (.iload 7, 2) := by decide +kernel
theorem d_X0_serveWishes_93 : decode mX0_serveWishes.2.1 93 = .ok (.iconst (-1), 1) := by decide +kernel
theorem d_X0_serveWishes_94 : decode mX0_serveWishes.2.1 94 = .ok (.if_icmp .ne 9, 3) := by decide +kernel
theorem d_X0_serveWishes_97 : decode mX0_serveWishes.2.1 97 = .ok (.iinc 2 1, 3) := by decide +kernel
theorem d_X0_serveWishes_100 : decode mX0_serveWishes.2.1 100 = .ok (.goto 43, 3) := by decide +kernel
theorem d_X0_serveWishes_103 : decode mX0_serveWishes.2.1 103 = .ok (.aload_n 0, 1) := by decide +kernel
theorem d_X0_serveWishes_104 : decode mX0_serveWishes.2.1 104 = .ok (.aload 5, 2) := by decide +kernel
theorem d_X0_serveWishes_106 : decode mX0_serveWishes.2.1 106 = .ok (.iconst 0, 1) := by decide +kernel
theorem d_X0_serveWishes_107 : decode mX0_serveWishes.2.1 107 = .ok (.iaload, 1) := by decide +kernel
theorem d_X0_serveWishes_108 : decode mX0_serveWishes.2.1 108 = .ok (.aload 5, 2) := by decide +kernel
theorem d_X0_serveWishes_110 : decode mX0_serveWishes.2.1 110 = .ok (.iconst 1, 1) := by decide +kernel
theorem d_X0_serveWishes_111 : decode mX0_serveWishes.2.1 111 = .ok (.iaload, 1) := by decide +kernel
theorem d_X0_serveWishes_112 : decode mX0_serveWishes.2.1 112 = .ok (.iload 7, 2) := by decide +kernel
theorem d_X0_serveWishes_114 : decode mX0_serveWishes.2.1 114 = .ok (.invokevirtual 92, 3) := by decide +kernel
theorem d_X0_serveWishes_117 : decode mX0_serveWishes.2.1 117 = .ok (.istore 8, 2) := by decide +kernel
theorem d_X0_serveWishes_119 : decode mX0_serveWishes.2.1 119 = .ok (.aload_n 0, 1) := by decide +kernel
theorem d_X0_serveWishes_120 : decode mX0_serveWishes.2.1 120 = .ok (.getfield 9, 3) := by decide +kernel
theorem d_X0_serveWishes_123 : decode mX0_serveWishes.2.1 123 = .ok (.iload 8, 2) := by decide +kernel
theorem d_X0_serveWishes_125 : decode mX0_serveWishes.2.1 125 = .ok (.iconst 3, 1) := by decide +kernel
theorem d_X0_serveWishes_126 : decode mX0_serveWishes.2.1 126 = .ok (.invokevirtual 79, 3) := by decide +kernel
theorem d_X0_serveWishes_129 : decode mX0_serveWishes.2.1 129 = .ok (.aload_n 0, 1) := by decide +kernel
theorem d_X0_serveWishes_130 : decode mX0_serveWishes.2.1 130 = .ok (.getfield 9, 3) := by decide +kernel
theorem d_X0_serveWishes_133 : decode mX0_serveWishes.2.1 133 = .ok (.getfield 82, 3) := by decide +kernel
theorem d_X0_serveWishes_136 : decode mX0_serveWishes.2.1 136 = .ok (.iload_n 2, 1) := by decide +kernel
theorem d_X0_serveWishes_137 : decode mX0_serveWishes.2.1 137 = .ok (.invokevirtual 95, 3) := by decide +kernel
theorem d_X0_serveWishes_140 : decode mX0_serveWishes.2.1 140 = .ok (.iinc 1 1, 3) := by decide +kernel
theorem d_X0_serveWishes_143 : decode mX0_serveWishes.2.1 143 = .ok (.iinc 4 1, 3) := by decide +kernel
theorem d_X0_serveWishes_146 : decode mX0_serveWishes.2.1 146 = .ok (.goto (-128), 3) := by decide +kernel
theorem d_X0_serveWishes_149 : decode mX0_serveWishes.2.1 149 = .ok (.iload_n 1, 1) := by decide +kernel
theorem d_X0_serveWishes_150 : decode mX0_serveWishes.2.1 150 = .ok (.ireturn, 1) := by decide +kernel
def T_X0_serveWishes_143 (κ18 : Nat → Int32 → Int32 → Int32 → Int32 → Mem → Prop) (Q : Int32 → Mem → Prop) (v0 : Nat) (v1 : Int32) (v2 : Int32) (v3 : Int32) (v4 : Int32) (M : Mem) : Prop := ∀ x1 : Int32, x1 = v4 + 1 → κ18 v0 v1 v2 v3 x1 M
set_option maxRecDepth 100000 in
set_option maxHeartbeats 4000000 in
theorem B_X0_serveWishes_143 {g : GG} (Q : Int32 → Mem → Prop) (κ18 : Nat → Int32 → Int32 → Int32 → Int32 → Mem → Prop) (hκ18 : ∀ (v0 : Nat) (v1 : Int32) (v2 : Int32) (v3 : Int32) (v4 : Int32) (M : Mem), κ18 v0 v1 v2 v3 v4 M → WP g 14 mX0_serveWishes 18 [some (.ref (g.1 + v0)), some (.int v1), some (.int v2), some (.int v3), some (.int v4), none, none, none, none] [] M 0 (oI Q noX)) (v0 : Nat) (v1 : Int32) (v2 : Int32) (v3 : Int32) (v4 : Int32) (M : Mem) (h : T_X0_serveWishes_143 κ18 Q v0 v1 v2 v3 v4 M) : WP g 14 mX0_serveWishes 143 [some (.ref (g.1 + v0)), some (.int v1), some (.int v2), some (.int v3), some (.int v4), none, none, none, none] [] M 0 (oI Q noX) := by
  unfold T_X0_serveWishes_143 at h
  obtain ⟨x1, ex1⟩ : ∃ z : Int32, z = v4 + 1 := ⟨_, rfl⟩
  have h := h x1 ex1
  refine R_iinc (pc := 143) (v := x1) (L' := [some (.ref (g.1 + v0)), some (.int v1), some (.int v2), some (.int v3), some (.int x1), none, none, none, none]) d_X0_serveWishes_143 rfl (by rw [ex1]; rfl) (by decide) rfl ?_
  refine R_goto (pc := 146) (tgt := 18) d_X0_serveWishes_146 (by decide) ?_
  exact WP_sub (hκ18 v0 v1 v2 v3 x1 M h) (by decide) (ls_s (ls_s (ls_s (ls_s (ls_s (ls_n (ls_n (ls_n (ls_n ls_0)))))))))
def T_X0_serveWishes_66 (κ18 : Nat → Int32 → Int32 → Int32 → Int32 → Mem → Prop) (Q : Int32 → Mem → Prop) (v0 : Nat) (v1 : Int32) (v2 : Int32) (v3 : Int32) (v4 : Int32) (v5 : Nat) (s0 : Int32) (M : Mem) : Prop := (kd v0 = 0) ∧ (kd v5 = 9) ∧ (vp_in 0 (ln v5)) ∧ (vp_in 1 (ln v5)) ∧ (vp_in 3 (ln v5)) ∧ (kd (rf v0 1) = 2) ∧ T_X2_firstMoment (fun y8 M7 => if y8 = ((-1) : Int32) then (∀ x16 : Int32, x16 = v2 + 1 → T_X0_serveWishes_143 κ18 Q v0 v1 x16 v3 v4 M7) else (T_X0_enterVisit (fun y10 M9 => (kd (rf v0 0) = 3) ∧ T_X3_addNotice (fun M12 => (kd (rf (rf v0 0) 7) = 4) ∧ T_X4_removeRow (fun M14 => ∀ x15 : Int32, x15 = v1 + 1 → T_X0_serveWishes_143 κ18 Q v0 x15 v2 v3 v4 M14)  (rf (rf v0 0) 7) v2 M12)  (rf v0 0) y10 3 M9)  v0 (M7.1 v5 (Int32.toNatClampNeg 0)) (M7.1 v5 (Int32.toNatClampNeg 1)) y8 M7))  (rf v0 1) (M.1 v5 (Int32.toNatClampNeg 0)) (M.1 v5 (Int32.toNatClampNeg 1)) s0 (M.1 v5 (Int32.toNatClampNeg 3)) M
set_option maxRecDepth 100000 in
set_option maxHeartbeats 4000000 in
theorem B_X0_serveWishes_66 {g : GG} (Q : Int32 → Mem → Prop) (κ18 : Nat → Int32 → Int32 → Int32 → Int32 → Mem → Prop) (hκ18 : ∀ (v0 : Nat) (v1 : Int32) (v2 : Int32) (v3 : Int32) (v4 : Int32) (M : Mem), κ18 v0 v1 v2 v3 v4 M → WP g 14 mX0_serveWishes 18 [some (.ref (g.1 + v0)), some (.int v1), some (.int v2), some (.int v3), some (.int v4), none, none, none, none] [] M 0 (oI Q noX)) (v0 : Nat) (v1 : Int32) (v2 : Int32) (v3 : Int32) (v4 : Int32) (v5 : Nat) (s0 : Int32) (M : Mem) (h : T_X0_serveWishes_66 κ18 Q v0 v1 v2 v3 v4 v5 s0 M) : WP g 14 mX0_serveWishes 66 [some (.ref (g.1 + v0)), some (.int v1), some (.int v2), some (.int v3), some (.int v4), some (.ref (g.1 + v5)), none, none, none] [.int s0] M 0 (oI Q noX) := by
  unfold T_X0_serveWishes_66 at h
  refine R_istore (pc := 66) (L' := [some (.ref (g.1 + v0)), some (.int v1), some (.int v2), some (.int v3), some (.int v4), some (.ref (g.1 + v5)), some (.int s0), none, none]) d_X0_serveWishes_66 (by decide) rfl ?_
  refine R_aload_n (pc := 68) d_X0_serveWishes_68 rfl rfl ?_
  obtain ⟨k1, h⟩ := h
  refine R_getR (pc := 69) fld_RX0_15 rfl rfl k1 d_X0_serveWishes_69 ?_
  refine R_aload (pc := 72) d_X0_serveWishes_72 rfl ?_
  refine R_iconst (pc := 74) (v := 0) d_X0_serveWishes_74 (by decide) ?_
  obtain ⟨k2, h⟩ := h
  obtain ⟨k3, h⟩ := h
  refine R_iald (pc := 75) k2 k3 d_X0_serveWishes_75 ?_
  refine R_aload (pc := 76) d_X0_serveWishes_76 rfl ?_
  refine R_iconst (pc := 78) (v := 1) d_X0_serveWishes_78 (by decide) ?_
  obtain ⟨k4, h⟩ := h
  refine R_iald (pc := 79) k2 k4 d_X0_serveWishes_79 ?_
  refine R_iload (pc := 80) d_X0_serveWishes_80 rfl ?_
  refine R_aload (pc := 82) d_X0_serveWishes_82 rfl ?_
  refine R_iconst (pc := 84) (v := 3) d_X0_serveWishes_84 (by decide) ?_
  obtain ⟨k5, h⟩ := h
  refine R_iald (pc := 85) k2 k5 d_X0_serveWishes_85 ?_
  obtain ⟨k6, h⟩ := h
  refine R_callV (pc := 86) (As := [.int (M.1 v5 (Int32.toNatClampNeg 0)), .int (M.1 v5 (Int32.toNatClampNeg 1)), .int s0, .int (M.1 v5 (Int32.toNatClampNeg 3))]) (rest := []) (c_X2_firstMoment (g := g) (rf v0 1) (M.1 v5 (Int32.toNatClampNeg 0)) (M.1 v5 (Int32.toNatClampNeg 1)) s0 (M.1 v5 (Int32.toNatClampNeg 3)) M _ h) rfl rfl cal_RX0_88 ins_X2_firstMoment sel_X2_firstMoment (cls_at k6 clsOK2) (by decide) (by decide) rfl rfl (Nat.le_of_ble_eq_true rfl) d_X0_serveWishes_86 (k_I (fun y8 M7 h => ?_)) (fun _ _ h9 => False.elim h9)
  try dsimp only at h
  refine R_istore (pc := 89) (L' := [some (.ref (g.1 + v0)), some (.int v1), some (.int v2), some (.int v3), some (.int v4), some (.ref (g.1 + v5)), some (.int s0), some (.int y8), none]) d_X0_serveWishes_89 (by decide) rfl ?_
  refine R_iload (pc := 91) d_X0_serveWishes_91 rfl ?_
  refine R_iconst (pc := 93) (v := (-1)) d_X0_serveWishes_93 (by decide) ?_
  refine R_icmp_ne (pc := 94) (tgt := 103) d_X0_serveWishes_94 (by decide) (fun c => ?_) (fun c => ?_)
  · rw [if_neg c] at h
    refine R_aload_n (pc := 103) d_X0_serveWishes_103 rfl rfl ?_
    refine R_aload (pc := 104) d_X0_serveWishes_104 rfl ?_
    refine R_iconst (pc := 106) (v := 0) d_X0_serveWishes_106 (by decide) ?_
    refine R_iald (pc := 107) k2 k3 d_X0_serveWishes_107 ?_
    refine R_aload (pc := 108) d_X0_serveWishes_108 rfl ?_
    refine R_iconst (pc := 110) (v := 1) d_X0_serveWishes_110 (by decide) ?_
    refine R_iald (pc := 111) k2 k4 d_X0_serveWishes_111 ?_
    refine R_iload (pc := 112) d_X0_serveWishes_112 rfl ?_
    refine R_callV (pc := 114) (As := [.int (M7.1 v5 (Int32.toNatClampNeg 0)), .int (M7.1 v5 (Int32.toNatClampNeg 1)), .int y8]) (rest := []) (c_X0_enterVisit (g := g) v0 (M7.1 v5 (Int32.toNatClampNeg 0)) (M7.1 v5 (Int32.toNatClampNeg 1)) y8 M7 _ h) rfl rfl cal_RX0_92 ins_X0_enterVisit sel_X0_enterVisit (cls_at k1 clsOK0) (by decide) (by decide) rfl rfl (Nat.le_of_ble_eq_true rfl) d_X0_serveWishes_114 (k_I (fun y10 M9 h => ?_)) (fun _ _ h9 => False.elim h9)
    try dsimp only at h
    refine R_istore (pc := 117) (L' := [some (.ref (g.1 + v0)), some (.int v1), some (.int v2), some (.int v3), some (.int v4), some (.ref (g.1 + v5)), some (.int s0), some (.int y8), some (.int y10)]) d_X0_serveWishes_117 (by decide) rfl ?_
    refine R_aload_n (pc := 119) d_X0_serveWishes_119 rfl rfl ?_
    refine R_getR (pc := 120) fld_RX0_9 rfl rfl k1 d_X0_serveWishes_120 ?_
    refine R_iload (pc := 123) d_X0_serveWishes_123 rfl ?_
    refine R_iconst (pc := 125) (v := 3) d_X0_serveWishes_125 (by decide) ?_
    obtain ⟨k11, h⟩ := h
    refine R_callV (pc := 126) (As := [.int y10, .int 3]) (rest := []) (c_X3_addNotice (g := g) (rf v0 0) y10 3 M9 _ h) rfl rfl cal_RX0_79 ins_X3_addNotice sel_X3_addNotice (cls_at k11 clsOK3) (by decide) (by decide) rfl rfl (Nat.le_of_ble_eq_true rfl) d_X0_serveWishes_126 (k_V (fun M12 h => ?_)) (fun _ _ h9 => False.elim h9)
    try dsimp only at h
    refine R_aload_n (pc := 129) d_X0_serveWishes_129 rfl rfl ?_
    refine R_getR (pc := 130) fld_RX0_9 rfl rfl k1 d_X0_serveWishes_130 ?_
    refine R_getR (pc := 133) fld_RX0_82 rfl rfl k11 d_X0_serveWishes_133 ?_
    refine R_iload_n (pc := 136) d_X0_serveWishes_136 rfl rfl ?_
    obtain ⟨k13, h⟩ := h
    refine R_callV (pc := 137) (As := [.int v2]) (rest := []) (c_X4_removeRow (g := g) (rf (rf v0 0) 7) v2 M12 _ h) rfl rfl cal_RX0_95 ins_X4_removeRow sel_X4_removeRow (cls_at k13 clsOK4) (by decide) (by decide) rfl rfl (Nat.le_of_ble_eq_true rfl) d_X0_serveWishes_137 (k_V (fun M14 h => ?_)) (fun _ _ h9 => False.elim h9)
    try dsimp only at h
    obtain ⟨x15, ex15⟩ : ∃ z : Int32, z = v1 + 1 := ⟨_, rfl⟩
    have h := h x15 ex15
    refine R_iinc (pc := 140) (v := x15) (L' := [some (.ref (g.1 + v0)), some (.int x15), some (.int v2), some (.int v3), some (.int v4), some (.ref (g.1 + v5)), some (.int s0), some (.int y8), some (.int y10)]) d_X0_serveWishes_140 rfl (by rw [ex15]; rfl) (by decide) rfl ?_
    exact WP_sub (B_X0_serveWishes_143 Q κ18 hκ18 v0 x15 v2 v3 v4 M14 h) (by decide) (ls_s (ls_s (ls_s (ls_s (ls_s (ls_n (ls_n (ls_n (ls_n ls_0)))))))))
  · rw [if_pos c] at h
    obtain ⟨x16, ex16⟩ : ∃ z : Int32, z = v2 + 1 := ⟨_, rfl⟩
    have h := h x16 ex16
    refine R_iinc (pc := 97) (v := x16) (L' := [some (.ref (g.1 + v0)), some (.int v1), some (.int x16), some (.int v3), some (.int v4), some (.ref (g.1 + v5)), some (.int s0), some (.int y8), none]) d_X0_serveWishes_97 rfl (by rw [ex16]; rfl) (by decide) rfl ?_
    refine R_goto (pc := 100) (tgt := 143) d_X0_serveWishes_100 (by decide) ?_
    exact WP_sub (B_X0_serveWishes_143 Q κ18 hκ18 v0 v1 x16 v3 v4 M7 h) (by decide) (ls_s (ls_s (ls_s (ls_s (ls_s (ls_n (ls_n (ls_n (ls_n ls_0)))))))))
def T_X0_serveWishes_18 (Q : Int32 → Mem → Prop) : Nat → Nat → Int32 → Int32 → Int32 → Int32 → Mem → Prop
  | 0, _, _, _, _, _, _ => False
  | n + 1, v0, v1, v2, v3, v4, M => if v3 ≤ v4 then (Q v1 M) else ((kd v0 = 0) ∧ (kd (rf v0 0) = 3) ∧ (kd (rf (rf v0 0) 7) = 4) ∧ (kd (rf (rf (rf v0 0) 7) 0) = 10 ∨ kd (rf (rf (rf v0 0) 7) 0) = 11) ∧ (vp_in v2 (ln (rf (rf (rf v0 0) 7) 0))) ∧ ∀ r6 : Nat, r6 = rf (rf (rf (rf v0 0) 7) 0) (Int32.toNatClampNeg v2) → (kd r6 = 9) ∧ (vp_in 2 (ln r6)) ∧ if (M.1 r6 (Int32.toNatClampNeg 2)) ≤ (M.1 (rf v0 0) 0) then (T_X0_serveWishes_66 (T_X0_serveWishes_18 Q n) Q v0 v1 v2 v3 v4 r6 (M.1 (rf v0 0) 0) M) else (T_X0_serveWishes_66 (T_X0_serveWishes_18 Q n) Q v0 v1 v2 v3 v4 r6 (M.1 r6 (Int32.toNatClampNeg 2)) M))
set_option maxRecDepth 100000 in
set_option maxHeartbeats 4000000 in
theorem B_X0_serveWishes_18 {g : GG} (Q : Int32 → Mem → Prop) : ∀ (n : Nat) (v0 : Nat) (v1 : Int32) (v2 : Int32) (v3 : Int32) (v4 : Int32) (M : Mem), T_X0_serveWishes_18 Q n v0 v1 v2 v3 v4 M → WP g 14 mX0_serveWishes 18 [some (.ref (g.1 + v0)), some (.int v1), some (.int v2), some (.int v3), some (.int v4), none, none, none, none] [] M 0 (oI Q noX) := by
  intro n
  induction n with
  | zero => intro v0 v1 v2 v3 v4 M h; exact h.elim
  | succ n hκ18 =>
    intro v0 v1 v2 v3 v4 M h
    unfold T_X0_serveWishes_18 at h
    refine R_iload (pc := 18) d_X0_serveWishes_18 rfl ?_
    refine R_iload_n (pc := 20) d_X0_serveWishes_20 rfl rfl ?_
    refine R_icmp_ge (pc := 21) (tgt := 149) d_X0_serveWishes_21 (by decide) (fun c => ?_) (fun c => ?_)
    · rw [if_pos c] at h
      refine R_iload_n (pc := 149) d_X0_serveWishes_149 rfl rfl ?_
      exact R_retv (pc := 150) d_X0_serveWishes_150 h
    · rw [if_neg c] at h
      refine R_aload_n (pc := 24) d_X0_serveWishes_24 rfl rfl ?_
      obtain ⟨k1, h⟩ := h
      refine R_getR (pc := 25) fld_RX0_9 rfl rfl k1 d_X0_serveWishes_25 ?_
      obtain ⟨k2, h⟩ := h
      refine R_getR (pc := 28) fld_RX0_82 rfl rfl k2 d_X0_serveWishes_28 ?_
      obtain ⟨k3, h⟩ := h
      refine R_getR (pc := 31) fld_RX0_40 rfl rfl k3 d_X0_serveWishes_31 ?_
      refine R_iload_n (pc := 34) d_X0_serveWishes_34 rfl rfl ?_
      obtain ⟨k4, h⟩ := h
      obtain ⟨k5, h⟩ := h
      refine R_aald (pc := 35) k4 k5 d_X0_serveWishes_35 ?_
      refine N_r (fun r6 er6 => ?_)
      have h := h r6 er6
      refine R_astore (pc := 36) (L' := [some (.ref (g.1 + v0)), some (.int v1), some (.int v2), some (.int v3), some (.int v4), some (.ref (g.1 + r6)), none, none, none]) d_X0_serveWishes_36 (by decide) rfl ?_
      refine R_aload (pc := 38) d_X0_serveWishes_38 rfl ?_
      refine R_iconst (pc := 40) (v := 2) d_X0_serveWishes_40 (by decide) ?_
      obtain ⟨k7, h⟩ := h
      obtain ⟨k8, h⟩ := h
      refine R_iald (pc := 41) k7 k8 d_X0_serveWishes_41 ?_
      refine R_aload_n (pc := 42) d_X0_serveWishes_42 rfl rfl ?_
      refine R_getR (pc := 43) fld_RX0_9 rfl rfl k1 d_X0_serveWishes_43 ?_
      refine R_getI (pc := 46) fld_RX0_85 rfl rfl k2 d_X0_serveWishes_46 ?_
      refine R_icmp_le (pc := 49) (tgt := 59) d_X0_serveWishes_49 (by decide) (fun c => ?_) (fun c => ?_)
      · rw [if_pos c] at h
        refine R_aload_n (pc := 59) d_X0_serveWishes_59 rfl rfl ?_
        refine R_getR (pc := 60) fld_RX0_9 rfl rfl k1 d_X0_serveWishes_60 ?_
        refine R_getI (pc := 63) fld_RX0_85 rfl rfl k2 d_X0_serveWishes_63 ?_
        exact WP_sub (B_X0_serveWishes_66 Q (T_X0_serveWishes_18 Q n) hκ18 v0 v1 v2 v3 v4 r6 (M.1 (rf v0 0) 0) M h) (by decide) (ls_s (ls_s (ls_s (ls_s (ls_s (ls_s (ls_n (ls_n (ls_n ls_0)))))))))
      · rw [if_neg c] at h
        refine R_aload (pc := 52) d_X0_serveWishes_52 rfl ?_
        refine R_iconst (pc := 54) (v := 2) d_X0_serveWishes_54 (by decide) ?_
        refine R_iald (pc := 55) k7 k8 d_X0_serveWishes_55 ?_
        refine R_goto (pc := 56) (tgt := 66) d_X0_serveWishes_56 (by decide) ?_
        exact WP_sub (B_X0_serveWishes_66 Q (T_X0_serveWishes_18 Q n) hκ18 v0 v1 v2 v3 v4 r6 (M.1 r6 (Int32.toNatClampNeg 2)) M h) (by decide) (ls_s (ls_s (ls_s (ls_s (ls_s (ls_s (ls_n (ls_n (ls_n ls_0)))))))))
def T_X0_serveWishes (Q : Int32 → Mem → Prop) (v0 : Nat) (M : Mem) : Prop := (kd v0 = 0) ∧ (kd (rf v0 0) = 3) ∧ (kd (rf (rf v0 0) 7) = 4) ∧ ∀ x4 : Int32, x4 = M.1 (rf (rf v0 0) 7) 2 → (∃ N : Nat, T_X0_serveWishes_18 Q N v0 0 0 x4 0 M)
set_option maxRecDepth 100000 in
set_option maxHeartbeats 4000000 in
theorem c_X0_serveWishes {g : GG} (v0 : Nat) (M : Mem) (Q : Int32 → Mem → Prop) (h : T_X0_serveWishes Q v0 M) : CT g 14 mX0_serveWishes [.ref (g.1 + v0)] M 0 (oI Q noX) := by
  refine CT_of (L := [some (.ref (g.1 + v0)), none, none, none, none, none, none, none, none]) (by decide) rfl (Nat.le_of_ble_eq_true rfl) (ro_I rfl) rfl ?_
  unfold T_X0_serveWishes at h
  refine R_iconst (pc := 0) (v := 0) d_X0_serveWishes_0 (by decide) ?_
  refine R_istore_n (pc := 1) (L' := [some (.ref (g.1 + v0)), some (.int 0), none, none, none, none, none, none, none]) d_X0_serveWishes_1 rfl (by decide) rfl ?_
  refine R_iconst (pc := 2) (v := 0) d_X0_serveWishes_2 (by decide) ?_
  refine R_istore_n (pc := 3) (L' := [some (.ref (g.1 + v0)), some (.int 0), some (.int 0), none, none, none, none, none, none]) d_X0_serveWishes_3 rfl (by decide) rfl ?_
  refine R_aload_n (pc := 4) d_X0_serveWishes_4 rfl rfl ?_
  obtain ⟨k1, h⟩ := h
  refine R_getR (pc := 5) fld_RX0_9 rfl rfl k1 d_X0_serveWishes_5 ?_
  obtain ⟨k2, h⟩ := h
  refine R_getR (pc := 8) fld_RX0_82 rfl rfl k2 d_X0_serveWishes_8 ?_
  obtain ⟨k3, h⟩ := h
  refine R_getI (pc := 11) fld_RX0_37 rfl rfl k3 d_X0_serveWishes_11 ?_
  refine N_i (fun x4 ex4 => ?_)
  have h := h x4 ex4
  refine R_istore_n (pc := 14) (L' := [some (.ref (g.1 + v0)), some (.int 0), some (.int 0), some (.int x4), none, none, none, none, none]) d_X0_serveWishes_14 rfl (by decide) rfl ?_
  refine R_iconst (pc := 15) (v := 0) d_X0_serveWishes_15 (by decide) ?_
  refine R_istore (pc := 16) (L' := [some (.ref (g.1 + v0)), some (.int 0), some (.int 0), some (.int x4), some (.int 0), none, none, none, none]) d_X0_serveWishes_16 (by decide) rfl ?_
  obtain ⟨N, h⟩ := h
  exact WP_sub (B_X0_serveWishes_18 Q N v0 0 0 x4 0 M h) (by decide) (ls_s (ls_s (ls_s (ls_s (ls_s (ls_n (ls_n (ls_n (ls_n ls_0)))))))))
/-! X0_openRoom -/
theorem d_X0_openRoom_0 : decode mX0_openRoom.2.1 0 = .ok (.aload_n 0, 1) := by decide +kernel
theorem d_X0_openRoom_1 : decode mX0_openRoom.2.1 1 = .ok (.getfield 9, 3) := by decide +kernel
theorem d_X0_openRoom_4 : decode mX0_openRoom.2.1 4 = .ok (.getfield 44, 3) := by decide +kernel
theorem d_X0_openRoom_7 : decode mX0_openRoom.2.1 7 = .ok (.getfield 40, 3) := by decide +kernel
theorem d_X0_openRoom_10 : decode mX0_openRoom.2.1 10 = .ok (.iload_n 1, 1) := by decide +kernel
theorem d_X0_openRoom_11 : decode mX0_openRoom.2.1 11 = .ok (.aaload, 1) := by decide +kernel
theorem d_X0_openRoom_12 : decode mX0_openRoom.2.1 12 = .ok (.astore_n 2, 1) := by decide +kernel
theorem d_X0_openRoom_13 : decode mX0_openRoom.2.1 13 = .ok (.aload_n 2, 1) := by decide +kernel
theorem d_X0_openRoom_14 : decode mX0_openRoom.2.1 14 = .ok (.iconst 3, 1) := by decide +kernel
theorem d_X0_openRoom_15 : decode mX0_openRoom.2.1 15 = .ok (.iaload, 1) := by decide +kernel
theorem d_X0_openRoom_16 : decode mX0_openRoom.2.1 16 = .ok (.ifCond .ne 7, 3) := by decide +kernel
theorem d_X0_openRoom_19 : decode mX0_openRoom.2.1 19 = .ok (.iconst 1, 1) := by decide +kernel
theorem d_X0_openRoom_20 : decode mX0_openRoom.2.1 20 = .ok (.goto 4, 3) := by decide +kernel
theorem d_X0_openRoom_23 : decode mX0_openRoom.2.1 23 = .ok (.iconst 0, 1) := by decide +kernel
theorem d_X0_openRoom_24 : decode mX0_openRoom.2.1 24 = .ok (.istore_n 3, 1) := by decide +kernel
theorem d_X0_openRoom_25 : decode mX0_openRoom.2.1 25 = .ok (.aload_n 2, 1) := by decide +kernel
theorem d_X0_openRoom_26 : decode mX0_openRoom.2.1 26 = .ok (.iconst 3, 1) := by decide +kernel
theorem d_X0_openRoom_27 : decode mX0_openRoom.2.1 27 = .ok (.iconst 1, 1) := by decide +kernel
theorem d_X0_openRoom_28 : decode mX0_openRoom.2.1 28 = .ok (.iastore, 1) := by decide +kernel
theorem d_X0_openRoom_29 : decode mX0_openRoom.2.1 29 = .ok (.iload_n 3, 1) := by decide +kernel
theorem d_X0_openRoom_30 : decode mX0_openRoom.2.1 30 = .ok (.ifCond .eq 10, 3) := by decide +kernel
theorem d_X0_openRoom_33 : decode mX0_openRoom.2.1 33 = .ok (.aload_n 0, 1) := by decide +kernel
theorem d_X0_openRoom_34 : decode mX0_openRoom.2.1 34 = .ok (.invokevirtual 47, 3) := by decide +kernel
theorem d_X0_openRoom_37 : decode mX0_openRoom.2.1 37 = .ok (.goto 4, 3) := by decide +kernel
theorem d_X0_openRoom_40 : decode mX0_openRoom.2.1 40 = .ok (.iconst 0, 1) := by decide +kernel
theorem d_X0_openRoom_41 : decode mX0_openRoom.2.1 41 = .ok (.ireturn, 1) := by decide +kernel
def T_X0_openRoom_41 (Q : Int32 → Mem → Prop) (s0 : Int32) (M : Mem) : Prop := Q s0 M
set_option maxRecDepth 100000 in
set_option maxHeartbeats 4000000 in
theorem B_X0_openRoom_41 {g : GG} (Q : Int32 → Mem → Prop) (s0 : Int32) (M : Mem) (h : T_X0_openRoom_41 Q s0 M) : WP g 15 mX0_openRoom 41 [none, none, none, none] [.int s0] M 0 (oI Q noX) := by
  unfold T_X0_openRoom_41 at h
  exact R_retv (pc := 41) d_X0_openRoom_41 h
def T_X0_openRoom_24 (Q : Int32 → Mem → Prop) (v0 : Nat) (v2 : Nat) (s0 : Int32) (M : Mem) : Prop := (kd v2 = 9) ∧ (vp_in 3 (ln v2)) ∧ ∀ M3 : Mem, M3 = mset M v2 (Int32.toNatClampNeg 3) 1 → if s0 = 0 then (T_X0_openRoom_41 Q 0 M3) else ((kd v0 = 0) ∧ T_X0_serveWishes (fun y6 M5 => T_X0_openRoom_41 Q y6 M5)  v0 M3)
set_option maxRecDepth 100000 in
set_option maxHeartbeats 4000000 in
theorem B_X0_openRoom_24 {g : GG} (Q : Int32 → Mem → Prop) (v0 : Nat) (v2 : Nat) (s0 : Int32) (M : Mem) (h : T_X0_openRoom_24 Q v0 v2 s0 M) : WP g 15 mX0_openRoom 24 [some (.ref (g.1 + v0)), none, some (.ref (g.1 + v2)), none] [.int s0] M 0 (oI Q noX) := by
  unfold T_X0_openRoom_24 at h
  refine R_istore_n (pc := 24) (L' := [some (.ref (g.1 + v0)), none, some (.ref (g.1 + v2)), some (.int s0)]) d_X0_openRoom_24 rfl (by decide) rfl ?_
  refine R_aload_n (pc := 25) d_X0_openRoom_25 rfl rfl ?_
  refine R_iconst (pc := 26) (v := 3) d_X0_openRoom_26 (by decide) ?_
  refine R_iconst (pc := 27) (v := 1) d_X0_openRoom_27 (by decide) ?_
  obtain ⟨k1, h⟩ := h
  obtain ⟨k2, h⟩ := h
  refine R_iast (pc := 28) k1 k2 d_X0_openRoom_28 (N_M (fun M3 eM3 => ?_))
  have h := h M3 eM3
  refine R_iload_n (pc := 29) d_X0_openRoom_29 rfl rfl ?_
  refine R_if_eq (pc := 30) (tgt := 40) d_X0_openRoom_30 (by decide) (fun c => ?_) (fun c => ?_)
  · rw [if_pos c] at h
    refine R_iconst (pc := 40) (v := 0) d_X0_openRoom_40 (by decide) ?_
    exact WP_sub (B_X0_openRoom_41 Q 0 M3 h) (by decide) (ls_n (ls_n (ls_n (ls_n ls_0))))
  · rw [if_neg c] at h
    refine R_aload_n (pc := 33) d_X0_openRoom_33 rfl rfl ?_
    obtain ⟨k4, h⟩ := h
    refine R_callV (pc := 34) (As := []) (rest := []) (c_X0_serveWishes (g := g) v0 M3 _ h) rfl rfl cal_RX0_47 ins_X0_serveWishes sel_X0_serveWishes (cls_at k4 clsOK0) (by decide) (by decide) rfl rfl (Nat.le_of_ble_eq_true rfl) d_X0_openRoom_34 (k_I (fun y6 M5 h => ?_)) (fun _ _ h9 => False.elim h9)
    try dsimp only at h
    refine R_goto (pc := 37) (tgt := 41) d_X0_openRoom_37 (by decide) ?_
    exact WP_sub (B_X0_openRoom_41 Q y6 M5 h) (by decide) (ls_n (ls_n (ls_n (ls_n ls_0))))
def T_X0_openRoom (Q : Int32 → Mem → Prop) (v0 : Nat) (v1 : Int32) (M : Mem) : Prop := (kd v0 = 0) ∧ (kd (rf v0 0) = 3) ∧ (kd (rf (rf v0 0) 4) = 4) ∧ (kd (rf (rf (rf v0 0) 4) 0) = 10 ∨ kd (rf (rf (rf v0 0) 4) 0) = 11) ∧ (vp_in v1 (ln (rf (rf (rf v0 0) 4) 0))) ∧ ∀ r6 : Nat, r6 = rf (rf (rf (rf v0 0) 4) 0) (Int32.toNatClampNeg v1) → (kd r6 = 9) ∧ (vp_in 3 (ln r6)) ∧ if (M.1 r6 (Int32.toNatClampNeg 3)) = 0 then (T_X0_openRoom_24 Q v0 r6 1 M) else (T_X0_openRoom_24 Q v0 r6 0 M)
set_option maxRecDepth 100000 in
set_option maxHeartbeats 4000000 in
theorem c_X0_openRoom {g : GG} (v0 : Nat) (v1 : Int32) (M : Mem) (Q : Int32 → Mem → Prop) (h : T_X0_openRoom Q v0 v1 M) : CT g 15 mX0_openRoom [.ref (g.1 + v0), .int v1] M 0 (oI Q noX) := by
  refine CT_of (L := [some (.ref (g.1 + v0)), some (.int v1), none, none]) (by decide) rfl (Nat.le_of_ble_eq_true rfl) (ro_I rfl) rfl ?_
  unfold T_X0_openRoom at h
  refine R_aload_n (pc := 0) d_X0_openRoom_0 rfl rfl ?_
  obtain ⟨k1, h⟩ := h
  refine R_getR (pc := 1) fld_RX0_9 rfl rfl k1 d_X0_openRoom_1 ?_
  obtain ⟨k2, h⟩ := h
  refine R_getR (pc := 4) fld_RX0_44 rfl rfl k2 d_X0_openRoom_4 ?_
  obtain ⟨k3, h⟩ := h
  refine R_getR (pc := 7) fld_RX0_40 rfl rfl k3 d_X0_openRoom_7 ?_
  refine R_iload_n (pc := 10) d_X0_openRoom_10 rfl rfl ?_
  obtain ⟨k4, h⟩ := h
  obtain ⟨k5, h⟩ := h
  refine R_aald (pc := 11) k4 k5 d_X0_openRoom_11 ?_
  refine N_r (fun r6 er6 => ?_)
  have h := h r6 er6
  refine R_astore_n (pc := 12) (L' := [some (.ref (g.1 + v0)), some (.int v1), some (.ref (g.1 + r6)), none]) d_X0_openRoom_12 rfl (by decide) rfl ?_
  refine R_aload_n (pc := 13) d_X0_openRoom_13 rfl rfl ?_
  refine R_iconst (pc := 14) (v := 3) d_X0_openRoom_14 (by decide) ?_
  obtain ⟨k7, h⟩ := h
  obtain ⟨k8, h⟩ := h
  refine R_iald (pc := 15) k7 k8 d_X0_openRoom_15 ?_
  refine R_if_ne (pc := 16) (tgt := 23) d_X0_openRoom_16 (by decide) (fun c => ?_) (fun c => ?_)
  · rw [if_neg c] at h
    refine R_iconst (pc := 23) (v := 0) d_X0_openRoom_23 (by decide) ?_
    exact WP_sub (B_X0_openRoom_24 Q v0 r6 0 M h) (by decide) (ls_s (ls_n (ls_s (ls_n ls_0))))
  · rw [if_pos c] at h
    refine R_iconst (pc := 19) (v := 1) d_X0_openRoom_19 (by decide) ?_
    refine R_goto (pc := 20) (tgt := 24) d_X0_openRoom_20 (by decide) ?_
    exact WP_sub (B_X0_openRoom_24 Q v0 r6 1 M h) (by decide) (ls_s (ls_n (ls_s (ls_n ls_0))))
/-! X3_bookedWith -/
theorem d_X3_bookedWith_0 : decode mX3_bookedWith.2.1 0 = .ok (.lconst 0, 1) := by decide +kernel
theorem d_X3_bookedWith_1 : decode mX3_bookedWith.2.1 1 = .ok (.lstore_n 3, 1) := by decide +kernel
theorem d_X3_bookedWith_2 : decode mX3_bookedWith.2.1 2 = .ok (.iconst 0, 1) := by decide +kernel
theorem d_X3_bookedWith_3 : decode mX3_bookedWith.2.1 3 = .ok (.istore 5, 2) := by decide +kernel
theorem d_X3_bookedWith_5 : decode mX3_bookedWith.2.1 5 = .ok (.iload 5, 2) := by decide +kernel
theorem d_X3_bookedWith_7 : decode mX3_bookedWith.2.1 7 = .ok (.aload_n 0, 1) := by decide +kernel
theorem d_X3_bookedWith_8 : decode mX3_bookedWith.2.1 8 = .ok (.getfield 34, 3) := by decide +kernel
theorem d_X3_bookedWith_11 : decode mX3_bookedWith.2.1 11 = .ok (.getfield 74, 3) := by decide +kernel
theorem d_X3_bookedWith_14 : decode mX3_bookedWith.2.1 14 = .ok (.if_icmp .ge 43, 3) := by decide +kernel
theorem d_X3_bookedWith_17 : decode mX3_bookedWith.2.1 17 = .ok (.aload_n 0, 1) := by decide +kernel
theorem d_X3_bookedWith_18 : decode mX3_bookedWith.2.1 18 = .ok (.getfield 34, 3) := by decide +kernel
theorem d_X3_bookedWith_21 : decode mX3_bookedWith.2.1 21 = .ok (.getfield 77, 3) := by decide +kernel
theorem d_X3_bookedWith_24 : decode mX3_bookedWith.2.1 24 = .ok (.iload 5, 2) := by decide +kernel
theorem d_X3_bookedWith_26 : decode mX3_bookedWith.2.1 26 = .ok (.aaload, 1) := by decide +kernel
theorem d_X3_bookedWith_27 : decode mX3_bookedWith.2.1 27 = .ok (.astore 6, 2) := by decide +kernel
theorem d_X3_bookedWith_29 : decode mX3_bookedWith.2.1 29 = .ok (.aload 6, 2) := by decide +kernel
theorem d_X3_bookedWith_31 : decode mX3_bookedWith.2.1 31 = .ok (.iconst 5, 1) := by decide +kernel
theorem d_X3_bookedWith_32 : decode mX3_bookedWith.2.1 32 = .ok (.iaload, 1) := by decide +kernel
theorem d_X3_bookedWith_33 : decode mX3_bookedWith.2.1 33 = .ok (.ifCond .ne 18, 3) := by decide +kernel
theorem d_X3_bookedWith_36 : decode mX3_bookedWith.2.1 36 = .ok (.aload 6, 2) := by decide +kernel
theorem d_X3_bookedWith_38 : decode mX3_bookedWith.2.1 38 = .ok (.iload_n 1, 1) := by decide +kernel
theorem d_X3_bookedWith_39 : decode mX3_bookedWith.2.1 39 = .ok (.iaload, 1) := by decide +kernel
theorem d_X3_bookedWith_40 : decode mX3_bookedWith.2.1 40 = .ok (.iload_n 2, 1) := by decide +kernel
theorem d_X3_bookedWith_41 : decode mX3_bookedWith.2.1 41 = .ok (.if_icmp .ne 10, 3) := by decide +kernel
theorem d_X3_bookedWith_44 : decode mX3_bookedWith.2.1 44 = .ok (.lload_n 3, 1) := by decide +kernel
theorem d_X3_bookedWith_45 : decode mX3_bookedWith.2.1 45 = .ok (.lconst 1, 1) := by decide +kernel
theorem d_X3_bookedWith_46 : decode mX3_bookedWith.2.1 46 = .ok (.iload 5, 2) := by decide +kernel
theorem d_X3_bookedWith_48 : decode mX3_bookedWith.2.1 48 = .ok (.lshl, 1) := by decide +kernel
theorem d_X3_bookedWith_49 : decode mX3_bookedWith.2.1 49 = .ok (.lor, 1) := by decide +kernel
theorem d_X3_bookedWith_50 : decode mX3_bookedWith.2.1 50 = .ok (.lstore_n 3, 1) := by decide +kernel
theorem d_X3_bookedWith_51 : decode mX3_bookedWith.2.1 51 = .ok (.iinc 5 1, 3) := by decide +kernel
theorem d_X3_bookedWith_54 : decode mX3_bookedWith.2.1 54 = .ok (.goto (-49), 3) := by decide +kernel
theorem d_X3_bookedWith_57 : decode mX3_bookedWith.2.1 57 = .ok (.lload_n 3, 1) := by decide +kernel
theorem d_X3_bookedWith_58 : decode mX3_bookedWith.2.1 58 = .ok (.lreturn, 1) := by decide +kernel
def T_X3_bookedWith_51 (κ5 : Nat → Int32 → Int32 → Int64 → Int32 → Mem → Prop) (Q : Int64 → Mem → Prop) (v0 : Nat) (v1 : Int32) (v2 : Int32) (v3 : Int64) (v5 : Int32) (M : Mem) : Prop := ∀ x1 : Int32, x1 = v5 + 1 → κ5 v0 v1 v2 v3 x1 M
set_option maxRecDepth 100000 in
set_option maxHeartbeats 4000000 in
theorem B_X3_bookedWith_51 {g : GG} (Q : Int64 → Mem → Prop) (κ5 : Nat → Int32 → Int32 → Int64 → Int32 → Mem → Prop) (hκ5 : ∀ (v0 : Nat) (v1 : Int32) (v2 : Int32) (v3 : Int64) (v5 : Int32) (M : Mem), κ5 v0 v1 v2 v3 v5 M → WP g 9 mX3_bookedWith 5 [some (.ref (g.1 + v0)), some (.int v1), some (.int v2), some (.long v3), none, some (.int v5), none] [] M 0 (oL Q noX)) (v0 : Nat) (v1 : Int32) (v2 : Int32) (v3 : Int64) (v5 : Int32) (M : Mem) (h : T_X3_bookedWith_51 κ5 Q v0 v1 v2 v3 v5 M) : WP g 9 mX3_bookedWith 51 [some (.ref (g.1 + v0)), some (.int v1), some (.int v2), some (.long v3), none, some (.int v5), none] [] M 0 (oL Q noX) := by
  unfold T_X3_bookedWith_51 at h
  obtain ⟨x1, ex1⟩ : ∃ z : Int32, z = v5 + 1 := ⟨_, rfl⟩
  have h := h x1 ex1
  refine R_iinc (pc := 51) (v := x1) (L' := [some (.ref (g.1 + v0)), some (.int v1), some (.int v2), some (.long v3), none, some (.int x1), none]) d_X3_bookedWith_51 rfl (by rw [ex1]; rfl) (by decide) rfl ?_
  refine R_goto (pc := 54) (tgt := 5) d_X3_bookedWith_54 (by decide) ?_
  exact WP_sub (hκ5 v0 v1 v2 v3 x1 M h) (by decide) (ls_s (ls_s (ls_s (ls_s (ls_n (ls_s (ls_n ls_0)))))))
def T_X3_bookedWith_5 (Q : Int64 → Mem → Prop) : Nat → Nat → Int32 → Int32 → Int64 → Int32 → Mem → Prop
  | 0, _, _, _, _, _, _ => False
  | n + 1, v0, v1, v2, v3, v5, M => (kd v0 = 3) ∧ (kd (rf v0 5) = 4) ∧ if (M.1 (rf v0 5) 2) ≤ v5 then (Q v3 M) else ((kd (rf (rf v0 5) 0) = 10 ∨ kd (rf (rf v0 5) 0) = 11) ∧ (vp_in v5 (ln (rf (rf v0 5) 0))) ∧ ∀ r5 : Nat, r5 = rf (rf (rf v0 5) 0) (Int32.toNatClampNeg v5) → (kd r5 = 9) ∧ (vp_in 5 (ln r5)) ∧ if (M.1 r5 (Int32.toNatClampNeg 5)) = 0 then ((vp_in v1 (ln r5)) ∧ if (M.1 r5 (Int32.toNatClampNeg v1)) = v2 then (∀ l9 : Int64, l9 = v3 ||| (1 <<< (Int32.toInt64 v5 &&& 63)) → T_X3_bookedWith_51 (T_X3_bookedWith_5 Q n) Q v0 v1 v2 l9 v5 M) else (T_X3_bookedWith_51 (T_X3_bookedWith_5 Q n) Q v0 v1 v2 v3 v5 M)) else (T_X3_bookedWith_51 (T_X3_bookedWith_5 Q n) Q v0 v1 v2 v3 v5 M))
set_option maxRecDepth 100000 in
set_option maxHeartbeats 4000000 in
theorem B_X3_bookedWith_5 {g : GG} (Q : Int64 → Mem → Prop) : ∀ (n : Nat) (v0 : Nat) (v1 : Int32) (v2 : Int32) (v3 : Int64) (v5 : Int32) (M : Mem), T_X3_bookedWith_5 Q n v0 v1 v2 v3 v5 M → WP g 9 mX3_bookedWith 5 [some (.ref (g.1 + v0)), some (.int v1), some (.int v2), some (.long v3), none, some (.int v5), none] [] M 0 (oL Q noX) := by
  intro n
  induction n with
  | zero => intro v0 v1 v2 v3 v5 M h; exact h.elim
  | succ n hκ5 =>
    intro v0 v1 v2 v3 v5 M h
    unfold T_X3_bookedWith_5 at h
    refine R_iload (pc := 5) d_X3_bookedWith_5 rfl ?_
    refine R_aload_n (pc := 7) d_X3_bookedWith_7 rfl rfl ?_
    obtain ⟨k1, h⟩ := h
    refine R_getR (pc := 8) fld_RX3_34 rfl rfl k1 d_X3_bookedWith_8 ?_
    obtain ⟨k2, h⟩ := h
    refine R_getI (pc := 11) fld_RX3_74 rfl rfl k2 d_X3_bookedWith_11 ?_
    refine R_icmp_ge (pc := 14) (tgt := 57) d_X3_bookedWith_14 (by decide) (fun c => ?_) (fun c => ?_)
    · rw [if_pos c] at h
      refine R_lload_n (pc := 57) d_X3_bookedWith_57 rfl rfl ?_
      exact R_retv (pc := 58) d_X3_bookedWith_58 h
    · rw [if_neg c] at h
      refine R_aload_n (pc := 17) d_X3_bookedWith_17 rfl rfl ?_
      refine R_getR (pc := 18) fld_RX3_34 rfl rfl k1 d_X3_bookedWith_18 ?_
      refine R_getR (pc := 21) fld_RX3_77 rfl rfl k2 d_X3_bookedWith_21 ?_
      refine R_iload (pc := 24) d_X3_bookedWith_24 rfl ?_
      obtain ⟨k3, h⟩ := h
      obtain ⟨k4, h⟩ := h
      refine R_aald (pc := 26) k3 k4 d_X3_bookedWith_26 ?_
      refine N_r (fun r5 er5 => ?_)
      have h := h r5 er5
      refine R_astore (pc := 27) (L' := [some (.ref (g.1 + v0)), some (.int v1), some (.int v2), some (.long v3), none, some (.int v5), some (.ref (g.1 + r5))]) d_X3_bookedWith_27 (by decide) rfl ?_
      refine R_aload (pc := 29) d_X3_bookedWith_29 rfl ?_
      refine R_iconst (pc := 31) (v := 5) d_X3_bookedWith_31 (by decide) ?_
      obtain ⟨k6, h⟩ := h
      obtain ⟨k7, h⟩ := h
      refine R_iald (pc := 32) k6 k7 d_X3_bookedWith_32 ?_
      refine R_if_ne (pc := 33) (tgt := 51) d_X3_bookedWith_33 (by decide) (fun c => ?_) (fun c => ?_)
      · rw [if_neg c] at h
        exact WP_sub (B_X3_bookedWith_51 Q (T_X3_bookedWith_5 Q n) hκ5 v0 v1 v2 v3 v5 M h) (by decide) (ls_s (ls_s (ls_s (ls_s (ls_n (ls_s (ls_n ls_0)))))))
      · rw [if_pos c] at h
        refine R_aload (pc := 36) d_X3_bookedWith_36 rfl ?_
        refine R_iload_n (pc := 38) d_X3_bookedWith_38 rfl rfl ?_
        obtain ⟨k8, h⟩ := h
        refine R_iald (pc := 39) k6 k8 d_X3_bookedWith_39 ?_
        refine R_iload_n (pc := 40) d_X3_bookedWith_40 rfl rfl ?_
        refine R_icmp_ne (pc := 41) (tgt := 51) d_X3_bookedWith_41 (by decide) (fun c => ?_) (fun c => ?_)
        · rw [if_neg c] at h
          exact WP_sub (B_X3_bookedWith_51 Q (T_X3_bookedWith_5 Q n) hκ5 v0 v1 v2 v3 v5 M h) (by decide) (ls_s (ls_s (ls_s (ls_s (ls_n (ls_s (ls_n ls_0)))))))
        · rw [if_pos c] at h
          refine R_lload_n (pc := 44) d_X3_bookedWith_44 rfl rfl ?_
          refine R_lconst (pc := 45) (v := 1) d_X3_bookedWith_45 (by decide) ?_
          refine R_iload (pc := 46) d_X3_bookedWith_46 rfl ?_
          refine R_lshl (pc := 48) d_X3_bookedWith_48 ?_
          refine R_lor (pc := 49) d_X3_bookedWith_49 ?_
          refine N_l (fun l9 el9 => ?_)
          have h := h l9 el9
          refine R_lstore_n (pc := 50) (L' := [some (.ref (g.1 + v0)), some (.int v1), some (.int v2), some (.long l9), none, some (.int v5), some (.ref (g.1 + r5))]) d_X3_bookedWith_50 rfl (by decide) rfl ?_
          exact WP_sub (B_X3_bookedWith_51 Q (T_X3_bookedWith_5 Q n) hκ5 v0 v1 v2 l9 v5 M h) (by decide) (ls_s (ls_s (ls_s (ls_s (ls_n (ls_s (ls_n ls_0)))))))
def T_X3_bookedWith (Q : Int64 → Mem → Prop) (v0 : Nat) (v1 : Int32) (v2 : Int32) (M : Mem) : Prop := (∃ N : Nat, T_X3_bookedWith_5 Q N v0 v1 v2 0 0 M)
set_option maxRecDepth 100000 in
set_option maxHeartbeats 4000000 in
theorem c_X3_bookedWith {g : GG} (v0 : Nat) (v1 : Int32) (v2 : Int32) (M : Mem) (Q : Int64 → Mem → Prop) (h : T_X3_bookedWith Q v0 v1 v2 M) : CT g 9 mX3_bookedWith [.ref (g.1 + v0), .int v1, .int v2] M 0 (oL Q noX) := by
  refine CT_of (L := [some (.ref (g.1 + v0)), some (.int v1), some (.int v2), none, none, none, none]) (by decide) rfl (Nat.le_of_ble_eq_true rfl) (ro_L rfl) rfl ?_
  unfold T_X3_bookedWith at h
  refine R_lconst (pc := 0) (v := 0) d_X3_bookedWith_0 (by decide) ?_
  refine R_lstore_n (pc := 1) (L' := [some (.ref (g.1 + v0)), some (.int v1), some (.int v2), some (.long 0), none, none, none]) d_X3_bookedWith_1 rfl (by decide) rfl ?_
  refine R_iconst (pc := 2) (v := 0) d_X3_bookedWith_2 (by decide) ?_
  refine R_istore (pc := 3) (L' := [some (.ref (g.1 + v0)), some (.int v1), some (.int v2), some (.long 0), none, some (.int 0), none]) d_X3_bookedWith_3 (by decide) rfl ?_
  obtain ⟨N, h⟩ := h
  exact WP_sub (B_X3_bookedWith_5 Q N v0 v1 v2 0 0 M h) (by decide) (ls_s (ls_s (ls_s (ls_s (ls_n (ls_s (ls_n ls_0)))))))
/-! X3_earliest -/
theorem d_X3_earliest_0 : decode mX3_earliest.2.1 0 = .ok (.iconst (-1), 1) := by decide +kernel
theorem d_X3_earliest_1 : decode mX3_earliest.2.1 1 = .ok (.istore_n 3, 1) := by decide +kernel
theorem d_X3_earliest_2 : decode mX3_earliest.2.1 2 = .ok (.ldc 84, 2) := by decide +kernel
theorem d_X3_earliest_4 : decode mX3_earliest.2.1 4 = .ok (.istore 4, 2) := by decide +kernel
theorem d_X3_earliest_6 : decode mX3_earliest.2.1 6 = .ok (.iconst 0, 1) := by decide +kernel
theorem d_X3_earliest_7 : decode mX3_earliest.2.1 7 = .ok (.istore 5, 2) := by decide +kernel
theorem d_X3_earliest_9 : decode mX3_earliest.2.1 9 = .ok (.iload 5, 2) := by decide +kernel
theorem d_X3_earliest_11 : decode mX3_earliest.2.1 11 = .ok (.aload_n 0, 1) := by decide +kernel
theorem d_X3_earliest_12 : decode mX3_earliest.2.1 12 = .ok (.getfield 34, 3) := by decide +kernel
theorem d_X3_earliest_15 : decode mX3_earliest.2.1 15 = .ok (.getfield 74, 3) := by decide +kernel
theorem d_X3_earliest_18 : decode mX3_earliest.2.1 18 = .ok (.if_icmp .ge 67, 3) := by decide +kernel
theorem d_X3_earliest_21 : decode mX3_earliest.2.1 21 = .ok (.aload_n 0, 1) := by decide +kernel
theorem d_X3_earliest_22 : decode mX3_earliest.2.1 22 = .ok (.getfield 34, 3) := by decide +kernel
theorem d_X3_earliest_25 : decode mX3_earliest.2.1 25 = .ok (.getfield 77, 3) := by decide +kernel
theorem d_X3_earliest_28 : decode mX3_earliest.2.1 28 = .ok (.iload 5, 2) := by decide +kernel
theorem d_X3_earliest_30 : decode mX3_earliest.2.1 30 = .ok (.aaload, 1) := by decide +kernel
theorem d_X3_earliest_31 : decode mX3_earliest.2.1 31 = .ok (.astore 6, 2) := by decide +kernel
theorem d_X3_earliest_33 : decode mX3_earliest.2.1 33 = .ok (.aload 6, 2) := by decide +kernel
theorem d_X3_earliest_35 : decode mX3_earliest.2.1 35 = .ok (.iconst 2, 1) := by decide +kernel
theorem d_X3_earliest_36 : decode mX3_earliest.2.1 36 = .ok (.iaload, 1) := by decide +kernel
theorem d_X3_earliest_37 : decode mX3_earliest.2.1 37 = .ok (.iconst 4, 1) := by decide +kernel
theorem d_X3_earliest_38 : decode mX3_earliest.2.1 38 = .ok (.imul, 1) := by decide +kernel
theorem d_X3_earliest_39 : decode mX3_earliest.2.1 39 = .ok (.aload 6, 2) := by decide +kernel
theorem d_X3_earliest_41 : decode mX3_earliest.2.1 41 = .ok (.iconst 3, 1) := by decide +kernel
theorem d_X3_earliest_42 : decode mX3_earliest.2.1 42 = .ok (.iaload, 1) := by decide +kernel
theorem d_X3_earliest_43 : decode mX3_earliest.2.1 43 = .ok (.iadd, 1) := by decide +kernel
theorem d_X3_earliest_44 : decode mX3_earliest.2.1 44 = .ok (.bipush 6, 2) := by decide +kernel
theorem d_X3_earliest_46 : decode mX3_earliest.2.1 46 = .ok (.imul, 1) := by decide +kernel
theorem d_X3_earliest_47 : decode mX3_earliest.2.1 47 = .ok (.aload 6, 2) := by decide +kernel
theorem d_X3_earliest_49 : decode mX3_earliest.2.1 49 = .ok (.iconst 4, 1) := by decide +kernel
theorem d_X3_earliest_50 : decode mX3_earliest.2.1 50 = .ok (.iaload, 1) := by decide +kernel
theorem d_X3_earliest_51 : decode mX3_earliest.2.1 51 = .ok (.iadd, 1) := by decide +kernel
theorem d_X3_earliest_52 : decode mX3_earliest.2.1 52 = .ok (.istore 7, 2) := by decide +kernel
theorem d_X3_earliest_54 : decode mX3_earliest.2.1 54 = .ok (.lload_n 1, 1) := by decide +kernel
theorem d_X3_earliest_55 : decode mX3_earliest.2.1 55 = .ok (.iload 5, 2) := by decide +kernel
theorem d_X3_earliest_57 : decode mX3_earliest.2.1 57 = .ok (.lushr, 1) := by decide +kernel
theorem d_X3_earliest_58 : decode mX3_earliest.2.1 58 = .ok (.lconst 1, 1) := by decide +kernel
theorem d_X3_earliest_59 : decode mX3_earliest.2.1 59 = .ok (.land, 1) := by decide +kernel
theorem d_X3_earliest_60 : decode mX3_earliest.2.1 60 = .ok (.lconst 0, 1) := by decide +kernel
theorem d_X3_earliest_61 : decode mX3_earliest.2.1 61 = .ok (.lcmp, 1) := by decide +kernel
theorem d_X3_earliest_62 : decode mX3_earliest.2.1 62 = .ok (.ifCond .eq 17, 3) := by decide +kernel
theorem d_X3_earliest_65 : decode mX3_earliest.2.1 65 = .ok (.iload 7, 2) := by decide +kernel
theorem d_X3_earliest_67 : decode mX3_earliest.2.1 67 = .ok (.iload 4, 2) := by decide +kernel
theorem d_X3_earliest_69 : decode mX3_earliest.2.1 69 = .ok (.if_icmp .ge 10, 3) := by decide +kernel
theorem d_X3_earliest_72 : decode mX3_earliest.2.1 72 = .ok (.iload 7, 2) := by decide +kernel
theorem d_X3_earliest_74 : decode mX3_earliest.2.1 74 = .ok (.istore 4, 2) := by decide +kernel
theorem d_X3_earliest_76 : decode mX3_earliest.2.1 76 = .ok (.iload 5, 2) := by decide +kernel
theorem d_X3_earliest_78 : decode mX3_earliest.2.1 78 = .ok (.istore_n 3, 1) := by decide +kernel
theorem d_X3_earliest_79 : decode mX3_earliest.2.1 79 = .ok (.iinc 5 1, 3) := by decide +kernel
theorem d_X3_earliest_82 : decode mX3_earliest.2.1 82 = .ok (.goto (-73), 3) := by decide +kernel
theorem d_X3_earliest_85 : decode mX3_earliest.2.1 85 = .ok (.iload_n 3, 1) := by decide +kernel
theorem d_X3_earliest_86 : decode mX3_earliest.2.1 86 = .ok (.ireturn, 1) := by decide +kernel
def T_X3_earliest_79 (κ9 : Nat → Int64 → Int32 → Int32 → Int32 → Mem → Prop) (Q : Int32 → Mem → Prop) (v0 : Nat) (v1 : Int64) (v3 : Int32) (v4 : Int32) (v5 : Int32) (M : Mem) : Prop := ∀ x1 : Int32, x1 = v5 + 1 → κ9 v0 v1 v3 v4 x1 M
set_option maxRecDepth 100000 in
set_option maxHeartbeats 4000000 in
theorem B_X3_earliest_79 {g : GG} (Q : Int32 → Mem → Prop) (κ9 : Nat → Int64 → Int32 → Int32 → Int32 → Mem → Prop) (hκ9 : ∀ (v0 : Nat) (v1 : Int64) (v3 : Int32) (v4 : Int32) (v5 : Int32) (M : Mem), κ9 v0 v1 v3 v4 v5 M → WP g 9 mX3_earliest 9 [some (.ref (g.1 + v0)), some (.long v1), none, some (.int v3), some (.int v4), some (.int v5), none, none] [] M 0 (oI Q noX)) (v0 : Nat) (v1 : Int64) (v3 : Int32) (v4 : Int32) (v5 : Int32) (M : Mem) (h : T_X3_earliest_79 κ9 Q v0 v1 v3 v4 v5 M) : WP g 9 mX3_earliest 79 [some (.ref (g.1 + v0)), some (.long v1), none, some (.int v3), some (.int v4), some (.int v5), none, none] [] M 0 (oI Q noX) := by
  unfold T_X3_earliest_79 at h
  obtain ⟨x1, ex1⟩ : ∃ z : Int32, z = v5 + 1 := ⟨_, rfl⟩
  have h := h x1 ex1
  refine R_iinc (pc := 79) (v := x1) (L' := [some (.ref (g.1 + v0)), some (.long v1), none, some (.int v3), some (.int v4), some (.int x1), none, none]) d_X3_earliest_79 rfl (by rw [ex1]; rfl) (by decide) rfl ?_
  refine R_goto (pc := 82) (tgt := 9) d_X3_earliest_82 (by decide) ?_
  exact WP_sub (hκ9 v0 v1 v3 v4 x1 M h) (by decide) (ls_s (ls_s (ls_n (ls_s (ls_s (ls_s (ls_n (ls_n ls_0))))))))
def T_X3_earliest_9 (Q : Int32 → Mem → Prop) : Nat → Nat → Int64 → Int32 → Int32 → Int32 → Mem → Prop
  | 0, _, _, _, _, _, _ => False
  | n + 1, v0, v1, v3, v4, v5, M => (kd v0 = 3) ∧ (kd (rf v0 5) = 4) ∧ if (M.1 (rf v0 5) 2) ≤ v5 then (Q v3 M) else ((kd (rf (rf v0 5) 0) = 10 ∨ kd (rf (rf v0 5) 0) = 11) ∧ (vp_in v5 (ln (rf (rf v0 5) 0))) ∧ ∀ r5 : Nat, r5 = rf (rf (rf v0 5) 0) (Int32.toNatClampNeg v5) → (kd r5 = 9) ∧ (vp_in 2 (ln r5)) ∧ (vp_in 3 (ln r5)) ∧ (vp_in 4 (ln r5)) ∧ ∀ x10 : Int32, x10 = ((((M.1 r5 (Int32.toNatClampNeg 2)) * 4) + (M.1 r5 (Int32.toNatClampNeg 3))) * 6) + (M.1 r5 (Int32.toNatClampNeg 4)) → if (lg_cmp (((Int64.toUInt64 v1 >>> ((Int32.toInt64 v5).toUInt64 &&& Int64.toUInt64 63)).toInt64) &&& 1) 0) = 0 then (T_X3_earliest_79 (T_X3_earliest_9 Q n) Q v0 v1 v3 v4 v5 M) else (if v4 ≤ x10 then (T_X3_earliest_79 (T_X3_earliest_9 Q n) Q v0 v1 v3 v4 v5 M) else (T_X3_earliest_79 (T_X3_earliest_9 Q n) Q v0 v1 v5 x10 v5 M)))
set_option maxRecDepth 100000 in
set_option maxHeartbeats 4000000 in
theorem B_X3_earliest_9 {g : GG} (Q : Int32 → Mem → Prop) : ∀ (n : Nat) (v0 : Nat) (v1 : Int64) (v3 : Int32) (v4 : Int32) (v5 : Int32) (M : Mem), T_X3_earliest_9 Q n v0 v1 v3 v4 v5 M → WP g 9 mX3_earliest 9 [some (.ref (g.1 + v0)), some (.long v1), none, some (.int v3), some (.int v4), some (.int v5), none, none] [] M 0 (oI Q noX) := by
  intro n
  induction n with
  | zero => intro v0 v1 v3 v4 v5 M h; exact h.elim
  | succ n hκ9 =>
    intro v0 v1 v3 v4 v5 M h
    unfold T_X3_earliest_9 at h
    refine R_iload (pc := 9) d_X3_earliest_9 rfl ?_
    refine R_aload_n (pc := 11) d_X3_earliest_11 rfl rfl ?_
    obtain ⟨k1, h⟩ := h
    refine R_getR (pc := 12) fld_RX3_34 rfl rfl k1 d_X3_earliest_12 ?_
    obtain ⟨k2, h⟩ := h
    refine R_getI (pc := 15) fld_RX3_74 rfl rfl k2 d_X3_earliest_15 ?_
    refine R_icmp_ge (pc := 18) (tgt := 85) d_X3_earliest_18 (by decide) (fun c => ?_) (fun c => ?_)
    · rw [if_pos c] at h
      refine R_iload_n (pc := 85) d_X3_earliest_85 rfl rfl ?_
      exact R_retv (pc := 86) d_X3_earliest_86 h
    · rw [if_neg c] at h
      refine R_aload_n (pc := 21) d_X3_earliest_21 rfl rfl ?_
      refine R_getR (pc := 22) fld_RX3_34 rfl rfl k1 d_X3_earliest_22 ?_
      refine R_getR (pc := 25) fld_RX3_77 rfl rfl k2 d_X3_earliest_25 ?_
      refine R_iload (pc := 28) d_X3_earliest_28 rfl ?_
      obtain ⟨k3, h⟩ := h
      obtain ⟨k4, h⟩ := h
      refine R_aald (pc := 30) k3 k4 d_X3_earliest_30 ?_
      refine N_r (fun r5 er5 => ?_)
      have h := h r5 er5
      refine R_astore (pc := 31) (L' := [some (.ref (g.1 + v0)), some (.long v1), none, some (.int v3), some (.int v4), some (.int v5), some (.ref (g.1 + r5)), none]) d_X3_earliest_31 (by decide) rfl ?_
      refine R_aload (pc := 33) d_X3_earliest_33 rfl ?_
      refine R_iconst (pc := 35) (v := 2) d_X3_earliest_35 (by decide) ?_
      obtain ⟨k6, h⟩ := h
      obtain ⟨k7, h⟩ := h
      refine R_iald (pc := 36) k6 k7 d_X3_earliest_36 ?_
      refine R_iconst (pc := 37) (v := 4) d_X3_earliest_37 (by decide) ?_
      refine R_imul (pc := 38) d_X3_earliest_38 ?_
      refine R_aload (pc := 39) d_X3_earliest_39 rfl ?_
      refine R_iconst (pc := 41) (v := 3) d_X3_earliest_41 (by decide) ?_
      obtain ⟨k8, h⟩ := h
      refine R_iald (pc := 42) k6 k8 d_X3_earliest_42 ?_
      refine R_iadd (pc := 43) d_X3_earliest_43 ?_
      refine R_bipush (pc := 44) (v := 6) d_X3_earliest_44 (by decide) ?_
      refine R_imul (pc := 46) d_X3_earliest_46 ?_
      refine R_aload (pc := 47) d_X3_earliest_47 rfl ?_
      refine R_iconst (pc := 49) (v := 4) d_X3_earliest_49 (by decide) ?_
      obtain ⟨k9, h⟩ := h
      refine R_iald (pc := 50) k6 k9 d_X3_earliest_50 ?_
      refine R_iadd (pc := 51) d_X3_earliest_51 ?_
      refine N_i (fun x10 ex10 => ?_)
      have h := h x10 ex10
      refine R_istore (pc := 52) (L' := [some (.ref (g.1 + v0)), some (.long v1), none, some (.int v3), some (.int v4), some (.int v5), some (.ref (g.1 + r5)), some (.int x10)]) d_X3_earliest_52 (by decide) rfl ?_
      refine R_lload_n (pc := 54) d_X3_earliest_54 rfl rfl ?_
      refine R_iload (pc := 55) d_X3_earliest_55 rfl ?_
      refine R_lushr (pc := 57) d_X3_earliest_57 ?_
      refine R_lconst (pc := 58) (v := 1) d_X3_earliest_58 (by decide) ?_
      refine R_land (pc := 59) d_X3_earliest_59 ?_
      refine R_lconst (pc := 60) (v := 0) d_X3_earliest_60 (by decide) ?_
      refine R_lcmp (pc := 61) d_X3_earliest_61 ?_
      refine R_if_eq (pc := 62) (tgt := 79) d_X3_earliest_62 (by decide) (fun c => ?_) (fun c => ?_)
      · rw [if_pos c] at h
        exact WP_sub (B_X3_earliest_79 Q (T_X3_earliest_9 Q n) hκ9 v0 v1 v3 v4 v5 M h) (by decide) (ls_s (ls_s (ls_n (ls_s (ls_s (ls_s (ls_n (ls_n ls_0))))))))
      · rw [if_neg c] at h
        refine R_iload (pc := 65) d_X3_earliest_65 rfl ?_
        refine R_iload (pc := 67) d_X3_earliest_67 rfl ?_
        refine R_icmp_ge (pc := 69) (tgt := 79) d_X3_earliest_69 (by decide) (fun c => ?_) (fun c => ?_)
        · rw [if_pos c] at h
          exact WP_sub (B_X3_earliest_79 Q (T_X3_earliest_9 Q n) hκ9 v0 v1 v3 v4 v5 M h) (by decide) (ls_s (ls_s (ls_n (ls_s (ls_s (ls_s (ls_n (ls_n ls_0))))))))
        · rw [if_neg c] at h
          refine R_iload (pc := 72) d_X3_earliest_72 rfl ?_
          refine R_istore (pc := 74) (L' := [some (.ref (g.1 + v0)), some (.long v1), none, some (.int v3), some (.int x10), some (.int v5), some (.ref (g.1 + r5)), some (.int x10)]) d_X3_earliest_74 (by decide) rfl ?_
          refine R_iload (pc := 76) d_X3_earliest_76 rfl ?_
          refine R_istore_n (pc := 78) (L' := [some (.ref (g.1 + v0)), some (.long v1), none, some (.int v5), some (.int x10), some (.int v5), some (.ref (g.1 + r5)), some (.int x10)]) d_X3_earliest_78 rfl (by decide) rfl ?_
          exact WP_sub (B_X3_earliest_79 Q (T_X3_earliest_9 Q n) hκ9 v0 v1 v5 x10 v5 M h) (by decide) (ls_s (ls_s (ls_n (ls_s (ls_s (ls_s (ls_n (ls_n ls_0))))))))
def T_X3_earliest (Q : Int32 → Mem → Prop) (v0 : Nat) (v1 : Int64) (M : Mem) : Prop := (∃ N : Nat, T_X3_earliest_9 Q N v0 v1 (-1) 2147483647 0 M)
set_option maxRecDepth 100000 in
set_option maxHeartbeats 4000000 in
theorem c_X3_earliest {g : GG} (v0 : Nat) (v1 : Int64) (M : Mem) (Q : Int32 → Mem → Prop) (h : T_X3_earliest Q v0 v1 M) : CT g 9 mX3_earliest [.ref (g.1 + v0), .long v1] M 0 (oI Q noX) := by
  refine CT_of (L := [some (.ref (g.1 + v0)), some (.long v1), none, none, none, none, none, none]) (by decide) rfl (Nat.le_of_ble_eq_true rfl) (ro_I rfl) rfl ?_
  unfold T_X3_earliest at h
  refine R_iconst (pc := 0) (v := (-1)) d_X3_earliest_0 (by decide) ?_
  refine R_istore_n (pc := 1) (L' := [some (.ref (g.1 + v0)), some (.long v1), none, some (.int (-1)), none, none, none, none]) d_X3_earliest_1 rfl (by decide) rfl ?_
  refine R_ldc (pc := 2) rfl cst_RX3_84 d_X3_earliest_2 ?_
  refine R_istore (pc := 4) (L' := [some (.ref (g.1 + v0)), some (.long v1), none, some (.int (-1)), some (.int 2147483647), none, none, none]) d_X3_earliest_4 (by decide) rfl ?_
  refine R_iconst (pc := 6) (v := 0) d_X3_earliest_6 (by decide) ?_
  refine R_istore (pc := 7) (L' := [some (.ref (g.1 + v0)), some (.long v1), none, some (.int (-1)), some (.int 2147483647), some (.int 0), none, none]) d_X3_earliest_7 (by decide) rfl ?_
  obtain ⟨N, h⟩ := h
  exact WP_sub (B_X3_earliest_9 Q N v0 v1 (-1) 2147483647 0 M h) (by decide) (ls_s (ls_s (ls_n (ls_s (ls_s (ls_s (ls_n (ls_n ls_0))))))))
