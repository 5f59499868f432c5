/-! X6_faultOfBan -/
theorem d_X6_faultOfBan_0 : decode mX6_faultOfBan.2.1 0 = .ok (.iload_n 2, 1) := by decide +kernel
theorem d_X6_faultOfBan_1 : decode mX6_faultOfBan.2.1 1 = .ok (.aload_n 0, 1) := by decide +kernel
theorem d_X6_faultOfBan_2 : decode mX6_faultOfBan.2.1 2 = .ok (.getfield 10, 3) := by decide +kernel
theorem d_X6_faultOfBan_5 : decode mX6_faultOfBan.2.1 5 = .ok (.getfield 75, 3) := by decide +kernel
theorem d_X6_faultOfBan_8 : decode mX6_faultOfBan.2.1 8 = .ok (.getfield 94, 3) := by decide +kernel
theorem d_X6_faultOfBan_11 : decode mX6_faultOfBan.2.1 11 = .ok (.invokestatic 64, 3) := by decide +kernel
theorem d_X6_faultOfBan_14 : decode mX6_faultOfBan.2.1 14 = .ok (.ifCond .ne 5, 3) := by decide +kernel
theorem d_X6_faultOfBan_17 : decode mX6_faultOfBan.2.1 17 = .ok (.iconst 1, 1) := by decide +kernel
theorem d_X6_faultOfBan_18 : decode mX6_faultOfBan.2.1 18 = .ok (.ireturn, 1) := by decide +kernel
theorem d_X6_faultOfBan_19 : decode mX6_faultOfBan.2.1 19 = .ok (.iload_n 1, 1) := by decide +kernel
theorem d_X6_faultOfBan_20 : decode mX6_faultOfBan.2.1 20 = .ok (.iconst 3, 1) := by decide +kernel
theorem d_X6_faultOfBan_21 : decode mX6_faultOfBan.2.1 21 = .ok (.invokestatic 64, 3) := by decide +kernel
theorem d_X6_faultOfBan_24 : decode mX6_faultOfBan.2.1 24 = .ok (.ifCond .ne 5, 3) := by decide +kernel
theorem d_X6_faultOfBan_27 : decode mX6_faultOfBan.2.1 27 = .ok (.iconst 2, 1) := by decide +kernel
theorem d_X6_faultOfBan_28 : decode mX6_faultOfBan.2.1 28 = .ok (.ireturn, 1) := by decide +kernel
theorem d_X6_faultOfBan_29 : decode mX6_faultOfBan.2.1 29 = .ok (.iload_n 3, 1) := by decide +kernel
theorem d_X6_faultOfBan_30 : decode mX6_faultOfBan.2.1 30 = .ok (.aload_n 0, 1) := by decide +kernel
theorem d_X6_faultOfBan_31 : decode mX6_faultOfBan.2.1 31 = .ok (.iload_n 1, 1) := by decide +kernel
theorem d_X6_faultOfBan_32 : decode mX6_faultOfBan.2.1 32 = .ok (.invokevirtual 374, 3) := by decide +kernel
theorem d_X6_faultOfBan_35 : decode mX6_faultOfBan.2.1 35 = .ok (.invokestatic 64, 3) := by decide +kernel
theorem d_X6_faultOfBan_38 : decode mX6_faultOfBan.2.1 38 = .ok (.ifCond .ne 5, 3) := by decide +kernel
theorem d_X6_faultOfBan_41 : decode mX6_faultOfBan.2.1 41 = .ok (.iconst 1, 1) := by decide +kernel
theorem d_X6_faultOfBan_42 : decode mX6_faultOfBan.2.1 42 = .ok (.ireturn, 1) := by decide +kernel
theorem d_X6_faultOfBan_43 : decode mX6_faultOfBan.2.1 43 = .ok (.iload_n 1, 1) := by decide +kernel
theorem d_X6_faultOfBan_44 : decode mX6_faultOfBan.2.1 44 = .ok (.iconst 2, 1) := by decide +kernel
theorem d_X6_faultOfBan_45 : decode mX6_faultOfBan.2.1 45 = .ok (.if_icmp .ne 12, 3) := by decide +kernel
theorem d_X6_faultOfBan_48 : decode mX6_faultOfBan.2.1 48 = .ok (.iload_n 2, 1) := by decide +kernel
theorem d_X6_faultOfBan_49 : decode mX6_faultOfBan.2.1 49 = .ok (.iload_n 3, 1) := by decide +kernel
theorem d_X6_faultOfBan_50 : decode mX6_faultOfBan.2.1 50 = .ok (.if_icmp .ne 7, 3) := by decide +kernel
theorem d_X6_faultOfBan_53 : decode mX6_faultOfBan.2.1 53 = .ok (.iconst 1, 1) := by decide +kernel
theorem d_X6_faultOfBan_54 : decode mX6_faultOfBan.2.1 54 = .ok (.goto 4, 3) := by decide +kernel
theorem d_X6_faultOfBan_57 : decode mX6_faultOfBan.2.1 57 = .ok (.iconst 0, 1) := by decide +kernel
theorem d_X6_faultOfBan_58 : decode mX6_faultOfBan.2.1 58 = .ok (.istore 6, 2) := by decide +kernel
theorem d_X6_faultOfBan_60 : decode mX6_faultOfBan.2.1 60 = .ok (.iload 6, 2) := by decide +kernel
theorem d_X6_faultOfBan_62 : decode mX6_faultOfBan.2.1 62 = .ok (.ifCond .ne 13, 3) := by decide +kernel
theorem d_X6_faultOfBan_65 : decode mX6_faultOfBan.2.1 65 = .ok (.iload 4, 2) := by decide +kernel
theorem d_X6_faultOfBan_67 : decode mX6_faultOfBan.2.1 67 = .ok (.iload 5, 2) := by decide +kernel
theorem d_X6_faultOfBan_69 : decode mX6_faultOfBan.2.1 69 = .ok (.invokestatic 282, 3) := by decide +kernel
theorem d_X6_faultOfBan_72 : decode mX6_faultOfBan.2.1 72 = .ok (.ifCond .ne 5, 3) := by decide +kernel
theorem d_X6_faultOfBan_75 : decode mX6_faultOfBan.2.1 75 = .ok (.iconst 2, 1) := by decide +kernel
theorem d_X6_faultOfBan_76 : decode mX6_faultOfBan.2.1 76 = .ok (.ireturn, 1) := by decide +kernel
theorem d_X6_faultOfBan_77 : decode mX6_faultOfBan.2.1 77 = .ok (.aload_n 0, 1) := by decide +kernel
theorem d_X6_faultOfBan_78 : decode mX6_faultOfBan.2.1 78 = .ok (.getfield 10, 3) := by decide +kernel
theorem d_X6_faultOfBan_81 : decode mX6_faultOfBan.2.1 81 = .ok (.getfield 267, 3) := by decide +kernel
theorem d_X6_faultOfBan_84 : decode mX6_faultOfBan.2.1 84 = .ok (.invokevirtual 78, 3) := by decide +kernel
theorem d_X6_faultOfBan_87 : decode mX6_faultOfBan.2.1 87 = .ok (.ifCond .eq 7, 3) := by decide +kernel
theorem d_X6_faultOfBan_90 : decode mX6_faultOfBan.2.1 90 = .ok (.iconst 3, 1) := by decide +kernel
theorem d_X6_faultOfBan_91 : decode mX6_faultOfBan.2.1 91 = .ok (.goto 4, 3) := by decide +kernel
theorem d_X6_faultOfBan_94 : decode mX6_faultOfBan.2.1 94 = .ok (.iconst 0, 1) := by decide +kernel
theorem d_X6_faultOfBan_95 : decode mX6_faultOfBan.2.1 95 = .ok (.ireturn, 1) := by decide +kernel
def T_X6_faultOfBan_95 (Q : Int32 → Mem → Prop) (s0 : Int32) (M : Mem) : Prop := Q s0 M
set_option maxRecDepth 100000 in
set_option maxHeartbeats 4000000 in
theorem B_X6_faultOfBan_95 {g : GG} (Q : Int32 → Mem → Prop) (s0 : Int32) (M : Mem) (h : T_X6_faultOfBan_95 Q s0 M) : WP g 10 mX6_faultOfBan 95 [none, none, none, none, none, none, none] [.int s0] M 0 (oI Q noX) := by
  unfold T_X6_faultOfBan_95 at h
  exact R_retv (pc := 95) d_X6_faultOfBan_95 h
def T_X6_faultOfBan_75 (Q : Int32 → Mem → Prop) (M : Mem) : Prop := Q 2 M
set_option maxRecDepth 100000 in
set_option maxHeartbeats 4000000 in
theorem B_X6_faultOfBan_75 {g : GG} (Q : Int32 → Mem → Prop) (M : Mem) (h : T_X6_faultOfBan_75 Q  M) : WP g 10 mX6_faultOfBan 75 [none, none, none, none, none, none, none] [] M 0 (oI Q noX) := by
  unfold T_X6_faultOfBan_75 at h
  refine R_iconst (pc := 75) (v := 2) d_X6_faultOfBan_75 (by decide) ?_
  exact R_retv (pc := 76) d_X6_faultOfBan_76 h
def T_X6_faultOfBan_58 (Q : Int32 → Mem → Prop) (v0 : Nat) (v4 : Int32) (v5 : Int32) (s0 : Int32) (M : Mem) : Prop := if s0 = 0 then (T_X6_areDays (fun y2 M1 => if y2 = 0 then (T_X6_faultOfBan_75 Q M1) else ((kd v0 = 6) ∧ (kd (rf v0 0) = 3) ∧ (kd (rf (rf v0 0) 6) = 4) ∧ T_X4_isFull (fun y7 M6 => if y7 = 0 then (T_X6_faultOfBan_95 Q 0 M6) else (T_X6_faultOfBan_95 Q 3 M6))  (rf (rf v0 0) 6) M1))  v4 v5 M) else (T_X6_faultOfBan_75 Q M)
set_option maxRecDepth 100000 in
set_option maxHeartbeats 4000000 in
theorem B_X6_faultOfBan_58 {g : GG} (Q : Int32 → Mem → Prop) (v0 : Nat) (v4 : Int32) (v5 : Int32) (s0 : Int32) (M : Mem) (h : T_X6_faultOfBan_58 Q v0 v4 v5 s0 M) : WP g 10 mX6_faultOfBan 58 [some (.ref (g.1 + v0)), none, none, none, some (.int v4), some (.int v5), none] [.int s0] M 0 (oI Q noX) := by
  unfold T_X6_faultOfBan_58 at h
  refine R_istore (pc := 58) (L' := [some (.ref (g.1 + v0)), none, none, none, some (.int v4), some (.int v5), some (.int s0)]) d_X6_faultOfBan_58 (by decide) rfl ?_
  refine R_iload (pc := 60) d_X6_faultOfBan_60 rfl ?_
  refine R_if_ne (pc := 62) (tgt := 75) d_X6_faultOfBan_62 (by decide) (fun c => ?_) (fun c => ?_)
  · rw [if_neg c] at h
    exact WP_sub (B_X6_faultOfBan_75 Q M h) (by decide) (ls_n (ls_n (ls_n (ls_n (ls_n (ls_n (ls_n ls_0)))))))
  · rw [if_pos c] at h
    refine R_iload (pc := 65) d_X6_faultOfBan_65 rfl ?_
    refine R_iload (pc := 67) d_X6_faultOfBan_67 rfl ?_
    refine R_callS (pc := 69) (As := [.int v4, .int v5]) (rest := []) (c_X6_areDays (g := g) v4 v5 M _ h) rfl rfl cal_RX6_282 sta_X6_areDays (by decide) (by decide) rfl rfl (Nat.le_of_ble_eq_true rfl) d_X6_faultOfBan_69 (k_Z (fun y2 M1 h => ?_)) (fun _ _ h9 => False.elim h9)
    try dsimp only at h
    refine R_if_ne (pc := 72) (tgt := 77) d_X6_faultOfBan_72 (by decide) (fun c => ?_) (fun c => ?_)
    · rw [if_neg c] at h
      refine R_aload_n (pc := 77) d_X6_faultOfBan_77 rfl rfl ?_
      obtain ⟨k3, h⟩ := h
      refine R_getR (pc := 78) fld_RX6_10 rfl rfl k3 d_X6_faultOfBan_78 ?_
      obtain ⟨k4, h⟩ := h
      refine R_getR (pc := 81) fld_RX6_267 rfl rfl k4 d_X6_faultOfBan_81 ?_
      obtain ⟨k5, h⟩ := h
      refine R_callV (pc := 84) (As := []) (rest := []) (c_X4_isFull (g := g) (rf (rf v0 0) 6) M1 _ h) rfl rfl cal_RX6_78 ins_X4_isFull sel_X4_isFull (cls_at k5 clsOK4) (by decide) (by decide) rfl rfl (Nat.le_of_ble_eq_true rfl) d_X6_faultOfBan_84 (k_Z (fun y7 M6 h => ?_)) (fun _ _ h9 => False.elim h9)
      try dsimp only at h
      refine R_if_eq (pc := 87) (tgt := 94) d_X6_faultOfBan_87 (by decide) (fun c => ?_) (fun c => ?_)
      · rw [if_pos c] at h
        refine R_iconst (pc := 94) (v := 0) d_X6_faultOfBan_94 (by decide) ?_
        exact WP_sub (B_X6_faultOfBan_95 Q 0 M6 h) (by decide) (ls_n (ls_n (ls_n (ls_n (ls_n (ls_n (ls_n ls_0)))))))
      · rw [if_neg c] at h
        refine R_iconst (pc := 90) (v := 3) d_X6_faultOfBan_90 (by decide) ?_
        refine R_goto (pc := 91) (tgt := 95) d_X6_faultOfBan_91 (by decide) ?_
        exact WP_sub (B_X6_faultOfBan_95 Q 3 M6 h) (by decide) (ls_n (ls_n (ls_n (ls_n (ls_n (ls_n (ls_n ls_0)))))))
    · rw [if_pos c] at h
      exact WP_sub (B_X6_faultOfBan_75 Q M1 h) (by decide) (ls_n (ls_n (ls_n (ls_n (ls_n (ls_n (ls_n ls_0)))))))
def T_X6_faultOfBan_57 (Q : Int32 → Mem → Prop) (v0 : Nat) (v4 : Int32) (v5 : Int32) (M : Mem) : Prop := T_X6_faultOfBan_58 Q v0 v4 v5 0 M
set_option maxRecDepth 100000 in
set_option maxHeartbeats 4000000 in
theorem B_X6_faultOfBan_57 {g : GG} (Q : Int32 → Mem → Prop) (v0 : Nat) (v4 : Int32) (v5 : Int32) (M : Mem) (h : T_X6_faultOfBan_57 Q v0 v4 v5 M) : WP g 10 mX6_faultOfBan 57 [some (.ref (g.1 + v0)), none, none, none, some (.int v4), some (.int v5), none] [] M 0 (oI Q noX) := by
  unfold T_X6_faultOfBan_57 at h
  refine R_iconst (pc := 57) (v := 0) d_X6_faultOfBan_57 (by decide) ?_
  exact WP_sub (B_X6_faultOfBan_58 Q v0 v4 v5 0 M h) (by decide) (ls_s (ls_n (ls_n (ls_n (ls_s (ls_s (ls_n ls_0)))))))
def T_X6_faultOfBan (Q : Int32 → Mem → Prop) (v0 : Nat) (v1 : Int32) (v2 : Int32) (v3 : Int32) (v4 : Int32) (v5 : Int32) (M : Mem) : Prop := (kd v0 = 6) ∧ (kd (rf v0 0) = 3) ∧ (kd (rf (rf v0 0) 2) = 4) ∧ T_X6_isBelow (fun y5 M4 => if y5 = 0 then (Q 1 M4) else (T_X6_isBelow (fun y7 M6 => if y7 = 0 then (Q 2 M6) else (T_X6_othersFor (fun y9 M8 => T_X6_isBelow (fun y11 M10 => if y11 = 0 then (Q 1 M10) else (if v1 = (2 : Int32) then (if v2 = v3 then (T_X6_faultOfBan_58 Q v0 v4 v5 1 M10) else (T_X6_faultOfBan_57 Q v0 v4 v5 M10)) else (T_X6_faultOfBan_57 Q v0 v4 v5 M10)))  v3 y9 M8)  v0 v1 M6))  v1 3 M4))  v2 (M.1 (rf (rf v0 0) 2) 2) M
set_option maxRecDepth 100000 in
set_option maxHeartbeats 4000000 in
theorem c_X6_faultOfBan {g : GG} (v0 : Nat) (v1 : Int32) (v2 : Int32) (v3 : Int32) (v4 : Int32) (v5 : Int32) (M : Mem) (Q : Int32 → Mem → Prop) (h : T_X6_faultOfBan Q v0 v1 v2 v3 v4 v5 M) : CT g 10 mX6_faultOfBan [.ref (g.1 + v0), .int v1, .int v2, .int v3, .int v4, .int v5] M 0 (oI Q noX) := by
  refine CT_of (L := [some (.ref (g.1 + v0)), some (.int v1), some (.int v2), some (.int v3), some (.int v4), some (.int v5), none]) (by decide) rfl (Nat.le_of_ble_eq_true rfl) (ro_I rfl) rfl ?_
  unfold T_X6_faultOfBan at h
  refine R_iload_n (pc := 0) d_X6_faultOfBan_0 rfl rfl ?_
  refine R_aload_n (pc := 1) d_X6_faultOfBan_1 rfl rfl ?_
  obtain ⟨k1, h⟩ := h
  refine R_getR (pc := 2) fld_RX6_10 rfl rfl k1 d_X6_faultOfBan_2 ?_
  obtain ⟨k2, h⟩ := h
  refine R_getR (pc := 5) fld_RX6_75 rfl rfl k2 d_X6_faultOfBan_5 ?_
  obtain ⟨k3, h⟩ := h
  refine R_getI (pc := 8) fld_RX6_94 rfl rfl k3 d_X6_faultOfBan_8 ?_
  refine R_callS (pc := 11) (As := [.int v2, .int (M.1 (rf (rf v0 0) 2) 2)]) (rest := []) (c_X6_isBelow (g := g) v2 (M.1 (rf (rf v0 0) 2) 2) M _ h) rfl rfl cal_RX6_64 sta_X6_isBelow (by decide) (by decide) rfl rfl (Nat.le_of_ble_eq_true rfl) d_X6_faultOfBan_11 (k_Z (fun y5 M4 h => ?_)) (fun _ _ h9 => False.elim h9)
  try dsimp only at h
  refine R_if_ne (pc := 14) (tgt := 19) d_X6_faultOfBan_14 (by decide) (fun c => ?_) (fun c => ?_)
  · rw [if_neg c] at h
    refine R_iload_n (pc := 19) d_X6_faultOfBan_19 rfl rfl ?_
    refine R_iconst (pc := 20) (v := 3) d_X6_faultOfBan_20 (by decide) ?_
    refine R_callS (pc := 21) (As := [.int v1, .int 3]) (rest := []) (c_X6_isBelow (g := g) v1 3 M4 _ h) rfl rfl cal_RX6_64 sta_X6_isBelow (by decide) (by decide) rfl rfl (Nat.le_of_ble_eq_true rfl) d_X6_faultOfBan_21 (k_Z (fun y7 M6 h => ?_)) (fun _ _ h9 => False.elim h9)
    try dsimp only at h
    refine R_if_ne (pc := 24) (tgt := 29) d_X6_faultOfBan_24 (by decide) (fun c => ?_) (fun c => ?_)
    · rw [if_neg c] at h
      refine R_iload_n (pc := 29) d_X6_faultOfBan_29 rfl rfl ?_
      refine R_aload_n (pc := 30) d_X6_faultOfBan_30 rfl rfl ?_
      refine R_iload_n (pc := 31) d_X6_faultOfBan_31 rfl rfl ?_
      refine R_callV (pc := 32) (As := [.int v1]) (rest := [.int v3]) (c_X6_othersFor (g := g) v0 v1 M6 _ h) rfl rfl cal_RX6_374 ins_X6_othersFor sel_X6_othersFor (cls_at k1 clsOK6) (by decide) (by decide) rfl rfl (Nat.le_of_ble_eq_true rfl) d_X6_faultOfBan_32 (k_I (fun y9 M8 h => ?_)) (fun _ _ h9 => False.elim h9)
      try dsimp only at h
      refine R_callS (pc := 35) (As := [.int v3, .int y9]) (rest := []) (c_X6_isBelow (g := g) v3 y9 M8 _ h) rfl rfl cal_RX6_64 sta_X6_isBelow (by decide) (by decide) rfl rfl (Nat.le_of_ble_eq_true rfl) d_X6_faultOfBan_35 (k_Z (fun y11 M10 h => ?_)) (fun _ _ h9 => False.elim h9)
      try dsimp only at h
      refine R_if_ne (pc := 38) (tgt := 43) d_X6_faultOfBan_38 (by decide) (fun c => ?_) (fun c => ?_)
      · rw [if_neg c] at h
        refine R_iload_n (pc := 43) d_X6_faultOfBan_43 rfl rfl ?_
        refine R_iconst (pc := 44) (v := 2) d_X6_faultOfBan_44 (by decide) ?_
        refine R_icmp_ne (pc := 45) (tgt := 57) d_X6_faultOfBan_45 (by decide) (fun c => ?_) (fun c => ?_)
        · rw [if_neg c] at h
          exact WP_sub (B_X6_faultOfBan_57 Q v0 v4 v5 M10 h) (by decide) (ls_s (ls_n (ls_n (ls_n (ls_s (ls_s (ls_n ls_0)))))))
        · rw [if_pos c] at h
          refine R_iload_n (pc := 48) d_X6_faultOfBan_48 rfl rfl ?_
          refine R_iload_n (pc := 49) d_X6_faultOfBan_49 rfl rfl ?_
          refine R_icmp_ne (pc := 50) (tgt := 57) d_X6_faultOfBan_50 (by decide) (fun c => ?_) (fun c => ?_)
          · rw [if_neg c] at h
            exact WP_sub (B_X6_faultOfBan_57 Q v0 v4 v5 M10 h) (by decide) (ls_s (ls_n (ls_n (ls_n (ls_s (ls_s (ls_n ls_0)))))))
          · rw [if_pos c] at h
            refine R_iconst (pc := 53) (v := 1) d_X6_faultOfBan_53 (by decide) ?_
            refine R_goto (pc := 54) (tgt := 58) d_X6_faultOfBan_54 (by decide) ?_
            exact WP_sub (B_X6_faultOfBan_58 Q v0 v4 v5 1 M10 h) (by decide) (ls_s (ls_n (ls_n (ls_n (ls_s (ls_s (ls_n ls_0)))))))
      · rw [if_pos c] at h
        refine R_iconst (pc := 41) (v := 1) d_X6_faultOfBan_41 (by decide) ?_
        exact R_retv (pc := 42) d_X6_faultOfBan_42 h
    · rw [if_pos c] at h
      refine R_iconst (pc := 27) (v := 2) d_X6_faultOfBan_27 (by decide) ?_
      exact R_retv (pc := 28) d_X6_faultOfBan_28 h
  · rw [if_pos c] at h
    refine R_iconst (pc := 17) (v := 1) d_X6_faultOfBan_17 (by decide) ?_
    exact R_retv (pc := 18) d_X6_faultOfBan_18 h
/-! X6_ban -/
theorem d_X6_ban_0 : decode mX6_ban.2.1 0 = .ok (.aload_n 0, 1) := by decide +kernel
theorem d_X6_ban_1 : decode mX6_ban.2.1 1 = .ok (.iload_n 1, 1) := by decide +kernel
theorem d_X6_ban_2 : decode mX6_ban.2.1 2 = .ok (.iload_n 2, 1) := by decide +kernel
theorem d_X6_ban_3 : decode mX6_ban.2.1 3 = .ok (.iload_n 3, 1) := by decide +kernel
theorem d_X6_ban_4 : decode mX6_ban.2.1 4 = .ok (.iload 4, 2) := by decide +kernel
theorem d_X6_ban_6 : decode mX6_ban.2.1 6 = .ok (.iload 5, 2) := by decide +kernel
theorem d_X6_ban_8 : decode mX6_ban.2.1 8 = .ok (.invokevirtual 263, 3) := by decide +kernel
theorem d_X6_ban_11 : decode mX6_ban.2.1 11 = .ok (.invokestatic 136, 3) := by decide +kernel
theorem d_X6_ban_14 : decode mX6_ban.2.1 14 = .ok (.aload_n 0, 1) := by decide +kernel
theorem d_X6_ban_15 : decode mX6_ban.2.1 15 = .ok (.getfield 26, 3) := by decide +kernel
theorem d_X6_ban_18 : decode mX6_ban.2.1 18 = .ok (.aload_n 0, 1) := by decide +kernel
theorem d_X6_ban_19 : decode mX6_ban.2.1 19 = .ok (.getfield 10, 3) := by decide +kernel
theorem d_X6_ban_22 : decode mX6_ban.2.1 22 = .ok (.invokevirtual 87, 3) := by decide +kernel
theorem d_X6_ban_25 : decode mX6_ban.2.1 25 = .ok (.aload_n 0, 1) := by decide +kernel
theorem d_X6_ban_26 : decode mX6_ban.2.1 26 = .ok (.getfield 10, 3) := by decide +kernel
theorem d_X6_ban_29 : decode mX6_ban.2.1 29 = .ok (.getfield 267, 3) := by decide +kernel
theorem d_X6_ban_32 : decode mX6_ban.2.1 32 = .ok (.invokevirtual 90, 3) := by decide +kernel
theorem d_X6_ban_35 : decode mX6_ban.2.1 35 = .ok (.astore 6, 2) := by decide +kernel
theorem d_X6_ban_37 : decode mX6_ban.2.1 37 = .ok (.aload 6, 2) := by decide +kernel
theorem d_X6_ban_39 : decode mX6_ban.2.1 39 = .ok (.iconst 0, 1) := by decide +kernel
theorem d_X6_ban_40 : decode mX6_ban.2.1 40 = .ok (.iload_n 1, 1) := by decide +kernel
theorem d_X6_ban_41 : decode mX6_ban.2.1 41 = .ok (.iastore, 1) := by decide +kernel
theorem d_X6_ban_42 : decode mX6_ban.2.1 42 = .ok (.aload 6, 2) := by decide +kernel
theorem d_X6_ban_44 : decode mX6_ban.2.1 44 = .ok (.iconst 1, 1) := by decide +kernel
theorem d_X6_ban_45 : decode mX6_ban.2.1 45 = .ok (.iload_n 2, 1) := by decide +kernel
theorem d_X6_ban_46 : decode mX6_ban.2.1 46 = .ok (.iastore, 1) := by decide +kernel
theorem d_X6_ban_47 : decode mX6_ban.2.1 47 = .ok (.aload 6, 2) := by decide +kernel
theorem d_X6_ban_49 : decode mX6_ban.2.1 49 = .ok (.iconst 2, 1) := by decide +kernel
theorem d_X6_ban_50 : decode mX6_ban.2.1 50 = .ok (.iload_n 3, 1) := by decide +kernel
theorem d_X6_ban_51 : decode mX6_ban.2.1 51 = .ok (.iastore, 1) := by decide +kernel
theorem d_X6_ban_52 : decode mX6_ban.2.1 52 = .ok (.aload 6, 2) := by decide +kernel
theorem d_X6_ban_54 : decode mX6_ban.2.1 54 = .ok (.iconst 3, 1) := by decide +kernel
theorem d_X6_ban_55 : decode mX6_ban.2.1 55 = .ok (.iload 4, 2) := by decide +kernel
theorem d_X6_ban_57 : decode mX6_ban.2.1 57 = .ok (.iastore, 1) := by decide +kernel
theorem d_X6_ban_58 : decode mX6_ban.2.1 58 = .ok (.aload 6, 2) := by decide +kernel
theorem d_X6_ban_60 : decode mX6_ban.2.1 60 = .ok (.iconst 4, 1) := by decide +kernel
theorem d_X6_ban_61 : decode mX6_ban.2.1 61 = .ok (.iload 5, 2) := by decide +kernel
theorem d_X6_ban_63 : decode mX6_ban.2.1 63 = .ok (.iastore, 1) := by decide +kernel
theorem d_X6_ban_64 : decode mX6_ban.2.1 64 = .ok (.iload_n 1, 1) := by decide +kernel
theorem d_X6_ban_65 : decode mX6_ban.2.1 65 = .ok (.iconst 2, 1) := by decide +kernel
theorem d_X6_ban_66 : decode mX6_ban.2.1 66 = .ok (.if_icmp .ne 15, 3) := by decide +kernel
theorem d_X6_ban_69 : decode mX6_ban.2.1 69 = .ok (.aload_n 0, 1) := by decide +kernel
theorem d_X6_ban_70 : decode mX6_ban.2.1 70 = .ok (.getfield 44, 3) := by decide +kernel
theorem d_X6_ban_73 : decode mX6_ban.2.1 73 = .ok (.aload 6, 2) := by decide +kernel
theorem d_X6_ban_75 : decode mX6_ban.2.1 75 = .ok (.invokevirtual 270, 3) := by decide +kernel
theorem d_X6_ban_78 : decode mX6_ban.2.1 78 = .ok (.goto 12, 3) := by decide +kernel
theorem d_X6_ban_81 : decode mX6_ban.2.1 81 = .ok (.aload_n 0, 1) := by decide +kernel
theorem d_X6_ban_82 : decode mX6_ban.2.1 82 = .ok (.getfield 44, 3) := by decide +kernel
theorem d_X6_ban_85 : decode mX6_ban.2.1 85 = .ok (.aload 6, 2) := by decide +kernel
theorem d_X6_ban_87 : decode mX6_ban.2.1 87 = .ok (.invokevirtual 274, 3) := by decide +kernel
theorem d_X6_ban_90 : decode mX6_ban.2.1 90 = .ok (.ireturn, 1) := by decide +kernel
def T_X6_ban_90 (Q : Int32 → Mem → Prop) (X : String → Mem → Prop) (s0 : Int32) (M : Mem) : Prop := Q s0 M
set_option maxRecDepth 100000 in
set_option maxHeartbeats 4000000 in
theorem B_X6_ban_90 {g : GG} (Q : Int32 → Mem → Prop) (X : String → Mem → Prop) (s0 : Int32) (M : Mem) (h : T_X6_ban_90 Q X s0 M) : WP g 13 mX6_ban 90 [none, none, none, none, none, none, none] [.int s0] M 0 (oI Q X) := by
  unfold T_X6_ban_90 at h
  exact R_retv (pc := 90) d_X6_ban_90 h
def T_X6_ban (Q : Int32 → Mem → Prop) (X : String → Mem → Prop) (v0 : Nat) (v1 : Int32) (v2 : Int32) (v3 : Int32) (v4 : Int32) (v5 : Int32) (M : Mem) : Prop := (kd v0 = 6) ∧ T_X6_faultOfBan (fun y3 M2 => T_X6_throwFor (fun M4 => (kd (rf v0 3) = 1) ∧ T_X1_keep (fun M6 => (kd (rf v0 0) = 3) ∧ (kd (rf (rf v0 0) 6) = 4) ∧ T_X4_addRow (fun y10 M9 => (kd y10 = 9) ∧ (vp_in 0 (ln y10)) ∧ ∀ M13 : Mem, M13 = mset M9 y10 (Int32.toNatClampNeg 0) v1 → (vp_in 1 (ln y10)) ∧ ∀ M15 : Mem, M15 = mset M13 y10 (Int32.toNatClampNeg 1) v2 → (vp_in 2 (ln y10)) ∧ ∀ M17 : Mem, M17 = mset M15 y10 (Int32.toNatClampNeg 2) v3 → (vp_in 3 (ln y10)) ∧ ∀ M19 : Mem, M19 = mset M17 y10 (Int32.toNatClampNeg 3) v4 → (vp_in 4 (ln y10)) ∧ ∀ M21 : Mem, M21 = mset M19 y10 (Int32.toNatClampNeg 4) v5 → if v1 = (2 : Int32) then ((kd (rf v0 5) = 0) ∧ T_X0_partPair (fun y27 M26 => T_X6_ban_90 Q X y27 M26)  (rf v0 5) y10 M21) else ((kd (rf v0 5) = 0) ∧ T_X0_dropBanned (fun y24 M23 => T_X6_ban_90 Q X y24 M23)  (rf v0 5) y10 M21))  (rf (rf v0 0) 6) M6)  (rf v0 3) (rf v0 0) M4) X y3 M2)  v0 v1 v2 v3 v4 v5 M
set_option maxRecDepth 100000 in
set_option maxHeartbeats 4000000 in
theorem c_X6_ban {g : GG} (v0 : Nat) (v1 : Int32) (v2 : Int32) (v3 : Int32) (v4 : Int32) (v5 : Int32) (M : Mem) (Q : Int32 → Mem → Prop) (X : String → Mem → Prop) (h : T_X6_ban Q X v0 v1 v2 v3 v4 v5 M) : CT g 13 mX6_ban [.ref (g.1 + v0), .int v1, .int v2, .int v3, .int v4, .int v5] M 1 (oI Q X) := by
  refine CT_of (L := [some (.ref (g.1 + v0)), some (.int v1), some (.int v2), some (.int v3), some (.int v4), some (.int v5), none]) (by decide) rfl (Nat.le_of_ble_eq_true rfl) (ro_I rfl) rfl ?_
  unfold T_X6_ban at h
  refine R_aload_n (pc := 0) d_X6_ban_0 rfl rfl ?_
  refine R_iload_n (pc := 1) d_X6_ban_1 rfl rfl ?_
  refine R_iload_n (pc := 2) d_X6_ban_2 rfl rfl ?_
  refine R_iload_n (pc := 3) d_X6_ban_3 rfl rfl ?_
  refine R_iload (pc := 4) d_X6_ban_4 rfl ?_
  refine R_iload (pc := 6) d_X6_ban_6 rfl ?_
  obtain ⟨k1, h⟩ := h
  refine R_callV (pc := 8) (As := [.int v1, .int v2, .int v3, .int v4, .int v5]) (rest := []) (c_X6_faultOfBan (g := g) v0 v1 v2 v3 v4 v5 M _ h) rfl rfl cal_RX6_263 ins_X6_faultOfBan sel_X6_faultOfBan (cls_at k1 clsOK6) (by decide) (by decide) rfl rfl (Nat.le_of_ble_eq_true rfl) d_X6_ban_8 (k_I (fun y3 M2 h => ?_)) (fun _ _ h9 => False.elim h9)
  try dsimp only at h
  refine R_callS (pc := 11) (As := [.int y3]) (rest := []) (c_X6_throwFor (g := g) y3 M2 _ _ h) rfl rfl cal_RX6_136 sta_X6_throwFor (by decide) (by decide) rfl rfl (Nat.le_of_ble_eq_true rfl) d_X6_ban_11 (k_V (fun M4 h => ?_)) (fun _ _ h9 => h9)
  try dsimp only at h
  refine R_aload_n (pc := 14) d_X6_ban_14 rfl rfl ?_
  refine R_getR (pc := 15) fld_RX6_26 rfl rfl k1 d_X6_ban_15 ?_
  refine R_aload_n (pc := 18) d_X6_ban_18 rfl rfl ?_
  refine R_getR (pc := 19) fld_RX6_10 rfl rfl k1 d_X6_ban_19 ?_
  obtain ⟨k5, h⟩ := h
  refine R_callV (pc := 22) (As := [.ref (g.1 + (rf v0 0))]) (rest := []) (c_X1_keep (g := g) (rf v0 3) (rf v0 0) M4 _ h) rfl rfl cal_RX6_87 ins_X1_keep sel_X1_keep (cls_at k5 clsOK1) (by decide) (by decide) rfl rfl (Nat.le_of_ble_eq_true rfl) d_X6_ban_22 (k_V (fun M6 h => ?_)) (fun _ _ h9 => False.elim h9)
  try dsimp only at h
  refine R_aload_n (pc := 25) d_X6_ban_25 rfl rfl ?_
  refine R_getR (pc := 26) fld_RX6_10 rfl rfl k1 d_X6_ban_26 ?_
  obtain ⟨k7, h⟩ := h
  refine R_getR (pc := 29) fld_RX6_267 rfl rfl k7 d_X6_ban_29 ?_
  obtain ⟨k8, h⟩ := h
  refine R_callV (pc := 32) (As := []) (rest := []) (c_X4_addRow (g := g) (rf (rf v0 0) 6) M6 _ h) rfl rfl cal_RX6_90 ins_X4_addRow sel_X4_addRow (cls_at k8 clsOK4) (by decide) (by decide) rfl rfl (Nat.le_of_ble_eq_true rfl) d_X6_ban_32 (k_R (fun y10 M9 h => ?_)) (fun _ _ h9 => False.elim h9)
  try dsimp only at h
  refine R_astore (pc := 35) (L' := [some (.ref (g.1 + v0)), some (.int v1), some (.int v2), some (.int v3), some (.int v4), some (.int v5), some (.ref (g.1 + y10))]) d_X6_ban_35 (by decide) rfl ?_
  refine R_aload (pc := 37) d_X6_ban_37 rfl ?_
  refine R_iconst (pc := 39) (v := 0) d_X6_ban_39 (by decide) ?_
  refine R_iload_n (pc := 40) d_X6_ban_40 rfl rfl ?_
  obtain ⟨k11, h⟩ := h
  obtain ⟨k12, h⟩ := h
  refine R_iast (pc := 41) k11 k12 d_X6_ban_41 (N_M (fun M13 eM13 => ?_))
  have h := h M13 eM13
  refine R_aload (pc := 42) d_X6_ban_42 rfl ?_
  refine R_iconst (pc := 44) (v := 1) d_X6_ban_44 (by decide) ?_
  refine R_iload_n (pc := 45) d_X6_ban_45 rfl rfl ?_
  obtain ⟨k14, h⟩ := h
  refine R_iast (pc := 46) k11 k14 d_X6_ban_46 (N_M (fun M15 eM15 => ?_))
  have h := h M15 eM15
  refine R_aload (pc := 47) d_X6_ban_47 rfl ?_
  refine R_iconst (pc := 49) (v := 2) d_X6_ban_49 (by decide) ?_
  refine R_iload_n (pc := 50) d_X6_ban_50 rfl rfl ?_
  obtain ⟨k16, h⟩ := h
  refine R_iast (pc := 51) k11 k16 d_X6_ban_51 (N_M (fun M17 eM17 => ?_))
  have h := h M17 eM17
  refine R_aload (pc := 52) d_X6_ban_52 rfl ?_
  refine R_iconst (pc := 54) (v := 3) d_X6_ban_54 (by decide) ?_
  refine R_iload (pc := 55) d_X6_ban_55 rfl ?_
  obtain ⟨k18, h⟩ := h
  refine R_iast (pc := 57) k11 k18 d_X6_ban_57 (N_M (fun M19 eM19 => ?_))
  have h := h M19 eM19
  refine R_aload (pc := 58) d_X6_ban_58 rfl ?_
  refine R_iconst (pc := 60) (v := 4) d_X6_ban_60 (by decide) ?_
  refine R_iload (pc := 61) d_X6_ban_61 rfl ?_
  obtain ⟨k20, h⟩ := h
  refine R_iast (pc := 63) k11 k20 d_X6_ban_63 (N_M (fun M21 eM21 => ?_))
  have h := h M21 eM21
  refine R_iload_n (pc := 64) d_X6_ban_64 rfl rfl ?_
  refine R_iconst (pc := 65) (v := 2) d_X6_ban_65 (by decide) ?_
  refine R_icmp_ne (pc := 66) (tgt := 81) d_X6_ban_66 (by decide) (fun c => ?_) (fun c => ?_)
  · rw [if_neg c] at h
    refine R_aload_n (pc := 81) d_X6_ban_81 rfl rfl ?_
    refine R_getR (pc := 82) fld_RX6_44 rfl rfl k1 d_X6_ban_82 ?_
    refine R_aload (pc := 85) d_X6_ban_85 rfl ?_
    obtain ⟨k22, h⟩ := h
    refine R_callV (pc := 87) (As := [.ref (g.1 + y10)]) (rest := []) (c_X0_dropBanned (g := g) (rf v0 5) y10 M21 _ h) rfl rfl cal_RX6_274 ins_X0_dropBanned sel_X0_dropBanned (cls_at k22 clsOK0) (by decide) (by decide) rfl rfl (Nat.le_of_ble_eq_true rfl) d_X6_ban_87 (k_I (fun y24 M23 h => ?_)) (fun _ _ h9 => False.elim h9)
    try dsimp only at h
    exact WP_sub (B_X6_ban_90 Q X y24 M23 h) (by decide) (ls_n (ls_n (ls_n (ls_n (ls_n (ls_n (ls_n ls_0)))))))
  · rw [if_pos c] at h
    refine R_aload_n (pc := 69) d_X6_ban_69 rfl rfl ?_
    refine R_getR (pc := 70) fld_RX6_44 rfl rfl k1 d_X6_ban_70 ?_
    refine R_aload (pc := 73) d_X6_ban_73 rfl ?_
    obtain ⟨k25, h⟩ := h
    refine R_callV (pc := 75) (As := [.ref (g.1 + y10)]) (rest := []) (c_X0_partPair (g := g) (rf v0 5) y10 M21 _ h) rfl rfl cal_RX6_270 ins_X0_partPair sel_X0_partPair (cls_at k25 clsOK0) (by decide) (by decide) rfl rfl (Nat.le_of_ble_eq_true rfl) d_X6_ban_75 (k_I (fun y27 M26 h => ?_)) (fun _ _ h9 => False.elim h9)
    try dsimp only at h
    refine R_goto (pc := 78) (tgt := 90) d_X6_ban_78 (by decide) ?_
    exact WP_sub (B_X6_ban_90 Q X y27 M26 h) (by decide) (ls_n (ls_n (ls_n (ls_n (ls_n (ls_n (ls_n ls_0)))))))
/-! X6_lift -/
theorem d_X6_lift_0 : decode mX6_lift.2.1 0 = .ok (.iload_n 1, 1) := by decide +kernel
theorem d_X6_lift_1 : decode mX6_lift.2.1 1 = .ok (.aload_n 0, 1) := by decide +kernel
theorem d_X6_lift_2 : decode mX6_lift.2.1 2 = .ok (.getfield 10, 3) := by decide +kernel
theorem d_X6_lift_5 : decode mX6_lift.2.1 5 = .ok (.getfield 267, 3) := by decide +kernel
theorem d_X6_lift_8 : decode mX6_lift.2.1 8 = .ok (.getfield 94, 3) := by decide +kernel
theorem d_X6_lift_11 : decode mX6_lift.2.1 11 = .ok (.invokestatic 64, 3) := by decide +kernel
theorem d_X6_lift_14 : decode mX6_lift.2.1 14 = .ok (.ifCond .ne 14, 3) := by decide +kernel
theorem d_X6_lift_17 : decode mX6_lift.2.1 17 = .ok (.new 112, 3) := by decide +kernel
theorem d_X6_lift_20 : decode mX6_lift.2.1 20 = .ok (.dup, 1) := by decide +kernel
theorem d_X6_lift_21 : decode mX6_lift.2.1 21 = .ok (.ldc_w 277, 3) := by decide +kernel
theorem d_X6_lift_24 : decode mX6_lift.2.1 24 = .ok (.invokespecial 116, 3) := by decide +kernel
theorem d_X6_lift_27 : decode mX6_lift.2.1 27 = .ok (.athrow, 1) := by decide +kernel
theorem d_X6_lift_28 : decode mX6_lift.2.1 28 = .ok (.aload_n 0, 1) := by decide +kernel
theorem d_X6_lift_29 : decode mX6_lift.2.1 29 = .ok (.getfield 26, 3) := by decide +kernel
theorem d_X6_lift_32 : decode mX6_lift.2.1 32 = .ok (.aload_n 0, 1) := by decide +kernel
theorem d_X6_lift_33 : decode mX6_lift.2.1 33 = .ok (.getfield 10, 3) := by decide +kernel
theorem d_X6_lift_36 : decode mX6_lift.2.1 36 = .ok (.invokevirtual 87, 3) := by decide +kernel
theorem d_X6_lift_39 : decode mX6_lift.2.1 39 = .ok (.aload_n 0, 1) := by decide +kernel
theorem d_X6_lift_40 : decode mX6_lift.2.1 40 = .ok (.getfield 10, 3) := by decide +kernel
theorem d_X6_lift_43 : decode mX6_lift.2.1 43 = .ok (.getfield 267, 3) := by decide +kernel
theorem d_X6_lift_46 : decode mX6_lift.2.1 46 = .ok (.iload_n 1, 1) := by decide +kernel
theorem d_X6_lift_47 : decode mX6_lift.2.1 47 = .ok (.invokevirtual 279, 3) := by decide +kernel
theorem d_X6_lift_50 : decode mX6_lift.2.1 50 = .ok (.aload_n 0, 1) := by decide +kernel
theorem d_X6_lift_51 : decode mX6_lift.2.1 51 = .ok (.getfield 44, 3) := by decide +kernel
theorem d_X6_lift_54 : decode mX6_lift.2.1 54 = .ok (.invokevirtual 210, 3) := by decide +kernel
theorem d_X6_lift_57 : decode mX6_lift.2.1 57 = .ok (.ireturn, 1) := by decide +kernel
def T_X6_lift (Q : Int32 → Mem → Prop) (X : String → Mem → Prop) (v0 : Nat) (v1 : Int32) (M : Mem) : Prop := (kd v0 = 6) ∧ (kd (rf v0 0) = 3) ∧ (kd (rf (rf v0 0) 6) = 4) ∧ T_X6_isBelow (fun y5 M4 => if y5 = 0 then (X "java/lang/IndexOutOfBoundsException" M4) else ((kd (rf v0 3) = 1) ∧ T_X1_keep (fun M7 => T_X4_removeRow (fun M8 => (kd (rf v0 5) = 0) ∧ T_X0_serveWishes (fun y11 M10 => Q y11 M10)  (rf v0 5) M8)  (rf (rf v0 0) 6) v1 M7)  (rf v0 3) (rf v0 0) M4))  v1 (M.1 (rf (rf v0 0) 6) 2) M
set_option maxRecDepth 100000 in
set_option maxHeartbeats 4000000 in
theorem c_X6_lift {g : GG} (v0 : Nat) (v1 : Int32) (M : Mem) (Q : Int32 → Mem → Prop) (X : String → Mem → Prop) (h : T_X6_lift Q X v0 v1 M) : CT g 15 mX6_lift [.ref (g.1 + v0), .int v1] M 1 (oI Q X) := by
  refine CT_of (L := [some (.ref (g.1 + v0)), some (.int v1)]) (by decide) rfl (Nat.le_of_ble_eq_true rfl) (ro_I rfl) rfl ?_
  unfold T_X6_lift at h
  refine R_iload_n (pc := 0) d_X6_lift_0 rfl rfl ?_
  refine R_aload_n (pc := 1) d_X6_lift_1 rfl rfl ?_
  obtain ⟨k1, h⟩ := h
  refine R_getR (pc := 2) fld_RX6_10 rfl rfl k1 d_X6_lift_2 ?_
  obtain ⟨k2, h⟩ := h
  refine R_getR (pc := 5) fld_RX6_267 rfl rfl k2 d_X6_lift_5 ?_
  obtain ⟨k3, h⟩ := h
  refine R_getI (pc := 8) fld_RX6_94 rfl rfl k3 d_X6_lift_8 ?_
  refine R_callS (pc := 11) (As := [.int v1, .int (M.1 (rf (rf v0 0) 6) 2)]) (rest := []) (c_X6_isBelow (g := g) v1 (M.1 (rf (rf v0 0) 6) 2) M _ h) rfl rfl cal_RX6_64 sta_X6_isBelow (by decide) (by decide) rfl rfl (Nat.le_of_ble_eq_true rfl) d_X6_lift_11 (k_Z (fun y5 M4 h => ?_)) (fun _ _ h9 => False.elim h9)
  try dsimp only at h
  refine R_if_ne (pc := 14) (tgt := 28) d_X6_lift_14 (by decide) (fun c => ?_) (fun c => ?_)
  · rw [if_neg c] at h
    refine R_aload_n (pc := 28) d_X6_lift_28 rfl rfl ?_
    refine R_getR (pc := 29) fld_RX6_26 rfl rfl k1 d_X6_lift_29 ?_
    refine R_aload_n (pc := 32) d_X6_lift_32 rfl rfl ?_
    refine R_getR (pc := 33) fld_RX6_10 rfl rfl k1 d_X6_lift_33 ?_
    obtain ⟨k6, h⟩ := h
    refine R_callV (pc := 36) (As := [.ref (g.1 + (rf v0 0))]) (rest := []) (c_X1_keep (g := g) (rf v0 3) (rf v0 0) M4 _ h) rfl rfl cal_RX6_87 ins_X1_keep sel_X1_keep (cls_at k6 clsOK1) (by decide) (by decide) rfl rfl (Nat.le_of_ble_eq_true rfl) d_X6_lift_36 (k_V (fun M7 h => ?_)) (fun _ _ h9 => False.elim h9)
    try dsimp only at h
    refine R_aload_n (pc := 39) d_X6_lift_39 rfl rfl ?_
    refine R_getR (pc := 40) fld_RX6_10 rfl rfl k1 d_X6_lift_40 ?_
    refine R_getR (pc := 43) fld_RX6_267 rfl rfl k2 d_X6_lift_43 ?_
    refine R_iload_n (pc := 46) d_X6_lift_46 rfl rfl ?_
    refine R_callV (pc := 47) (As := [.int v1]) (rest := []) (c_X4_removeRow (g := g) (rf (rf v0 0) 6) v1 M7 _ h) rfl rfl cal_RX6_279 ins_X4_removeRow sel_X4_removeRow (cls_at k3 clsOK4) (by decide) (by decide) rfl rfl (Nat.le_of_ble_eq_true rfl) d_X6_lift_47 (k_V (fun M8 h => ?_)) (fun _ _ h9 => False.elim h9)
    try dsimp only at h
    refine R_aload_n (pc := 50) d_X6_lift_50 rfl rfl ?_
    refine R_getR (pc := 51) fld_RX6_44 rfl rfl k1 d_X6_lift_51 ?_
    obtain ⟨k9, h⟩ := h
    refine R_callV (pc := 54) (As := []) (rest := []) (c_X0_serveWishes (g := g) (rf v0 5) M8 _ h) rfl rfl cal_RX6_210 ins_X0_serveWishes sel_X0_serveWishes (cls_at k9 clsOK0) (by decide) (by decide) rfl rfl (Nat.le_of_ble_eq_true rfl) d_X6_lift_54 (k_I (fun y11 M10 h => ?_)) (fun _ _ h9 => False.elim h9)
    try dsimp only at h
    exact R_retv (pc := 57) d_X6_lift_57 h
  · rw [if_pos c] at h
    exact R_throwW rfl rfl thr_RX6_112_277_116 (by decide) (by decide) (Nat.le_of_ble_eq_true rfl) d_X6_lift_17 d_X6_lift_20 d_X6_lift_21 d_X6_lift_24 d_X6_lift_27 h
/-! X6_banned -/
theorem d_X6_banned_0 : decode mX6_banned.2.1 0 = .ok (.iload_n 1, 1) := by decide +kernel
theorem d_X6_banned_1 : decode mX6_banned.2.1 1 = .ok (.aload_n 0, 1) := by decide +kernel
theorem d_X6_banned_2 : decode mX6_banned.2.1 2 = .ok (.getfield 10, 3) := by decide +kernel
theorem d_X6_banned_5 : decode mX6_banned.2.1 5 = .ok (.getfield 267, 3) := by decide +kernel
theorem d_X6_banned_8 : decode mX6_banned.2.1 8 = .ok (.getfield 94, 3) := by decide +kernel
theorem d_X6_banned_11 : decode mX6_banned.2.1 11 = .ok (.invokestatic 64, 3) := by decide +kernel
theorem d_X6_banned_14 : decode mX6_banned.2.1 14 = .ok (.ifCond .ne 14, 3) := by decide +kernel
theorem d_X6_banned_17 : decode mX6_banned.2.1 17 = .ok (.new 112, 3) := by decide +kernel
theorem d_X6_banned_20 : decode mX6_banned.2.1 20 = .ok (.dup, 1) := by decide +kernel
theorem d_X6_banned_21 : decode mX6_banned.2.1 21 = .ok (.ldc_w 277, 3) := by decide +kernel
theorem d_X6_banned_24 : decode mX6_banned.2.1 24 = .ok (.invokespecial 116, 3) := by decide +kernel
theorem d_X6_banned_27 : decode mX6_banned.2.1 27 = .ok (.athrow, 1) := by decide +kernel
theorem d_X6_banned_28 : decode mX6_banned.2.1 28 = .ok (.iload_n 2, 1) := by decide +kernel
theorem d_X6_banned_29 : decode mX6_banned.2.1 29 = .ok (.iconst 5, 1) := by decide +kernel
theorem d_X6_banned_30 : decode mX6_banned.2.1 30 = .ok (.invokestatic 64, 3) := by decide +kernel
theorem d_X6_banned_33 : decode mX6_banned.2.1 33 = .ok (.ifCond .ne 13, 3) := by decide +kernel
theorem d_X6_banned_36 : decode mX6_banned.2.1 36 = .ok (.new 68, 3) := by decide +kernel
theorem d_X6_banned_39 : decode mX6_banned.2.1 39 = .ok (.dup, 1) := by decide +kernel
theorem d_X6_banned_40 : decode mX6_banned.2.1 40 = .ok (.ldc 155, 2) := by decide +kernel
theorem d_X6_banned_42 : decode mX6_banned.2.1 42 = .ok (.invokespecial 72, 3) := by decide +kernel
theorem d_X6_banned_45 : decode mX6_banned.2.1 45 = .ok (.athrow, 1) := by decide +kernel
theorem d_X6_banned_46 : decode mX6_banned.2.1 46 = .ok (.aload_n 0, 1) := by decide +kernel
theorem d_X6_banned_47 : decode mX6_banned.2.1 47 = .ok (.getfield 10, 3) := by decide +kernel
theorem d_X6_banned_50 : decode mX6_banned.2.1 50 = .ok (.getfield 267, 3) := by decide +kernel
theorem d_X6_banned_53 : decode mX6_banned.2.1 53 = .ok (.getfield 128, 3) := by decide +kernel
theorem d_X6_banned_56 : decode mX6_banned.2.1 56 = .ok (.iload_n 1, 1) := by decide +kernel
theorem d_X6_banned_57 : decode mX6_banned.2.1 57 = .ok (.aaload, 1) := by decide +kernel
theorem d_X6_banned_58 : decode mX6_banned.2.1 58 = .ok (.iload_n 2, 1) := by decide +kernel
theorem d_X6_banned_59 : decode mX6_banned.2.1 59 = .ok (.iaload, 1) := by decide +kernel
theorem d_X6_banned_60 : decode mX6_banned.2.1 60 = .ok (.ireturn, 1) := by decide +kernel
def T_X6_banned (Q : Int32 → Mem → Prop) (X : String → Mem → Prop) (v0 : Nat) (v1 : Int32) (v2 : Int32) (M : Mem) : Prop := (kd v0 = 6) ∧ (kd (rf v0 0) = 3) ∧ (kd (rf (rf v0 0) 6) = 4) ∧ T_X6_isBelow (fun y5 M4 => if y5 = 0 then (X "java/lang/IndexOutOfBoundsException" M4) else (T_X6_isBelow (fun y7 M6 => if y7 = 0 then (X "java/lang/IllegalArgumentException" M6) else ((kd (rf (rf (rf v0 0) 6) 0) = 10 ∨ kd (rf (rf (rf v0 0) 6) 0) = 11) ∧ (vp_in v1 (ln (rf (rf (rf v0 0) 6) 0))) ∧ (kd (rf (rf (rf (rf v0 0) 6) 0) (Int32.toNatClampNeg v1)) = 9) ∧ (vp_in v2 (ln (rf (rf (rf (rf v0 0) 6) 0) (Int32.toNatClampNeg v1)))) ∧ Q (M6.1 (rf (rf (rf (rf v0 0) 6) 0) (Int32.toNatClampNeg v1)) (Int32.toNatClampNeg v2)) M6))  v2 5 M4))  v1 (M.1 (rf (rf v0 0) 6) 2) M
set_option maxRecDepth 100000 in
set_option maxHeartbeats 4000000 in
theorem c_X6_banned {g : GG} (v0 : Nat) (v1 : Int32) (v2 : Int32) (M : Mem) (Q : Int32 → Mem → Prop) (X : String → Mem → Prop) (h : T_X6_banned Q X v0 v1 v2 M) : CT g 10 mX6_banned [.ref (g.1 + v0), .int v1, .int v2] M 1 (oI Q X) := by
  refine CT_of (L := [some (.ref (g.1 + v0)), some (.int v1), some (.int v2)]) (by decide) rfl (Nat.le_of_ble_eq_true rfl) (ro_I rfl) rfl ?_
  unfold T_X6_banned at h
  refine R_iload_n (pc := 0) d_X6_banned_0 rfl rfl ?_
  refine R_aload_n (pc := 1) d_X6_banned_1 rfl rfl ?_
  obtain ⟨k1, h⟩ := h
  refine R_getR (pc := 2) fld_RX6_10 rfl rfl k1 d_X6_banned_2 ?_
  obtain ⟨k2, h⟩ := h
  refine R_getR (pc := 5) fld_RX6_267 rfl rfl k2 d_X6_banned_5 ?_
  obtain ⟨k3, h⟩ := h
  refine R_getI (pc := 8) fld_RX6_94 rfl rfl k3 d_X6_banned_8 ?_
  refine R_callS (pc := 11) (As := [.int v1, .int (M.1 (rf (rf v0 0) 6) 2)]) (rest := []) (c_X6_isBelow (g := g) v1 (M.1 (rf (rf v0 0) 6) 2) M _ h) rfl rfl cal_RX6_64 sta_X6_isBelow (by decide) (by decide) rfl rfl (Nat.le_of_ble_eq_true rfl) d_X6_banned_11 (k_Z (fun y5 M4 h => ?_)) (fun _ _ h9 => False.elim h9)
  try dsimp only at h
  refine R_if_ne (pc := 14) (tgt := 28) d_X6_banned_14 (by decide) (fun c => ?_) (fun c => ?_)
  · rw [if_neg c] at h
    refine R_iload_n (pc := 28) d_X6_banned_28 rfl rfl ?_
    refine R_iconst (pc := 29) (v := 5) d_X6_banned_29 (by decide) ?_
    refine R_callS (pc := 30) (As := [.int v2, .int 5]) (rest := []) (c_X6_isBelow (g := g) v2 5 M4 _ h) rfl rfl cal_RX6_64 sta_X6_isBelow (by decide) (by decide) rfl rfl (Nat.le_of_ble_eq_true rfl) d_X6_banned_30 (k_Z (fun y7 M6 h => ?_)) (fun _ _ h9 => False.elim h9)
    try dsimp only at h
    refine R_if_ne (pc := 33) (tgt := 46) d_X6_banned_33 (by decide) (fun c => ?_) (fun c => ?_)
    · rw [if_neg c] at h
      refine R_aload_n (pc := 46) d_X6_banned_46 rfl rfl ?_
      refine R_getR (pc := 47) fld_RX6_10 rfl rfl k1 d_X6_banned_47 ?_
      refine R_getR (pc := 50) fld_RX6_267 rfl rfl k2 d_X6_banned_50 ?_
      refine R_getR (pc := 53) fld_RX6_128 rfl rfl k3 d_X6_banned_53 ?_
      refine R_iload_n (pc := 56) d_X6_banned_56 rfl rfl ?_
      obtain ⟨k8, h⟩ := h
      obtain ⟨k9, h⟩ := h
      refine R_aald (pc := 57) k8 k9 d_X6_banned_57 ?_
      refine R_iload_n (pc := 58) d_X6_banned_58 rfl rfl ?_
      obtain ⟨k10, h⟩ := h
      obtain ⟨k11, h⟩ := h
      refine R_iald (pc := 59) k10 k11 d_X6_banned_59 ?_
      exact R_retv (pc := 60) d_X6_banned_60 h
    · rw [if_pos c] at h
      exact R_throw rfl rfl thr_RX6_68_155_72 (by decide) (by decide) (Nat.le_of_ble_eq_true rfl) d_X6_banned_36 d_X6_banned_39 d_X6_banned_40 d_X6_banned_42 d_X6_banned_45 h
  · rw [if_pos c] at h
    exact R_throwW rfl rfl thr_RX6_112_277_116 (by decide) (by decide) (Nat.le_of_ble_eq_true rfl) d_X6_banned_17 d_X6_banned_20 d_X6_banned_21 d_X6_banned_24 d_X6_banned_27 h
/-! X6_wish -/
theorem d_X6_wish_0 : decode mX6_wish.2.1 0 = .ok (.iload_n 1, 1) := by decide +kernel
theorem d_X6_wish_1 : decode mX6_wish.2.1 1 = .ok (.aload_n 0, 1) := by decide +kernel
theorem d_X6_wish_2 : decode mX6_wish.2.1 2 = .ok (.getfield 10, 3) := by decide +kernel
theorem d_X6_wish_5 : decode mX6_wish.2.1 5 = .ok (.getfield 75, 3) := by decide +kernel
theorem d_X6_wish_8 : decode mX6_wish.2.1 8 = .ok (.getfield 94, 3) := by decide +kernel
theorem d_X6_wish_11 : decode mX6_wish.2.1 11 = .ok (.invokestatic 64, 3) := by decide +kernel
theorem d_X6_wish_14 : decode mX6_wish.2.1 14 = .ok (.ifCond .ne 13, 3) := by decide +kernel
theorem d_X6_wish_17 : decode mX6_wish.2.1 17 = .ok (.new 112, 3) := by decide +kernel
theorem d_X6_wish_20 : decode mX6_wish.2.1 20 = .ok (.dup, 1) := by decide +kernel
theorem d_X6_wish_21 : decode mX6_wish.2.1 21 = .ok (.ldc 124, 2) := by decide +kernel
theorem d_X6_wish_23 : decode mX6_wish.2.1 23 = .ok (.invokespecial 116, 3) := by decide +kernel
theorem d_X6_wish_26 : decode mX6_wish.2.1 26 = .ok (.athrow, 1) := by decide +kernel
theorem d_X6_wish_27 : decode mX6_wish.2.1 27 = .ok (.aload_n 0, 1) := by decide +kernel
theorem d_X6_wish_28 : decode mX6_wish.2.1 28 = .ok (.getfield 10, 3) := by decide +kernel
theorem d_X6_wish_31 : decode mX6_wish.2.1 31 = .ok (.iload_n 2, 1) := by decide +kernel
theorem d_X6_wish_32 : decode mX6_wish.2.1 32 = .ok (.invokevirtual 214, 3) := by decide +kernel
theorem d_X6_wish_35 : decode mX6_wish.2.1 35 = .ok (.ifCond .eq 24, 3) := by decide +kernel
theorem d_X6_wish_38 : decode mX6_wish.2.1 38 = .ok (.iload_n 3, 1) := by decide +kernel
theorem d_X6_wish_39 : decode mX6_wish.2.1 39 = .ok (.iload 4, 2) := by decide +kernel
theorem d_X6_wish_41 : decode mX6_wish.2.1 41 = .ok (.invokestatic 282, 3) := by decide +kernel
theorem d_X6_wish_44 : decode mX6_wish.2.1 44 = .ok (.ifCond .eq 15, 3) := by decide +kernel
theorem d_X6_wish_47 : decode mX6_wish.2.1 47 = .ok (.iload 4, 2) := by decide +kernel
theorem d_X6_wish_49 : decode mX6_wish.2.1 49 = .ok (.aload_n 0, 1) := by decide +kernel
theorem d_X6_wish_50 : decode mX6_wish.2.1 50 = .ok (.getfield 10, 3) := by decide +kernel
theorem d_X6_wish_53 : decode mX6_wish.2.1 53 = .ok (.getfield 167, 3) := by decide +kernel
theorem d_X6_wish_56 : decode mX6_wish.2.1 56 = .ok (.if_icmp .ge 14, 3) := by decide +kernel
theorem d_X6_wish_59 : decode mX6_wish.2.1 59 = .ok (.new 68, 3) := by decide +kernel
theorem d_X6_wish_62 : decode mX6_wish.2.1 62 = .ok (.dup, 1) := by decide +kernel
theorem d_X6_wish_63 : decode mX6_wish.2.1 63 = .ok (.ldc_w 285, 3) := by decide +kernel
theorem d_X6_wish_66 : decode mX6_wish.2.1 66 = .ok (.invokespecial 72, 3) := by decide +kernel
theorem d_X6_wish_69 : decode mX6_wish.2.1 69 = .ok (.athrow, 1) := by decide +kernel
theorem d_X6_wish_70 : decode mX6_wish.2.1 70 = .ok (.aload_n 0, 1) := by decide +kernel
theorem d_X6_wish_71 : decode mX6_wish.2.1 71 = .ok (.getfield 10, 3) := by decide +kernel
theorem d_X6_wish_74 : decode mX6_wish.2.1 74 = .ok (.getfield 287, 3) := by decide +kernel
theorem d_X6_wish_77 : decode mX6_wish.2.1 77 = .ok (.invokevirtual 78, 3) := by decide +kernel
theorem d_X6_wish_80 : decode mX6_wish.2.1 80 = .ok (.ifCond .eq 14, 3) := by decide +kernel
theorem d_X6_wish_83 : decode mX6_wish.2.1 83 = .ok (.new 82, 3) := by decide +kernel
theorem d_X6_wish_86 : decode mX6_wish.2.1 86 = .ok (.dup, 1) := by decide +kernel
theorem d_X6_wish_87 : decode mX6_wish.2.1 87 = .ok (.ldc_w 290, 3) := by decide +kernel
theorem d_X6_wish_90 : decode mX6_wish.2.1 90 = .ok (.invokespecial 86, 3) := by decide +kernel
theorem d_X6_wish_93 : decode mX6_wish.2.1 93 = .ok (.athrow, 1) := by decide +kernel
theorem d_X6_wish_94 : decode mX6_wish.2.1 94 = .ok (.aload_n 0, 1) := by decide +kernel
theorem d_X6_wish_95 : decode mX6_wish.2.1 95 = .ok (.getfield 26, 3) := by decide +kernel
theorem d_X6_wish_98 : decode mX6_wish.2.1 98 = .ok (.aload_n 0, 1) := by decide +kernel
theorem d_X6_wish_99 : decode mX6_wish.2.1 99 = .ok (.getfield 10, 3) := by decide +kernel
theorem d_X6_wish_102 : decode mX6_wish.2.1 102 = .ok (.invokevirtual 87, 3) := by decide +kernel
theorem d_X6_wish_105 : decode mX6_wish.2.1 105 = .ok (.aload_n 0, 1) := by decide +kernel
theorem d_X6_wish_106 : decode mX6_wish.2.1 106 = .ok (.getfield 10, 3) := by decide +kernel
theorem d_X6_wish_109 : decode mX6_wish.2.1 109 = .ok (.getfield 287, 3) := by decide +kernel
theorem d_X6_wish_112 : decode mX6_wish.2.1 112 = .ok (.invokevirtual 90, 3) := by decide +kernel
theorem d_X6_wish_115 : decode mX6_wish.2.1 115 = .ok (.astore 5, 2) := by decide +kernel
theorem d_X6_wish_117 : decode mX6_wish.2.1 117 = .ok (.aload 5, 2) := by decide +kernel
theorem d_X6_wish_119 : decode mX6_wish.2.1 119 = .ok (.iconst 0, 1) := by decide +kernel
theorem d_X6_wish_120 : decode mX6_wish.2.1 120 = .ok (.iload_n 1, 1) := by decide +kernel
theorem d_X6_wish_121 : decode mX6_wish.2.1 121 = .ok (.iastore, 1) := by decide +kernel
theorem d_X6_wish_122 : decode mX6_wish.2.1 122 = .ok (.aload 5, 2) := by decide +kernel
theorem d_X6_wish_124 : decode mX6_wish.2.1 124 = .ok (.iconst 1, 1) := by decide +kernel
theorem d_X6_wish_125 : decode mX6_wish.2.1 125 = .ok (.iload_n 2, 1) := by decide +kernel
theorem d_X6_wish_126 : decode mX6_wish.2.1 126 = .ok (.iastore, 1) := by decide +kernel
theorem d_X6_wish_127 : decode mX6_wish.2.1 127 = .ok (.aload 5, 2) := by decide +kernel
theorem d_X6_wish_129 : decode mX6_wish.2.1 129 = .ok (.iconst 2, 1) := by decide +kernel
theorem d_X6_wish_130 : decode mX6_wish.2.1 130 = .ok (.iload_n 3, 1) := by decide +kernel
theorem d_X6_wish_131 : decode mX6_wish.2.1 131 = .ok (.iastore, 1) := by decide +kernel
theorem d_X6_wish_132 : decode mX6_wish.2.1 132 = .ok (.aload 5, 2) := by decide +kernel
theorem d_X6_wish_134 : decode mX6_wish.2.1 134 = .ok (.iconst 3, 1) := by decide +kernel
theorem d_X6_wish_135 : decode mX6_wish.2.1 135 = .ok (.iload 4, 2) := by decide +kernel
theorem d_X6_wish_137 : decode mX6_wish.2.1 137 = .ok (.iastore, 1) := by decide +kernel
theorem d_X6_wish_138 : decode mX6_wish.2.1 138 = .ok (.aload_n 0, 1) := by decide +kernel
theorem d_X6_wish_139 : decode mX6_wish.2.1 139 = .ok (.getfield 10, 3) := by decide +kernel
theorem d_X6_wish_142 : decode mX6_wish.2.1 142 = .ok (.getfield 287, 3) := by decide +kernel
theorem d_X6_wish_145 : decode mX6_wish.2.1 145 = .ok (.getfield 94, 3) := by decide +kernel
theorem d_X6_wish_148 : decode mX6_wish.2.1 148 = .ok (.ireturn, 1) := by decide +kernel
def T_X6_wish_59 (Q : Int32 → Mem → Prop) (X : String → Mem → Prop) (M : Mem) : Prop := X "java/lang/IllegalArgumentException" M
set_option maxRecDepth 100000 in
set_option maxHeartbeats 4000000 in
theorem B_X6_wish_59 {g : GG} (Q : Int32 → Mem → Prop) (X : String → Mem → Prop) (M : Mem) (h : T_X6_wish_59 Q X  M) : WP g 13 mX6_wish 59 [none, none, none, none, none, none] [] M 1 (oI Q X) := by
  unfold T_X6_wish_59 at h
  exact R_throwW rfl rfl thr_RX6_68_285_72 (by decide) (by decide) (Nat.le_of_ble_eq_true rfl) d_X6_wish_59 d_X6_wish_62 d_X6_wish_63 d_X6_wish_66 d_X6_wish_69 h
def T_X6_wish (Q : Int32 → Mem → Prop) (X : String → Mem → Prop) (v0 : Nat) (v1 : Int32) (v2 : Int32) (v3 : Int32) (v4 : Int32) (M : Mem) : Prop := (kd v0 = 6) ∧ (kd (rf v0 0) = 3) ∧ (kd (rf (rf v0 0) 2) = 4) ∧ T_X6_isBelow (fun y5 M4 => if y5 = 0 then (X "java/lang/IndexOutOfBoundsException" M4) else (T_X3_isParty (fun y7 M6 => if y7 = 0 then (T_X6_wish_59 Q X M6) else (T_X6_areDays (fun y9 M8 => if y9 = 0 then (T_X6_wish_59 Q X M8) else (if (M8.1 (rf v0 0) 0) ≤ v4 then ((kd (rf (rf v0 0) 7) = 4) ∧ T_X4_isFull (fun y12 M11 => if y12 = 0 then ((kd (rf v0 3) = 1) ∧ T_X1_keep (fun M14 => T_X4_addRow (fun y16 M15 => (kd y16 = 9) ∧ (vp_in 0 (ln y16)) ∧ ∀ M19 : Mem, M19 = mset M15 y16 (Int32.toNatClampNeg 0) v1 → (vp_in 1 (ln y16)) ∧ ∀ M21 : Mem, M21 = mset M19 y16 (Int32.toNatClampNeg 1) v2 → (vp_in 2 (ln y16)) ∧ ∀ M23 : Mem, M23 = mset M21 y16 (Int32.toNatClampNeg 2) v3 → (vp_in 3 (ln y16)) ∧ ∀ M25 : Mem, M25 = mset M23 y16 (Int32.toNatClampNeg 3) v4 → Q (M25.1 (rf (rf v0 0) 7) 2) M25)  (rf (rf v0 0) 7) M14)  (rf v0 3) (rf v0 0) M11) else (X "java/lang/IllegalStateException" M11))  (rf (rf v0 0) 7) M8) else (T_X6_wish_59 Q X M8)))  v3 v4 M6))  (rf v0 0) v2 M4))  v1 (M.1 (rf (rf v0 0) 2) 2) M
set_option maxRecDepth 100000 in
set_option maxHeartbeats 4000000 in
theorem c_X6_wish {g : GG} (v0 : Nat) (v1 : Int32) (v2 : Int32) (v3 : Int32) (v4 : Int32) (M : Mem) (Q : Int32 → Mem → Prop) (X : String → Mem → Prop) (h : T_X6_wish Q X v0 v1 v2 v3 v4 M) : CT g 13 mX6_wish [.ref (g.1 + v0), .int v1, .int v2, .int v3, .int v4] M 1 (oI Q X) := by
  refine CT_of (L := [some (.ref (g.1 + v0)), some (.int v1), some (.int v2), some (.int v3), some (.int v4), none]) (by decide) rfl (Nat.le_of_ble_eq_true rfl) (ro_I rfl) rfl ?_
  unfold T_X6_wish at h
  refine R_iload_n (pc := 0) d_X6_wish_0 rfl rfl ?_
  refine R_aload_n (pc := 1) d_X6_wish_1 rfl rfl ?_
  obtain ⟨k1, h⟩ := h
  refine R_getR (pc := 2) fld_RX6_10 rfl rfl k1 d_X6_wish_2 ?_
  obtain ⟨k2, h⟩ := h
  refine R_getR (pc := 5) fld_RX6_75 rfl rfl k2 d_X6_wish_5 ?_
  obtain ⟨k3, h⟩ := h
  refine R_getI (pc := 8) fld_RX6_94 rfl rfl k3 d_X6_wish_8 ?_
  refine R_callS (pc := 11) (As := [.int v1, .int (M.1 (rf (rf v0 0) 2) 2)]) (rest := []) (c_X6_isBelow (g := g) v1 (M.1 (rf (rf v0 0) 2) 2) M _ h) rfl rfl cal_RX6_64 sta_X6_isBelow (by decide) (by decide) rfl rfl (Nat.le_of_ble_eq_true rfl) d_X6_wish_11 (k_Z (fun y5 M4 h => ?_)) (fun _ _ h9 => False.elim h9)
  try dsimp only at h
  refine R_if_ne (pc := 14) (tgt := 27) d_X6_wish_14 (by decide) (fun c => ?_) (fun c => ?_)
  · rw [if_neg c] at h
    refine R_aload_n (pc := 27) d_X6_wish_27 rfl rfl ?_
    refine R_getR (pc := 28) fld_RX6_10 rfl rfl k1 d_X6_wish_28 ?_
    refine R_iload_n (pc := 31) d_X6_wish_31 rfl rfl ?_
    refine R_callV (pc := 32) (As := [.int v2]) (rest := []) (c_X3_isParty (g := g) (rf v0 0) v2 M4 _ h) rfl rfl cal_RX6_214 ins_X3_isParty sel_X3_isParty (cls_at k2 clsOK3) (by decide) (by decide) rfl rfl (Nat.le_of_ble_eq_true rfl) d_X6_wish_32 (k_Z (fun y7 M6 h => ?_)) (fun _ _ h9 => False.elim h9)
    try dsimp only at h
    refine R_if_eq (pc := 35) (tgt := 59) d_X6_wish_35 (by decide) (fun c => ?_) (fun c => ?_)
    · rw [if_pos c] at h
      exact WP_sub (B_X6_wish_59 Q X M6 h) (by decide) (ls_n (ls_n (ls_n (ls_n (ls_n (ls_n ls_0))))))
    · rw [if_neg c] at h
      refine R_iload_n (pc := 38) d_X6_wish_38 rfl rfl ?_
      refine R_iload (pc := 39) d_X6_wish_39 rfl ?_
      refine R_callS (pc := 41) (As := [.int v3, .int v4]) (rest := []) (c_X6_areDays (g := g) v3 v4 M6 _ h) rfl rfl cal_RX6_282 sta_X6_areDays (by decide) (by decide) rfl rfl (Nat.le_of_ble_eq_true rfl) d_X6_wish_41 (k_Z (fun y9 M8 h => ?_)) (fun _ _ h9 => False.elim h9)
      try dsimp only at h
      refine R_if_eq (pc := 44) (tgt := 59) d_X6_wish_44 (by decide) (fun c => ?_) (fun c => ?_)
      · rw [if_pos c] at h
        exact WP_sub (B_X6_wish_59 Q X M8 h) (by decide) (ls_n (ls_n (ls_n (ls_n (ls_n (ls_n ls_0))))))
      · rw [if_neg c] at h
        refine R_iload (pc := 47) d_X6_wish_47 rfl ?_
        refine R_aload_n (pc := 49) d_X6_wish_49 rfl rfl ?_
        refine R_getR (pc := 50) fld_RX6_10 rfl rfl k1 d_X6_wish_50 ?_
        refine R_getI (pc := 53) fld_RX6_167 rfl rfl k2 d_X6_wish_53 ?_
        refine R_icmp_ge (pc := 56) (tgt := 70) d_X6_wish_56 (by decide) (fun c => ?_) (fun c => ?_)
        · rw [if_pos c] at h
          refine R_aload_n (pc := 70) d_X6_wish_70 rfl rfl ?_
          refine R_getR (pc := 71) fld_RX6_10 rfl rfl k1 d_X6_wish_71 ?_
          refine R_getR (pc := 74) fld_RX6_287 rfl rfl k2 d_X6_wish_74 ?_
          obtain ⟨k10, h⟩ := h
          refine R_callV (pc := 77) (As := []) (rest := []) (c_X4_isFull (g := g) (rf (rf v0 0) 7) M8 _ h) rfl rfl cal_RX6_78 ins_X4_isFull sel_X4_isFull (cls_at k10 clsOK4) (by decide) (by decide) rfl rfl (Nat.le_of_ble_eq_true rfl) d_X6_wish_77 (k_Z (fun y12 M11 h => ?_)) (fun _ _ h9 => False.elim h9)
          try dsimp only at h
          refine R_if_eq (pc := 80) (tgt := 94) d_X6_wish_80 (by decide) (fun c => ?_) (fun c => ?_)
          · rw [if_pos c] at h
            refine R_aload_n (pc := 94) d_X6_wish_94 rfl rfl ?_
            refine R_getR (pc := 95) fld_RX6_26 rfl rfl k1 d_X6_wish_95 ?_
            refine R_aload_n (pc := 98) d_X6_wish_98 rfl rfl ?_
            refine R_getR (pc := 99) fld_RX6_10 rfl rfl k1 d_X6_wish_99 ?_
            obtain ⟨k13, h⟩ := h
            refine R_callV (pc := 102) (As := [.ref (g.1 + (rf v0 0))]) (rest := []) (c_X1_keep (g := g) (rf v0 3) (rf v0 0) M11 _ h) rfl rfl cal_RX6_87 ins_X1_keep sel_X1_keep (cls_at k13 clsOK1) (by decide) (by decide) rfl rfl (Nat.le_of_ble_eq_true rfl) d_X6_wish_102 (k_V (fun M14 h => ?_)) (fun _ _ h9 => False.elim h9)
            try dsimp only at h
            refine R_aload_n (pc := 105) d_X6_wish_105 rfl rfl ?_
            refine R_getR (pc := 106) fld_RX6_10 rfl rfl k1 d_X6_wish_106 ?_
            refine R_getR (pc := 109) fld_RX6_287 rfl rfl k2 d_X6_wish_109 ?_
            refine R_callV (pc := 112) (As := []) (rest := []) (c_X4_addRow (g := g) (rf (rf v0 0) 7) M14 _ h) rfl rfl cal_RX6_90 ins_X4_addRow sel_X4_addRow (cls_at k10 clsOK4) (by decide) (by decide) rfl rfl (Nat.le_of_ble_eq_true rfl) d_X6_wish_112 (k_R (fun y16 M15 h => ?_)) (fun _ _ h9 => False.elim h9)
            try dsimp only at h
            refine R_astore (pc := 115) (L' := [some (.ref (g.1 + v0)), some (.int v1), some (.int v2), some (.int v3), some (.int v4), some (.ref (g.1 + y16))]) d_X6_wish_115 (by decide) rfl ?_
            refine R_aload (pc := 117) d_X6_wish_117 rfl ?_
            refine R_iconst (pc := 119) (v := 0) d_X6_wish_119 (by decide) ?_
            refine R_iload_n (pc := 120) d_X6_wish_120 rfl rfl ?_
            obtain ⟨k17, h⟩ := h
            obtain ⟨k18, h⟩ := h
            refine R_iast (pc := 121) k17 k18 d_X6_wish_121 (N_M (fun M19 eM19 => ?_))
            have h := h M19 eM19
            refine R_aload (pc := 122) d_X6_wish_122 rfl ?_
            refine R_iconst (pc := 124) (v := 1) d_X6_wish_124 (by decide) ?_
            refine R_iload_n (pc := 125) d_X6_wish_125 rfl rfl ?_
            obtain ⟨k20, h⟩ := h
            refine R_iast (pc := 126) k17 k20 d_X6_wish_126 (N_M (fun M21 eM21 => ?_))
            have h := h M21 eM21
            refine R_aload (pc := 127) d_X6_wish_127 rfl ?_
            refine R_iconst (pc := 129) (v := 2) d_X6_wish_129 (by decide) ?_
            refine R_iload_n (pc := 130) d_X6_wish_130 rfl rfl ?_
            obtain ⟨k22, h⟩ := h
            refine R_iast (pc := 131) k17 k22 d_X6_wish_131 (N_M (fun M23 eM23 => ?_))
            have h := h M23 eM23
            refine R_aload (pc := 132) d_X6_wish_132 rfl ?_
            refine R_iconst (pc := 134) (v := 3) d_X6_wish_134 (by decide) ?_
            refine R_iload (pc := 135) d_X6_wish_135 rfl ?_
            obtain ⟨k24, h⟩ := h
            refine R_iast (pc := 137) k17 k24 d_X6_wish_137 (N_M (fun M25 eM25 => ?_))
            have h := h M25 eM25
            refine R_aload_n (pc := 138) d_X6_wish_138 rfl rfl ?_
            refine R_getR (pc := 139) fld_RX6_10 rfl rfl k1 d_X6_wish_139 ?_
            refine R_getR (pc := 142) fld_RX6_287 rfl rfl k2 d_X6_wish_142 ?_
            refine R_getI (pc := 145) fld_RX6_94 rfl rfl k10 d_X6_wish_145 ?_
            exact R_retv (pc := 148) d_X6_wish_148 h
          · rw [if_neg c] at h
            exact R_throwW rfl rfl thr_RX6_82_290_86 (by decide) (by decide) (Nat.le_of_ble_eq_true rfl) d_X6_wish_83 d_X6_wish_86 d_X6_wish_87 d_X6_wish_90 d_X6_wish_93 h
        · rw [if_neg c] at h
          exact WP_sub (B_X6_wish_59 Q X M8 h) (by decide) (ls_n (ls_n (ls_n (ls_n (ls_n (ls_n ls_0))))))
  · rw [if_pos c] at h
    exact R_throw rfl rfl thr_RX6_112_124_116 (by decide) (by decide) (Nat.le_of_ble_eq_true rfl) d_X6_wish_17 d_X6_wish_20 d_X6_wish_21 d_X6_wish_23 d_X6_wish_26 h
/-! X6_wished -/
theorem d_X6_wished_0 : decode mX6_wished.2.1 0 = .ok (.iload_n 1, 1) := by decide +kernel
theorem d_X6_wished_1 : decode mX6_wished.2.1 1 = .ok (.aload_n 0, 1) := by decide +kernel
theorem d_X6_wished_2 : decode mX6_wished.2.1 2 = .ok (.getfield 10, 3) := by decide +kernel
theorem d_X6_wished_5 : decode mX6_wished.2.1 5 = .ok (.getfield 287, 3) := by decide +kernel
theorem d_X6_wished_8 : decode mX6_wished.2.1 8 = .ok (.getfield 94, 3) := by decide +kernel
theorem d_X6_wished_11 : decode mX6_wished.2.1 11 = .ok (.invokestatic 64, 3) := by decide +kernel
theorem d_X6_wished_14 : decode mX6_wished.2.1 14 = .ok (.ifCond .ne 14, 3) := by decide +kernel
theorem d_X6_wished_17 : decode mX6_wished.2.1 17 = .ok (.new 112, 3) := by decide +kernel
theorem d_X6_wished_20 : decode mX6_wished.2.1 20 = .ok (.dup, 1) := by decide +kernel
theorem d_X6_wished_21 : decode mX6_wished.2.1 21 = .ok (.ldc_w 292, 3) := by decide +kernel
theorem d_X6_wished_24 : decode mX6_wished.2.1 24 = .ok (.invokespecial 116, 3) := by decide +kernel
theorem d_X6_wished_27 : decode mX6_wished.2.1 27 = .ok (.athrow, 1) := by decide +kernel
theorem d_X6_wished_28 : decode mX6_wished.2.1 28 = .ok (.iload_n 2, 1) := by decide +kernel
theorem d_X6_wished_29 : decode mX6_wished.2.1 29 = .ok (.iconst 4, 1) := by decide +kernel
theorem d_X6_wished_30 : decode mX6_wished.2.1 30 = .ok (.invokestatic 64, 3) := by decide +kernel
theorem d_X6_wished_33 : decode mX6_wished.2.1 33 = .ok (.ifCond .ne 13, 3) := by decide +kernel
theorem d_X6_wished_36 : decode mX6_wished.2.1 36 = .ok (.new 68, 3) := by decide +kernel
theorem d_X6_wished_39 : decode mX6_wished.2.1 39 = .ok (.dup, 1) := by decide +kernel
theorem d_X6_wished_40 : decode mX6_wished.2.1 40 = .ok (.ldc 155, 2) := by decide +kernel
theorem d_X6_wished_42 : decode mX6_wished.2.1 42 = .ok (.invokespecial 72, 3) := by decide +kernel
theorem d_X6_wished_45 : decode mX6_wished.2.1 45 = .ok (.athrow, 1) := by decide +kernel
theorem d_X6_wished_46 : decode mX6_wished.2.1 46 = .ok (.aload_n 0, 1) := by decide +kernel
theorem d_X6_wished_47 : decode mX6_wished.2.1 47 = .ok (.getfield 10, 3) := by decide +kernel
theorem d_X6_wished_50 : decode mX6_wished.2.1 50 = .ok (.getfield 287, 3) := by decide +kernel
theorem d_X6_wished_53 : decode mX6_wished.2.1 53 = .ok (.getfield 128, 3) := by decide +kernel
theorem d_X6_wished_56 : decode mX6_wished.2.1 56 = .ok (.iload_n 1, 1) := by decide +kernel
theorem d_X6_wished_57 : decode mX6_wished.2.1 57 = .ok (.aaload, 1) := by decide +kernel
theorem d_X6_wished_58 : decode mX6_wished.2.1 58 = .ok (.iload_n 2, 1) := by decide +kernel
theorem d_X6_wished_59 : decode mX6_wished.2.1 59 = .ok (.iaload, 1) := by decide +kernel
theorem d_X6_wished_60 : decode mX6_wished.2.1 60 = .ok (.ireturn, 1) := by decide +kernel
def T_X6_wished (Q : Int32 → Mem → Prop) (X : String → Mem → Prop) (v0 : Nat) (v1 : Int32) (v2 : Int32) (M : Mem) : Prop := (kd v0 = 6) ∧ (kd (rf v0 0) = 3) ∧ (kd (rf (rf v0 0) 7) = 4) ∧ T_X6_isBelow (fun y5 M4 => if y5 = 0 then (X "java/lang/IndexOutOfBoundsException" M4) else (T_X6_isBelow (fun y7 M6 => if y7 = 0 then (X "java/lang/IllegalArgumentException" M6) else ((kd (rf (rf (rf v0 0) 7) 0) = 10 ∨ kd (rf (rf (rf v0 0) 7) 0) = 11) ∧ (vp_in v1 (ln (rf (rf (rf v0 0) 7) 0))) ∧ (kd (rf (rf (rf (rf v0 0) 7) 0) (Int32.toNatClampNeg v1)) = 9) ∧ (vp_in v2 (ln (rf (rf (rf (rf v0 0) 7) 0) (Int32.toNatClampNeg v1)))) ∧ Q (M6.1 (rf (rf (rf (rf v0 0) 7) 0) (Int32.toNatClampNeg v1)) (Int32.toNatClampNeg v2)) M6))  v2 4 M4))  v1 (M.1 (rf (rf v0 0) 7) 2) M
set_option maxRecDepth 100000 in
set_option maxHeartbeats 4000000 in
theorem c_X6_wished {g : GG} (v0 : Nat) (v1 : Int32) (v2 : Int32) (M : Mem) (Q : Int32 → Mem → Prop) (X : String → Mem → Prop) (h : T_X6_wished Q X v0 v1 v2 M) : CT g 10 mX6_wished [.ref (g.1 + v0), .int v1, .int v2] M 1 (oI Q X) := by
  refine CT_of (L := [some (.ref (g.1 + v0)), some (.int v1), some (.int v2)]) (by decide) rfl (Nat.le_of_ble_eq_true rfl) (ro_I rfl) rfl ?_
  unfold T_X6_wished at h
  refine R_iload_n (pc := 0) d_X6_wished_0 rfl rfl ?_
  refine R_aload_n (pc := 1) d_X6_wished_1 rfl rfl ?_
  obtain ⟨k1, h⟩ := h
  refine R_getR (pc := 2) fld_RX6_10 rfl rfl k1 d_X6_wished_2 ?_
  obtain ⟨k2, h⟩ := h
  refine R_getR (pc := 5) fld_RX6_287 rfl rfl k2 d_X6_wished_5 ?_
  obtain ⟨k3, h⟩ := h
  refine R_getI (pc := 8) fld_RX6_94 rfl rfl k3 d_X6_wished_8 ?_
  refine R_callS (pc := 11) (As := [.int v1, .int (M.1 (rf (rf v0 0) 7) 2)]) (rest := []) (c_X6_isBelow (g := g) v1 (M.1 (rf (rf v0 0) 7) 2) M _ h) rfl rfl cal_RX6_64 sta_X6_isBelow (by decide) (by decide) rfl rfl (Nat.le_of_ble_eq_true rfl) d_X6_wished_11 (k_Z (fun y5 M4 h => ?_)) (fun _ _ h9 => False.elim h9)
  try dsimp only at h
  refine R_if_ne (pc := 14) (tgt := 28) d_X6_wished_14 (by decide) (fun c => ?_) (fun c => ?_)
  · rw [if_neg c] at h
    refine R_iload_n (pc := 28) d_X6_wished_28 rfl rfl ?_
    refine R_iconst (pc := 29) (v := 4) d_X6_wished_29 (by decide) ?_
    refine R_callS (pc := 30) (As := [.int v2, .int 4]) (rest := []) (c_X6_isBelow (g := g) v2 4 M4 _ h) rfl rfl cal_RX6_64 sta_X6_isBelow (by decide) (by decide) rfl rfl (Nat.le_of_ble_eq_true rfl) d_X6_wished_30 (k_Z (fun y7 M6 h => ?_)) (fun _ _ h9 => False.elim h9)
    try dsimp only at h
    refine R_if_ne (pc := 33) (tgt := 46) d_X6_wished_33 (by decide) (fun c => ?_) (fun c => ?_)
    · rw [if_neg c] at h
      refine R_aload_n (pc := 46) d_X6_wished_46 rfl rfl ?_
      refine R_getR (pc := 47) fld_RX6_10 rfl rfl k1 d_X6_wished_47 ?_
      refine R_getR (pc := 50) fld_RX6_287 rfl rfl k2 d_X6_wished_50 ?_
      refine R_getR (pc := 53) fld_RX6_128 rfl rfl k3 d_X6_wished_53 ?_
      refine R_iload_n (pc := 56) d_X6_wished_56 rfl rfl ?_
      obtain ⟨k8, h⟩ := h
      obtain ⟨k9, h⟩ := h
      refine R_aald (pc := 57) k8 k9 d_X6_wished_57 ?_
      refine R_iload_n (pc := 58) d_X6_wished_58 rfl rfl ?_
      obtain ⟨k10, h⟩ := h
      obtain ⟨k11, h⟩ := h
      refine R_iald (pc := 59) k10 k11 d_X6_wished_59 ?_
      exact R_retv (pc := 60) d_X6_wished_60 h
    · rw [if_pos c] at h
      exact R_throw rfl rfl thr_RX6_68_155_72 (by decide) (by decide) (Nat.le_of_ble_eq_true rfl) d_X6_wished_36 d_X6_wished_39 d_X6_wished_40 d_X6_wished_42 d_X6_wished_45 h
  · rw [if_pos c] at h
    exact R_throwW rfl rfl thr_RX6_112_292_116 (by decide) (by decide) (Nat.le_of_ble_eq_true rfl) d_X6_wished_17 d_X6_wished_20 d_X6_wished_21 d_X6_wished_24 d_X6_wished_27 h
/-! X6_notice -/
theorem d_X6_notice_0 : decode mX6_notice.2.1 0 = .ok (.iload_n 1, 1) := by decide +kernel
theorem d_X6_notice_1 : decode mX6_notice.2.1 1 = .ok (.aload_n 0, 1) := by decide +kernel
theorem d_X6_notice_2 : decode mX6_notice.2.1 2 = .ok (.getfield 10, 3) := by decide +kernel
theorem d_X6_notice_5 : decode mX6_notice.2.1 5 = .ok (.getfield 294, 3) := by decide +kernel
theorem d_X6_notice_8 : decode mX6_notice.2.1 8 = .ok (.getfield 94, 3) := by decide +kernel
theorem d_X6_notice_11 : decode mX6_notice.2.1 11 = .ok (.invokestatic 64, 3) := by decide +kernel
theorem d_X6_notice_14 : decode mX6_notice.2.1 14 = .ok (.ifCond .ne 14, 3) := by decide +kernel
theorem d_X6_notice_17 : decode mX6_notice.2.1 17 = .ok (.new 173, 3) := by decide +kernel
theorem d_X6_notice_20 : decode mX6_notice.2.1 20 = .ok (.dup, 1) := by decide +kernel
theorem d_X6_notice_21 : decode mX6_notice.2.1 21 = .ok (.ldc_w 297, 3) := by decide +kernel
theorem d_X6_notice_24 : decode mX6_notice.2.1 24 = .ok (.invokespecial 177, 3) := by decide +kernel
theorem d_X6_notice_27 : decode mX6_notice.2.1 27 = .ok (.athrow, 1) := by decide +kernel
theorem d_X6_notice_28 : decode mX6_notice.2.1 28 = .ok (.aload_n 0, 1) := by decide +kernel
theorem d_X6_notice_29 : decode mX6_notice.2.1 29 = .ok (.getfield 10, 3) := by decide +kernel
theorem d_X6_notice_32 : decode mX6_notice.2.1 32 = .ok (.getfield 294, 3) := by decide +kernel
theorem d_X6_notice_35 : decode mX6_notice.2.1 35 = .ok (.getfield 128, 3) := by decide +kernel
theorem d_X6_notice_38 : decode mX6_notice.2.1 38 = .ok (.iload_n 1, 1) := by decide +kernel
theorem d_X6_notice_39 : decode mX6_notice.2.1 39 = .ok (.aaload, 1) := by decide +kernel
theorem d_X6_notice_40 : decode mX6_notice.2.1 40 = .ok (.iload_n 2, 1) := by decide +kernel
theorem d_X6_notice_41 : decode mX6_notice.2.1 41 = .ok (.ifCond .eq 7, 3) := by decide +kernel
theorem d_X6_notice_44 : decode mX6_notice.2.1 44 = .ok (.iconst 1, 1) := by decide +kernel
theorem d_X6_notice_45 : decode mX6_notice.2.1 45 = .ok (.goto 4, 3) := by decide +kernel
theorem d_X6_notice_48 : decode mX6_notice.2.1 48 = .ok (.iconst 0, 1) := by decide +kernel
theorem d_X6_notice_49 : decode mX6_notice.2.1 49 = .ok (.iaload, 1) := by decide +kernel
theorem d_X6_notice_50 : decode mX6_notice.2.1 50 = .ok (.ireturn, 1) := by decide +kernel
def T_X6_notice_49 (Q : Int32 → Mem → Prop) (X : String → Mem → Prop) (s0 : Int32) (s1 : Nat) (M : Mem) : Prop := (kd s1 = 9) ∧ (vp_in s0 (ln s1)) ∧ Q (M.1 s1 (Int32.toNatClampNeg s0)) M
set_option maxRecDepth 100000 in
set_option maxHeartbeats 4000000 in
theorem B_X6_notice_49 {g : GG} (Q : Int32 → Mem → Prop) (X : String → Mem → Prop) (s0 : Int32) (s1 : Nat) (M : Mem) (h : T_X6_notice_49 Q X s0 s1 M) : WP g 10 mX6_notice 49 [none, none, none] [.int s0, .ref (g.1 + s1)] M 1 (oI Q X) := by
  unfold T_X6_notice_49 at h
  obtain ⟨k1, h⟩ := h
  obtain ⟨k2, h⟩ := h
  refine R_iald (pc := 49) k1 k2 d_X6_notice_49 ?_
  exact R_retv (pc := 50) d_X6_notice_50 h
def T_X6_notice (Q : Int32 → Mem → Prop) (X : String → Mem → Prop) (v0 : Nat) (v1 : Int32) (v2 : Int32) (M : Mem) : Prop := (kd v0 = 6) ∧ (kd (rf v0 0) = 3) ∧ (kd (rf (rf v0 0) 8) = 4) ∧ T_X6_isBelow (fun y5 M4 => if y5 = 0 then (X "java/util/NoSuchElementException" M4) else ((kd (rf (rf (rf v0 0) 8) 0) = 10 ∨ kd (rf (rf (rf v0 0) 8) 0) = 11) ∧ (vp_in v1 (ln (rf (rf (rf v0 0) 8) 0))) ∧ if v2 = 0 then (T_X6_notice_49 Q X 0 (rf (rf (rf (rf v0 0) 8) 0) (Int32.toNatClampNeg v1)) M4) else (T_X6_notice_49 Q X 1 (rf (rf (rf (rf v0 0) 8) 0) (Int32.toNatClampNeg v1)) M4)))  v1 (M.1 (rf (rf v0 0) 8) 2) M
set_option maxRecDepth 100000 in
set_option maxHeartbeats 4000000 in
theorem c_X6_notice {g : GG} (v0 : Nat) (v1 : Int32) (v2 : Int32) (M : Mem) (Q : Int32 → Mem → Prop) (X : String → Mem → Prop) (h : T_X6_notice Q X v0 v1 v2 M) : CT g 10 mX6_notice [.ref (g.1 + v0), .int v1, .int v2] M 1 (oI Q X) := by
  refine CT_of (L := [some (.ref (g.1 + v0)), some (.int v1), some (.int v2)]) (by decide) rfl (Nat.le_of_ble_eq_true rfl) (ro_I rfl) rfl ?_
  unfold T_X6_notice at h
  refine R_iload_n (pc := 0) d_X6_notice_0 rfl rfl ?_
  refine R_aload_n (pc := 1) d_X6_notice_1 rfl rfl ?_
  obtain ⟨k1, h⟩ := h
  refine R_getR (pc := 2) fld_RX6_10 rfl rfl k1 d_X6_notice_2 ?_
  obtain ⟨k2, h⟩ := h
  refine R_getR (pc := 5) fld_RX6_294 rfl rfl k2 d_X6_notice_5 ?_
  obtain ⟨k3, h⟩ := h
  refine R_getI (pc := 8) fld_RX6_94 rfl rfl k3 d_X6_notice_8 ?_
  refine R_callS (pc := 11) (As := [.int v1, .int (M.1 (rf (rf v0 0) 8) 2)]) (rest := []) (c_X6_isBelow (g := g) v1 (M.1 (rf (rf v0 0) 8) 2) M _ h) rfl rfl cal_RX6_64 sta_X6_isBelow (by decide) (by decide) rfl rfl (Nat.le_of_ble_eq_true rfl) d_X6_notice_11 (k_Z (fun y5 M4 h => ?_)) (fun _ _ h9 => False.elim h9)
  try dsimp only at h
  refine R_if_ne (pc := 14) (tgt := 28) d_X6_notice_14 (by decide) (fun c => ?_) (fun c => ?_)
  · rw [if_neg c] at h
    refine R_aload_n (pc := 28) d_X6_notice_28 rfl rfl ?_
    refine R_getR (pc := 29) fld_RX6_10 rfl rfl k1 d_X6_notice_29 ?_
    refine R_getR (pc := 32) fld_RX6_294 rfl rfl k2 d_X6_notice_32 ?_
    refine R_getR (pc := 35) fld_RX6_128 rfl rfl k3 d_X6_notice_35 ?_
    refine R_iload_n (pc := 38) d_X6_notice_38 rfl rfl ?_
    obtain ⟨k6, h⟩ := h
    obtain ⟨k7, h⟩ := h
    refine R_aald (pc := 39) k6 k7 d_X6_notice_39 ?_
    refine R_iload_n (pc := 40) d_X6_notice_40 rfl rfl ?_
    refine R_if_eq (pc := 41) (tgt := 48) d_X6_notice_41 (by decide) (fun c => ?_) (fun c => ?_)
    · rw [if_pos c] at h
      refine R_iconst (pc := 48) (v := 0) d_X6_notice_48 (by decide) ?_
      exact WP_sub (B_X6_notice_49 Q X 0 (rf (rf (rf (rf v0 0) 8) 0) (Int32.toNatClampNeg v1)) M4 h) (by decide) (ls_n (ls_n (ls_n ls_0)))
    · rw [if_neg c] at h
      refine R_iconst (pc := 44) (v := 1) d_X6_notice_44 (by decide) ?_
      refine R_goto (pc := 45) (tgt := 49) d_X6_notice_45 (by decide) ?_
      exact WP_sub (B_X6_notice_49 Q X 1 (rf (rf (rf (rf v0 0) 8) 0) (Int32.toNatClampNeg v1)) M4 h) (by decide) (ls_n (ls_n (ls_n ls_0)))
  · rw [if_pos c] at h
    exact vz_throw (pc := 17) (Or.inr ⟨rfl, rfl⟩) rfl rfl thn_RX6_173_297_177 (by decide) (by decide) (Nat.le_of_ble_eq_true rfl) d_X6_notice_17 d_X6_notice_20 d_X6_notice_21 d_X6_notice_24 d_X6_notice_27 h
/-! X6_report -/
theorem d_X6_report_0 : decode mX6_report.2.1 0 = .ok (.iload_n 1, 1) := by decide +kernel
theorem d_X6_report_1 : decode mX6_report.2.1 1 = .ok (.aload_n 0, 1) := by decide +kernel
theorem d_X6_report_2 : decode mX6_report.2.1 2 = .ok (.getfield 53, 3) := by decide +kernel
theorem d_X6_report_5 : decode mX6_report.2.1 5 = .ok (.getfield 94, 3) := by decide +kernel
theorem d_X6_report_8 : decode mX6_report.2.1 8 = .ok (.invokestatic 64, 3) := by decide +kernel
theorem d_X6_report_11 : decode mX6_report.2.1 11 = .ok (.ifCond .ne 14, 3) := by decide +kernel
theorem d_X6_report_14 : decode mX6_report.2.1 14 = .ok (.new 173, 3) := by decide +kernel
theorem d_X6_report_17 : decode mX6_report.2.1 17 = .ok (.dup, 1) := by decide +kernel
theorem d_X6_report_18 : decode mX6_report.2.1 18 = .ok (.ldc_w 299, 3) := by decide +kernel
theorem d_X6_report_21 : decode mX6_report.2.1 21 = .ok (.invokespecial 177, 3) := by decide +kernel
theorem d_X6_report_24 : decode mX6_report.2.1 24 = .ok (.athrow, 1) := by decide +kernel
theorem d_X6_report_25 : decode mX6_report.2.1 25 = .ok (.aload_n 0, 1) := by decide +kernel
theorem d_X6_report_26 : decode mX6_report.2.1 26 = .ok (.getfield 53, 3) := by decide +kernel
theorem d_X6_report_29 : decode mX6_report.2.1 29 = .ok (.getfield 128, 3) := by decide +kernel
theorem d_X6_report_32 : decode mX6_report.2.1 32 = .ok (.iload_n 1, 1) := by decide +kernel
theorem d_X6_report_33 : decode mX6_report.2.1 33 = .ok (.aaload, 1) := by decide +kernel
theorem d_X6_report_34 : decode mX6_report.2.1 34 = .ok (.iload_n 2, 1) := by decide +kernel
theorem d_X6_report_35 : decode mX6_report.2.1 35 = .ok (.ifCond .eq 7, 3) := by decide +kernel
theorem d_X6_report_38 : decode mX6_report.2.1 38 = .ok (.iconst 1, 1) := by decide +kernel
theorem d_X6_report_39 : decode mX6_report.2.1 39 = .ok (.goto 4, 3) := by decide +kernel
theorem d_X6_report_42 : decode mX6_report.2.1 42 = .ok (.iconst 0, 1) := by decide +kernel
theorem d_X6_report_43 : decode mX6_report.2.1 43 = .ok (.iaload, 1) := by decide +kernel
theorem d_X6_report_44 : decode mX6_report.2.1 44 = .ok (.ireturn, 1) := by decide +kernel
def T_X6_report_43 (Q : Int32 → Mem → Prop) (X : String → Mem → Prop) (s0 : Int32) (s1 : Nat) (M : Mem) : Prop := (kd s1 = 9) ∧ (vp_in s0 (ln s1)) ∧ Q (M.1 s1 (Int32.toNatClampNeg s0)) M
set_option maxRecDepth 100000 in
set_option maxHeartbeats 4000000 in
theorem B_X6_report_43 {g : GG} (Q : Int32 → Mem → Prop) (X : String → Mem → Prop) (s0 : Int32) (s1 : Nat) (M : Mem) (h : T_X6_report_43 Q X s0 s1 M) : WP g 10 mX6_report 43 [none, none, none] [.int s0, .ref (g.1 + s1)] M 1 (oI Q X) := by
  unfold T_X6_report_43 at h
  obtain ⟨k1, h⟩ := h
  obtain ⟨k2, h⟩ := h
  refine R_iald (pc := 43) k1 k2 d_X6_report_43 ?_
  exact R_retv (pc := 44) d_X6_report_44 h
def T_X6_report (Q : Int32 → Mem → Prop) (X : String → Mem → Prop) (v0 : Nat) (v1 : Int32) (v2 : Int32) (M : Mem) : Prop := (kd v0 = 6) ∧ (kd (rf v0 6) = 4) ∧ T_X6_isBelow (fun y4 M3 => if y4 = 0 then (X "java/util/NoSuchElementException" M3) else ((kd (rf (rf v0 6) 0) = 10 ∨ kd (rf (rf v0 6) 0) = 11) ∧ (vp_in v1 (ln (rf (rf v0 6) 0))) ∧ if v2 = 0 then (T_X6_report_43 Q X 0 (rf (rf (rf v0 6) 0) (Int32.toNatClampNeg v1)) M3) else (T_X6_report_43 Q X 1 (rf (rf (rf v0 6) 0) (Int32.toNatClampNeg v1)) M3)))  v1 (M.1 (rf v0 6) 2) M
set_option maxRecDepth 100000 in
set_option maxHeartbeats 4000000 in
theorem c_X6_report {g : GG} (v0 : Nat) (v1 : Int32) (v2 : Int32) (M : Mem) (Q : Int32 → Mem → Prop) (X : String → Mem → Prop) (h : T_X6_report Q X v0 v1 v2 M) : CT g 10 mX6_report [.ref (g.1 + v0), .int v1, .int v2] M 1 (oI Q X) := by
  refine CT_of (L := [some (.ref (g.1 + v0)), some (.int v1), some (.int v2)]) (by decide) rfl (Nat.le_of_ble_eq_true rfl) (ro_I rfl) rfl ?_
  unfold T_X6_report at h
  refine R_iload_n (pc := 0) d_X6_report_0 rfl rfl ?_
  refine R_aload_n (pc := 1) d_X6_report_1 rfl rfl ?_
  obtain ⟨k1, h⟩ := h
  refine R_getR (pc := 2) fld_RX6_53 rfl rfl k1 d_X6_report_2 ?_
  obtain ⟨k2, h⟩ := h
  refine R_getI (pc := 5) fld_RX6_94 rfl rfl k2 d_X6_report_5 ?_
  refine R_callS (pc := 8) (As := [.int v1, .int (M.1 (rf v0 6) 2)]) (rest := []) (c_X6_isBelow (g := g) v1 (M.1 (rf v0 6) 2) M _ h) rfl rfl cal_RX6_64 sta_X6_isBelow (by decide) (by decide) rfl rfl (Nat.le_of_ble_eq_true rfl) d_X6_report_8 (k_Z (fun y4 M3 h => ?_)) (fun _ _ h9 => False.elim h9)
  try dsimp only at h
  refine R_if_ne (pc := 11) (tgt := 25) d_X6_report_11 (by decide) (fun c => ?_) (fun c => ?_)
  · rw [if_neg c] at h
    refine R_aload_n (pc := 25) d_X6_report_25 rfl rfl ?_
    refine R_getR (pc := 26) fld_RX6_53 rfl rfl k1 d_X6_report_26 ?_
    refine R_getR (pc := 29) fld_RX6_128 rfl rfl k2 d_X6_report_29 ?_
    refine R_iload_n (pc := 32) d_X6_report_32 rfl rfl ?_
    obtain ⟨k5, h⟩ := h
    obtain ⟨k6, h⟩ := h
    refine R_aald (pc := 33) k5 k6 d_X6_report_33 ?_
    refine R_iload_n (pc := 34) d_X6_report_34 rfl rfl ?_
    refine R_if_eq (pc := 35) (tgt := 42) d_X6_report_35 (by decide) (fun c => ?_) (fun c => ?_)
    · rw [if_pos c] at h
      refine R_iconst (pc := 42) (v := 0) d_X6_report_42 (by decide) ?_
      exact WP_sub (B_X6_report_43 Q X 0 (rf (rf (rf v0 6) 0) (Int32.toNatClampNeg v1)) M3 h) (by decide) (ls_n (ls_n (ls_n ls_0)))
    · rw [if_neg c] at h
      refine R_iconst (pc := 38) (v := 1) d_X6_report_38 (by decide) ?_
      refine R_goto (pc := 39) (tgt := 43) d_X6_report_39 (by decide) ?_
      exact WP_sub (B_X6_report_43 Q X 1 (rf (rf (rf v0 6) 0) (Int32.toNatClampNeg v1)) M3 h) (by decide) (ls_n (ls_n (ls_n ls_0)))
  · rw [if_pos c] at h
    exact vz_throw (pc := 14) (Or.inr ⟨rfl, rfl⟩) rfl rfl thn_RX6_173_299_177 (by decide) (by decide) (Nat.le_of_ble_eq_true rfl) d_X6_report_14 d_X6_report_17 d_X6_report_18 d_X6_report_21 d_X6_report_24 h
/-! X6_account -/
theorem d_X6_account_0 : decode mX6_account.2.1 0 = .ok (.iload_n 1, 1) := by decide +kernel
theorem d_X6_account_1 : decode mX6_account.2.1 1 = .ok (.tableswitch 195 0 12 #[67, 75, 86, 95, 104, 113, 124, 135, 146, 157, 168, 179, 187], 67) := by decide +kernel
theorem d_X6_account_68 : decode mX6_account.2.1 68 = .ok (.aload_n 0, 1) := by decide +kernel
theorem d_X6_account_69 : decode mX6_account.2.1 69 = .ok (.getfield 10, 3) := by decide +kernel
theorem d_X6_account_72 : decode mX6_account.2.1 72 = .ok (.getfield 167, 3) := by decide +kernel
theorem d_X6_account_75 : decode mX6_account.2.1 75 = .ok (.ireturn, 1) := by decide +kernel
theorem d_X6_account_76 : decode mX6_account.2.1 76 = .ok (.aload_n 0, 1) := by decide +kernel
theorem d_X6_account_77 : decode mX6_account.2.1 77 = .ok (.getfield 10, 3) := by decide +kernel
theorem d_X6_account_80 : decode mX6_account.2.1 80 = .ok (.getfield 225, 3) := by decide +kernel
theorem d_X6_account_83 : decode mX6_account.2.1 83 = .ok (.getfield 94, 3) := by decide +kernel
theorem d_X6_account_86 : decode mX6_account.2.1 86 = .ok (.ireturn, 1) := by decide +kernel
theorem d_X6_account_87 : decode mX6_account.2.1 87 = .ok (.aload_n 0, 1) := by decide +kernel
theorem d_X6_account_88 : decode mX6_account.2.1 88 = .ok (.getfield 10, 3) := by decide +kernel
theorem d_X6_account_91 : decode mX6_account.2.1 91 = .ok (.iconst 0, 1) := by decide +kernel
theorem d_X6_account_92 : decode mX6_account.2.1 92 = .ok (.invokevirtual 301, 3) := by decide +kernel
theorem d_X6_account_95 : decode mX6_account.2.1 95 = .ok (.ireturn, 1) := by decide +kernel
theorem d_X6_account_96 : decode mX6_account.2.1 96 = .ok (.aload_n 0, 1) := by decide +kernel
theorem d_X6_account_97 : decode mX6_account.2.1 97 = .ok (.getfield 10, 3) := by decide +kernel
theorem d_X6_account_100 : decode mX6_account.2.1 100 = .ok (.iconst 1, 1) := by decide +kernel
theorem d_X6_account_101 : decode mX6_account.2.1 101 = .ok (.invokevirtual 301, 3) := by decide +kernel
theorem d_X6_account_104 : decode mX6_account.2.1 104 = .ok (.ireturn, 1) := by decide +kernel
theorem d_X6_account_105 : decode mX6_account.2.1 105 = .ok (.aload_n 0, 1) := by decide +kernel
theorem d_X6_account_106 : decode mX6_account.2.1 106 = .ok (.getfield 10, 3) := by decide +kernel
theorem d_X6_account_109 : decode mX6_account.2.1 109 = .ok (.iconst 2, 1) := by decide +kernel
theorem d_X6_account_110 : decode mX6_account.2.1 110 = .ok (.invokevirtual 301, 3) := by decide +kernel
theorem d_X6_account_113 : decode mX6_account.2.1 113 = .ok (.ireturn, 1) := by decide +kernel
theorem d_X6_account_114 : decode mX6_account.2.1 114 = .ok (.aload_n 0, 1) := by decide +kernel
theorem d_X6_account_115 : decode mX6_account.2.1 115 = .ok (.getfield 10, 3) := by decide +kernel
theorem d_X6_account_118 : decode mX6_account.2.1 118 = .ok (.getfield 75, 3) := by decide +kernel
theorem d_X6_account_121 : decode mX6_account.2.1 121 = .ok (.getfield 94, 3) := by decide +kernel
theorem d_X6_account_124 : decode mX6_account.2.1 124 = .ok (.ireturn, 1) := by decide +kernel
theorem d_X6_account_125 : decode mX6_account.2.1 125 = .ok (.aload_n 0, 1) := by decide +kernel
theorem d_X6_account_126 : decode mX6_account.2.1 126 = .ok (.getfield 10, 3) := by decide +kernel
theorem d_X6_account_129 : decode mX6_account.2.1 129 = .ok (.getfield 100, 3) := by decide +kernel
theorem d_X6_account_132 : decode mX6_account.2.1 132 = .ok (.getfield 94, 3) := by decide +kernel
theorem d_X6_account_135 : decode mX6_account.2.1 135 = .ok (.ireturn, 1) := by decide +kernel
theorem d_X6_account_136 : decode mX6_account.2.1 136 = .ok (.aload_n 0, 1) := by decide +kernel
theorem d_X6_account_137 : decode mX6_account.2.1 137 = .ok (.getfield 10, 3) := by decide +kernel
theorem d_X6_account_140 : decode mX6_account.2.1 140 = .ok (.getfield 107, 3) := by decide +kernel
theorem d_X6_account_143 : decode mX6_account.2.1 143 = .ok (.getfield 94, 3) := by decide +kernel
theorem d_X6_account_146 : decode mX6_account.2.1 146 = .ok (.ireturn, 1) := by decide +kernel
theorem d_X6_account_147 : decode mX6_account.2.1 147 = .ok (.aload_n 0, 1) := by decide +kernel
theorem d_X6_account_148 : decode mX6_account.2.1 148 = .ok (.getfield 10, 3) := by decide +kernel
theorem d_X6_account_151 : decode mX6_account.2.1 151 = .ok (.getfield 267, 3) := by decide +kernel
theorem d_X6_account_154 : decode mX6_account.2.1 154 = .ok (.getfield 94, 3) := by decide +kernel
theorem d_X6_account_157 : decode mX6_account.2.1 157 = .ok (.ireturn, 1) := by decide +kernel
theorem d_X6_account_158 : decode mX6_account.2.1 158 = .ok (.aload_n 0, 1) := by decide +kernel
theorem d_X6_account_159 : decode mX6_account.2.1 159 = .ok (.getfield 10, 3) := by decide +kernel
theorem d_X6_account_162 : decode mX6_account.2.1 162 = .ok (.getfield 287, 3) := by decide +kernel
theorem d_X6_account_165 : decode mX6_account.2.1 165 = .ok (.getfield 94, 3) := by decide +kernel
theorem d_X6_account_168 : decode mX6_account.2.1 168 = .ok (.ireturn, 1) := by decide +kernel
theorem d_X6_account_169 : decode mX6_account.2.1 169 = .ok (.aload_n 0, 1) := by decide +kernel
theorem d_X6_account_170 : decode mX6_account.2.1 170 = .ok (.getfield 10, 3) := by decide +kernel
theorem d_X6_account_173 : decode mX6_account.2.1 173 = .ok (.getfield 294, 3) := by decide +kernel
theorem d_X6_account_176 : decode mX6_account.2.1 176 = .ok (.getfield 94, 3) := by decide +kernel
theorem d_X6_account_179 : decode mX6_account.2.1 179 = .ok (.ireturn, 1) := by decide +kernel
theorem d_X6_account_180 : decode mX6_account.2.1 180 = .ok (.aload_n 0, 1) := by decide +kernel
theorem d_X6_account_181 : decode mX6_account.2.1 181 = .ok (.getfield 10, 3) := by decide +kernel
theorem d_X6_account_184 : decode mX6_account.2.1 184 = .ok (.invokevirtual 304, 3) := by decide +kernel
theorem d_X6_account_187 : decode mX6_account.2.1 187 = .ok (.ireturn, 1) := by decide +kernel
theorem d_X6_account_188 : decode mX6_account.2.1 188 = .ok (.aload_n 0, 1) := by decide +kernel
theorem d_X6_account_189 : decode mX6_account.2.1 189 = .ok (.getfield 10, 3) := by decide +kernel
theorem d_X6_account_192 : decode mX6_account.2.1 192 = .ok (.invokevirtual 307, 3) := by decide +kernel
theorem d_X6_account_195 : decode mX6_account.2.1 195 = .ok (.ireturn, 1) := by decide +kernel
theorem d_X6_account_196 : decode mX6_account.2.1 196 = .ok (.new 68, 3) := by decide +kernel
theorem d_X6_account_199 : decode mX6_account.2.1 199 = .ok (.dup, 1) := by decide +kernel
theorem d_X6_account_200 : decode mX6_account.2.1 200 = .ok (.ldc_w 310, 3) := by decide +kernel
theorem d_X6_account_203 : decode mX6_account.2.1 203 = .ok (.invokespecial 72, 3) := by decide +kernel
theorem d_X6_account_206 : decode mX6_account.2.1 206 = .ok (.athrow, 1) := by decide +kernel
def T_X6_account (Q : Int32 → Mem → Prop) (X : String → Mem → Prop) (v0 : Nat) (v1 : Int32) (M : Mem) : Prop := if v1 = 0 then ((kd v0 = 6) ∧ (kd (rf v0 0) = 3) ∧ Q (M.1 (rf v0 0) 0) M) else if v1 = 1 then ((kd v0 = 6) ∧ (kd (rf v0 0) = 3) ∧ (kd (rf (rf v0 0) 5) = 4) ∧ Q (M.1 (rf (rf v0 0) 5) 2) M) else if v1 = 2 then ((kd v0 = 6) ∧ (kd (rf v0 0) = 3) ∧ T_X3_countStatus (fun y9 M8 => Q y9 M8)  (rf v0 0) 0 M) else if v1 = 3 then ((kd v0 = 6) ∧ (kd (rf v0 0) = 3) ∧ T_X3_countStatus (fun y13 M12 => Q y13 M12)  (rf v0 0) 1 M) else if v1 = 4 then ((kd v0 = 6) ∧ (kd (rf v0 0) = 3) ∧ T_X3_countStatus (fun y17 M16 => Q y17 M16)  (rf v0 0) 2 M) else if v1 = 5 then ((kd v0 = 6) ∧ (kd (rf v0 0) = 3) ∧ (kd (rf (rf v0 0) 2) = 4) ∧ Q (M.1 (rf (rf v0 0) 2) 2) M) else if v1 = 6 then ((kd v0 = 6) ∧ (kd (rf v0 0) = 3) ∧ (kd (rf (rf v0 0) 3) = 4) ∧ Q (M.1 (rf (rf v0 0) 3) 2) M) else if v1 = 7 then ((kd v0 = 6) ∧ (kd (rf v0 0) = 3) ∧ (kd (rf (rf v0 0) 4) = 4) ∧ Q (M.1 (rf (rf v0 0) 4) 2) M) else if v1 = 8 then ((kd v0 = 6) ∧ (kd (rf v0 0) = 3) ∧ (kd (rf (rf v0 0) 6) = 4) ∧ Q (M.1 (rf (rf v0 0) 6) 2) M) else if v1 = 9 then ((kd v0 = 6) ∧ (kd (rf v0 0) = 3) ∧ (kd (rf (rf v0 0) 7) = 4) ∧ Q (M.1 (rf (rf v0 0) 7) 2) M) else if v1 = 10 then ((kd v0 = 6) ∧ (kd (rf v0 0) = 3) ∧ (kd (rf (rf v0 0) 8) = 4) ∧ Q (M.1 (rf (rf v0 0) 8) 2) M) else if v1 = 11 then ((kd v0 = 6) ∧ (kd (rf v0 0) = 3) ∧ T_X3_sumOfSearches (fun y39 M38 => Q y39 M38)  (rf v0 0) M) else if v1 = 12 then ((kd v0 = 6) ∧ (kd (rf v0 0) = 3) ∧ T_X3_sumOfDistances (fun y43 M42 => Q y43 M42)  (rf v0 0) M) else (X "java/lang/IllegalArgumentException" M)
set_option maxRecDepth 100000 in
set_option maxHeartbeats 4000000 in
theorem c_X6_account {g : GG} (v0 : Nat) (v1 : Int32) (M : Mem) (Q : Int32 → Mem → Prop) (X : String → Mem → Prop) (h : T_X6_account Q X v0 v1 M) : CT g 12 mX6_account [.ref (g.1 + v0), .int v1] M 1 (oI Q X) := by
  refine CT_of (L := [some (.ref (g.1 + v0)), some (.int v1)]) (by decide) rfl (Nat.le_of_ble_eq_true rfl) (ro_I rfl) rfl ?_
  unfold T_X6_account at h
  refine R_iload_n (pc := 0) d_X6_account_0 rfl rfl ?_
  by_cases c0 : v1 = 0
  · rw [if_pos c0] at h
    rw [c0]
    refine R_tsIn (pc := 1) (off := 67) (tgt := 68) d_X6_account_1 (by decide) (by decide) (by decide) (by decide) ?_
    refine R_aload_n (pc := 68) d_X6_account_68 rfl rfl ?_
    obtain ⟨k1, h⟩ := h
    refine R_getR (pc := 69) fld_RX6_10 rfl rfl k1 d_X6_account_69 ?_
    obtain ⟨k2, h⟩ := h
    refine R_getI (pc := 72) fld_RX6_167 rfl rfl k2 d_X6_account_72 ?_
    exact R_retv (pc := 75) d_X6_account_75 h
  rw [if_neg c0] at h
  by_cases c1 : v1 = 1
  · rw [if_pos c1] at h
    rw [c1]
    refine R_tsIn (pc := 1) (off := 75) (tgt := 76) d_X6_account_1 (by decide) (by decide) (by decide) (by decide) ?_
    refine R_aload_n (pc := 76) d_X6_account_76 rfl rfl ?_
    obtain ⟨k3, h⟩ := h
    refine R_getR (pc := 77) fld_RX6_10 rfl rfl k3 d_X6_account_77 ?_
    obtain ⟨k4, h⟩ := h
    refine R_getR (pc := 80) fld_RX6_225 rfl rfl k4 d_X6_account_80 ?_
    obtain ⟨k5, h⟩ := h
    refine R_getI (pc := 83) fld_RX6_94 rfl rfl k5 d_X6_account_83 ?_
    exact R_retv (pc := 86) d_X6_account_86 h
  rw [if_neg c1] at h
  by_cases c2 : v1 = 2
  · rw [if_pos c2] at h
    rw [c2]
    refine R_tsIn (pc := 1) (off := 86) (tgt := 87) d_X6_account_1 (by decide) (by decide) (by decide) (by decide) ?_
    refine R_aload_n (pc := 87) d_X6_account_87 rfl rfl ?_
    obtain ⟨k6, h⟩ := h
    refine R_getR (pc := 88) fld_RX6_10 rfl rfl k6 d_X6_account_88 ?_
    refine R_iconst (pc := 91) (v := 0) d_X6_account_91 (by decide) ?_
    obtain ⟨k7, h⟩ := h
    refine R_callV (pc := 92) (As := [.int 0]) (rest := []) (c_X3_countStatus (g := g) (rf v0 0) 0 M _ h) rfl rfl cal_RX6_301 ins_X3_countStatus sel_X3_countStatus (cls_at k7 clsOK3) (by decide) (by decide) rfl rfl (Nat.le_of_ble_eq_true rfl) d_X6_account_92 (k_I (fun y9 M8 h => ?_)) (fun _ _ h9 => False.elim h9)
    try dsimp only at h
    exact R_retv (pc := 95) d_X6_account_95 h
  rw [if_neg c2] at h
  by_cases c3 : v1 = 3
  · rw [if_pos c3] at h
    rw [c3]
    refine R_tsIn (pc := 1) (off := 95) (tgt := 96) d_X6_account_1 (by decide) (by decide) (by decide) (by decide) ?_
    refine R_aload_n (pc := 96) d_X6_account_96 rfl rfl ?_
    obtain ⟨k10, h⟩ := h
    refine R_getR (pc := 97) fld_RX6_10 rfl rfl k10 d_X6_account_97 ?_
    refine R_iconst (pc := 100) (v := 1) d_X6_account_100 (by decide) ?_
    obtain ⟨k11, h⟩ := h
    refine R_callV (pc := 101) (As := [.int 1]) (rest := []) (c_X3_countStatus (g := g) (rf v0 0) 1 M _ h) rfl rfl cal_RX6_301 ins_X3_countStatus sel_X3_countStatus (cls_at k11 clsOK3) (by decide) (by decide) rfl rfl (Nat.le_of_ble_eq_true rfl) d_X6_account_101 (k_I (fun y13 M12 h => ?_)) (fun _ _ h9 => False.elim h9)
    try dsimp only at h
    exact R_retv (pc := 104) d_X6_account_104 h
  rw [if_neg c3] at h
  by_cases c4 : v1 = 4
  · rw [if_pos c4] at h
    rw [c4]
    refine R_tsIn (pc := 1) (off := 104) (tgt := 105) d_X6_account_1 (by decide) (by decide) (by decide) (by decide) ?_
    refine R_aload_n (pc := 105) d_X6_account_105 rfl rfl ?_
    obtain ⟨k14, h⟩ := h
    refine R_getR (pc := 106) fld_RX6_10 rfl rfl k14 d_X6_account_106 ?_
    refine R_iconst (pc := 109) (v := 2) d_X6_account_109 (by decide) ?_
    obtain ⟨k15, h⟩ := h
    refine R_callV (pc := 110) (As := [.int 2]) (rest := []) (c_X3_countStatus (g := g) (rf v0 0) 2 M _ h) rfl rfl cal_RX6_301 ins_X3_countStatus sel_X3_countStatus (cls_at k15 clsOK3) (by decide) (by decide) rfl rfl (Nat.le_of_ble_eq_true rfl) d_X6_account_110 (k_I (fun y17 M16 h => ?_)) (fun _ _ h9 => False.elim h9)
    try dsimp only at h
    exact R_retv (pc := 113) d_X6_account_113 h
  rw [if_neg c4] at h
  by_cases c5 : v1 = 5
  · rw [if_pos c5] at h
    rw [c5]
    refine R_tsIn (pc := 1) (off := 113) (tgt := 114) d_X6_account_1 (by decide) (by decide) (by decide) (by decide) ?_
    refine R_aload_n (pc := 114) d_X6_account_114 rfl rfl ?_
    obtain ⟨k18, h⟩ := h
    refine R_getR (pc := 115) fld_RX6_10 rfl rfl k18 d_X6_account_115 ?_
    obtain ⟨k19, h⟩ := h
    refine R_getR (pc := 118) fld_RX6_75 rfl rfl k19 d_X6_account_118 ?_
    obtain ⟨k20, h⟩ := h
    refine R_getI (pc := 121) fld_RX6_94 rfl rfl k20 d_X6_account_121 ?_
    exact R_retv (pc := 124) d_X6_account_124 h
  rw [if_neg c5] at h
  by_cases c6 : v1 = 6
  · rw [if_pos c6] at h
    rw [c6]
    refine R_tsIn (pc := 1) (off := 124) (tgt := 125) d_X6_account_1 (by decide) (by decide) (by decide) (by decide) ?_
    refine R_aload_n (pc := 125) d_X6_account_125 rfl rfl ?_
    obtain ⟨k21, h⟩ := h
    refine R_getR (pc := 126) fld_RX6_10 rfl rfl k21 d_X6_account_126 ?_
    obtain ⟨k22, h⟩ := h
    refine R_getR (pc := 129) fld_RX6_100 rfl rfl k22 d_X6_account_129 ?_
    obtain ⟨k23, h⟩ := h
    refine R_getI (pc := 132) fld_RX6_94 rfl rfl k23 d_X6_account_132 ?_
    exact R_retv (pc := 135) d_X6_account_135 h
  rw [if_neg c6] at h
  by_cases c7 : v1 = 7
  · rw [if_pos c7] at h
    rw [c7]
    refine R_tsIn (pc := 1) (off := 135) (tgt := 136) d_X6_account_1 (by decide) (by decide) (by decide) (by decide) ?_
    refine R_aload_n (pc := 136) d_X6_account_136 rfl rfl ?_
    obtain ⟨k24, h⟩ := h
    refine R_getR (pc := 137) fld_RX6_10 rfl rfl k24 d_X6_account_137 ?_
    obtain ⟨k25, h⟩ := h
    refine R_getR (pc := 140) fld_RX6_107 rfl rfl k25 d_X6_account_140 ?_
    obtain ⟨k26, h⟩ := h
    refine R_getI (pc := 143) fld_RX6_94 rfl rfl k26 d_X6_account_143 ?_
    exact R_retv (pc := 146) d_X6_account_146 h
  rw [if_neg c7] at h
  by_cases c8 : v1 = 8
  · rw [if_pos c8] at h
    rw [c8]
    refine R_tsIn (pc := 1) (off := 146) (tgt := 147) d_X6_account_1 (by decide) (by decide) (by decide) (by decide) ?_
    refine R_aload_n (pc := 147) d_X6_account_147 rfl rfl ?_
    obtain ⟨k27, h⟩ := h
    refine R_getR (pc := 148) fld_RX6_10 rfl rfl k27 d_X6_account_148 ?_
    obtain ⟨k28, h⟩ := h
    refine R_getR (pc := 151) fld_RX6_267 rfl rfl k28 d_X6_account_151 ?_
    obtain ⟨k29, h⟩ := h
    refine R_getI (pc := 154) fld_RX6_94 rfl rfl k29 d_X6_account_154 ?_
    exact R_retv (pc := 157) d_X6_account_157 h
  rw [if_neg c8] at h
  by_cases c9 : v1 = 9
  · rw [if_pos c9] at h
    rw [c9]
    refine R_tsIn (pc := 1) (off := 157) (tgt := 158) d_X6_account_1 (by decide) (by decide) (by decide) (by decide) ?_
    refine R_aload_n (pc := 158) d_X6_account_158 rfl rfl ?_
    obtain ⟨k30, h⟩ := h
    refine R_getR (pc := 159) fld_RX6_10 rfl rfl k30 d_X6_account_159 ?_
    obtain ⟨k31, h⟩ := h
    refine R_getR (pc := 162) fld_RX6_287 rfl rfl k31 d_X6_account_162 ?_
    obtain ⟨k32, h⟩ := h
    refine R_getI (pc := 165) fld_RX6_94 rfl rfl k32 d_X6_account_165 ?_
    exact R_retv (pc := 168) d_X6_account_168 h
  rw [if_neg c9] at h
  by_cases c10 : v1 = 10
  · rw [if_pos c10] at h
    rw [c10]
    refine R_tsIn (pc := 1) (off := 168) (tgt := 169) d_X6_account_1 (by decide) (by decide) (by decide) (by decide) ?_
    refine R_aload_n (pc := 169) d_X6_account_169 rfl rfl ?_
    obtain ⟨k33, h⟩ := h
    refine R_getR (pc := 170) fld_RX6_10 rfl rfl k33 d_X6_account_170 ?_
    obtain ⟨k34, h⟩ := h
    refine R_getR (pc := 173) fld_RX6_294 rfl rfl k34 d_X6_account_173 ?_
    obtain ⟨k35, h⟩ := h
    refine R_getI (pc := 176) fld_RX6_94 rfl rfl k35 d_X6_account_176 ?_
    exact R_retv (pc := 179) d_X6_account_179 h
  rw [if_neg c10] at h
  by_cases c11 : v1 = 11
  · rw [if_pos c11] at h
    rw [c11]
    refine R_tsIn (pc := 1) (off := 179) (tgt := 180) d_X6_account_1 (by decide) (by decide) (by decide) (by decide) ?_
    refine R_aload_n (pc := 180) d_X6_account_180 rfl rfl ?_
    obtain ⟨k36, h⟩ := h
    refine R_getR (pc := 181) fld_RX6_10 rfl rfl k36 d_X6_account_181 ?_
    obtain ⟨k37, h⟩ := h
    refine R_callV (pc := 184) (As := []) (rest := []) (c_X3_sumOfSearches (g := g) (rf v0 0) M _ h) rfl rfl cal_RX6_304 ins_X3_sumOfSearches sel_X3_sumOfSearches (cls_at k37 clsOK3) (by decide) (by decide) rfl rfl (Nat.le_of_ble_eq_true rfl) d_X6_account_184 (k_I (fun y39 M38 h => ?_)) (fun _ _ h9 => False.elim h9)
    try dsimp only at h
    exact R_retv (pc := 187) d_X6_account_187 h
  rw [if_neg c11] at h
  by_cases c12 : v1 = 12
  · rw [if_pos c12] at h
    rw [c12]
    refine R_tsIn (pc := 1) (off := 187) (tgt := 188) d_X6_account_1 (by decide) (by decide) (by decide) (by decide) ?_
    refine R_aload_n (pc := 188) d_X6_account_188 rfl rfl ?_
    obtain ⟨k40, h⟩ := h
    refine R_getR (pc := 189) fld_RX6_10 rfl rfl k40 d_X6_account_189 ?_
    obtain ⟨k41, h⟩ := h
    refine R_callV (pc := 192) (As := []) (rest := []) (c_X3_sumOfDistances (g := g) (rf v0 0) M _ h) rfl rfl cal_RX6_307 ins_X3_sumOfDistances sel_X3_sumOfDistances (cls_at k41 clsOK3) (by decide) (by decide) rfl rfl (Nat.le_of_ble_eq_true rfl) d_X6_account_192 (k_I (fun y43 M42 h => ?_)) (fun _ _ h9 => False.elim h9)
    try dsimp only at h
    exact R_retv (pc := 195) d_X6_account_195 h
  rw [if_neg c12] at h
  have o9 : v1.toInt < 0 ∨ 12 < v1.toInt := by
    have n0 := ne_toInt c0
    rw [show Int32.toInt (0 : Int32) = 0 by decide] at n0
    have n1 := ne_toInt c1
    rw [show Int32.toInt (1 : Int32) = 1 by decide] at n1
    have n2 := ne_toInt c2
    rw [show Int32.toInt (2 : Int32) = 2 by decide] at n2
    have n3 := ne_toInt c3
    rw [show Int32.toInt (3 : Int32) = 3 by decide] at n3
    have n4 := ne_toInt c4
    rw [show Int32.toInt (4 : Int32) = 4 by decide] at n4
    have n5 := ne_toInt c5
    rw [show Int32.toInt (5 : Int32) = 5 by decide] at n5
    have n6 := ne_toInt c6
    rw [show Int32.toInt (6 : Int32) = 6 by decide] at n6
    have n7 := ne_toInt c7
    rw [show Int32.toInt (7 : Int32) = 7 by decide] at n7
    have n8 := ne_toInt c8
    rw [show Int32.toInt (8 : Int32) = 8 by decide] at n8
    have n9 := ne_toInt c9
    rw [show Int32.toInt (9 : Int32) = 9 by decide] at n9
    have n10 := ne_toInt c10
    rw [show Int32.toInt (10 : Int32) = 10 by decide] at n10
    have n11 := ne_toInt c11
    rw [show Int32.toInt (11 : Int32) = 11 by decide] at n11
    have n12 := ne_toInt c12
    rw [show Int32.toInt (12 : Int32) = 12 by decide] at n12
    omega
  refine R_tsOut (pc := 1) (tgt := 196) d_X6_account_1 o9 (by decide) ?_
  exact R_throwW rfl rfl thr_RX6_68_310_72 (by decide) (by decide) (Nat.le_of_ble_eq_true rfl) d_X6_account_196 d_X6_account_199 d_X6_account_200 d_X6_account_203 d_X6_account_206 h
/-! X6_meanDistance -/
theorem d_X6_meanDistance_0 : decode mX6_meanDistance.2.1 0 = .ok (.aload_n 0, 1) := by decide +kernel
theorem d_X6_meanDistance_1 : decode mX6_meanDistance.2.1 1 = .ok (.getfield 10, 3) := by decide +kernel
theorem d_X6_meanDistance_4 : decode mX6_meanDistance.2.1 4 = .ok (.iconst 0, 1) := by decide +kernel
theorem d_X6_meanDistance_5 : decode mX6_meanDistance.2.1 5 = .ok (.invokevirtual 301, 3) := by decide +kernel
theorem d_X6_meanDistance_8 : decode mX6_meanDistance.2.1 8 = .ok (.istore_n 1, 1) := by decide +kernel
theorem d_X6_meanDistance_9 : decode mX6_meanDistance.2.1 9 = .ok (.iload_n 1, 1) := by decide +kernel
theorem d_X6_meanDistance_10 : decode mX6_meanDistance.2.1 10 = .ok (.ifCond .ne 14, 3) := by decide +kernel
theorem d_X6_meanDistance_13 : decode mX6_meanDistance.2.1 13 = .ok (.new 312, 3) := by decide +kernel
theorem d_X6_meanDistance_16 : decode mX6_meanDistance.2.1 16 = .ok (.dup, 1) := by decide +kernel
theorem d_X6_meanDistance_17 : decode mX6_meanDistance.2.1 17 = .ok (.ldc_w 314, 3) := by decide +kernel
theorem d_X6_meanDistance_20 : decode mX6_meanDistance.2.1 20 = .ok (.invokespecial 316, 3) := by decide +kernel
theorem d_X6_meanDistance_23 : decode mX6_meanDistance.2.1 23 = .ok (.athrow, 1) := by decide +kernel
theorem d_X6_meanDistance_24 : decode mX6_meanDistance.2.1 24 = .ok (.aload_n 0, 1) := by decide +kernel
theorem d_X6_meanDistance_25 : decode mX6_meanDistance.2.1 25 = .ok (.getfield 10, 3) := by decide +kernel
theorem d_X6_meanDistance_28 : decode mX6_meanDistance.2.1 28 = .ok (.invokevirtual 307, 3) := by decide +kernel
theorem d_X6_meanDistance_31 : decode mX6_meanDistance.2.1 31 = .ok (.i2d, 1) := by decide +kernel
theorem d_X6_meanDistance_32 : decode mX6_meanDistance.2.1 32 = .ok (.iload_n 1, 1) := by decide +kernel
theorem d_X6_meanDistance_33 : decode mX6_meanDistance.2.1 33 = .ok (.i2d, 1) := by decide +kernel
theorem d_X6_meanDistance_34 : decode mX6_meanDistance.2.1 34 = .ok (.ddiv, 1) := by decide +kernel
theorem d_X6_meanDistance_35 : decode mX6_meanDistance.2.1 35 = .ok (.dreturn, 1) := by decide +kernel
def T_X6_meanDistance (Q : UInt64 → Mem → Prop) (X : String → Mem → Prop) (v0 : Nat) (M : Mem) : Prop := (kd v0 = 6) ∧ (kd (rf v0 0) = 3) ∧ T_X3_countStatus (fun y4 M3 => if y4 = 0 then (X "java/lang/ArithmeticException" M3) else (T_X3_sumOfDistances (fun y6 M5 => (vf_n64 (FP.ddiv (FP.i2d y6) (FP.i2d y4))) ∧ Q (FP.ddiv (FP.i2d y6) (FP.i2d y4)) M5)  (rf v0 0) M3))  (rf v0 0) 0 M
set_option maxRecDepth 100000 in
set_option maxHeartbeats 4000000 in
theorem c_X6_meanDistance {g : GG} (v0 : Nat) (M : Mem) (Q : UInt64 → Mem → Prop) (X : String → Mem → Prop) (h : T_X6_meanDistance Q X v0 M) : CT g 11 mX6_meanDistance [.ref (g.1 + v0)] M 1 (oD Q X) := by
  refine CT_of (L := [some (.ref (g.1 + v0)), none]) (by decide) rfl (Nat.le_of_ble_eq_true rfl) (ro_D rfl) rfl ?_
  unfold T_X6_meanDistance at h
  refine R_aload_n (pc := 0) d_X6_meanDistance_0 rfl rfl ?_
  obtain ⟨k1, h⟩ := h
  refine R_getR (pc := 1) fld_RX6_10 rfl rfl k1 d_X6_meanDistance_1 ?_
  refine R_iconst (pc := 4) (v := 0) d_X6_meanDistance_4 (by decide) ?_
  obtain ⟨k2, h⟩ := h
  refine R_callV (pc := 5) (As := [.int 0]) (rest := []) (c_X3_countStatus (g := g) (rf v0 0) 0 M _ h) rfl rfl cal_RX6_301 ins_X3_countStatus sel_X3_countStatus (cls_at k2 clsOK3) (by decide) (by decide) rfl rfl (Nat.le_of_ble_eq_true rfl) d_X6_meanDistance_5 (k_I (fun y4 M3 h => ?_)) (fun _ _ h9 => False.elim h9)
  try dsimp only at h
  refine R_istore_n (pc := 8) (L' := [some (.ref (g.1 + v0)), some (.int y4)]) d_X6_meanDistance_8 rfl (by decide) rfl ?_
  refine R_iload_n (pc := 9) d_X6_meanDistance_9 rfl rfl ?_
  refine R_if_ne (pc := 10) (tgt := 24) d_X6_meanDistance_10 (by decide) (fun c => ?_) (fun c => ?_)
  · rw [if_neg c] at h
    refine R_aload_n (pc := 24) d_X6_meanDistance_24 rfl rfl ?_
    refine R_getR (pc := 25) fld_RX6_10 rfl rfl k1 d_X6_meanDistance_25 ?_
    refine R_callV (pc := 28) (As := []) (rest := []) (c_X3_sumOfDistances (g := g) (rf v0 0) M3 _ h) rfl rfl cal_RX6_307 ins_X3_sumOfDistances sel_X3_sumOfDistances (cls_at k2 clsOK3) (by decide) (by decide) rfl rfl (Nat.le_of_ble_eq_true rfl) d_X6_meanDistance_28 (k_I (fun y6 M5 h => ?_)) (fun _ _ h9 => False.elim h9)
    try dsimp only at h
    refine R_i2d (pc := 31) d_X6_meanDistance_31 ?_
    refine R_iload_n (pc := 32) d_X6_meanDistance_32 rfl rfl ?_
    refine R_i2d (pc := 33) d_X6_meanDistance_33 ?_
    obtain ⟨k7, h⟩ := h
    refine R_ddiv (pc := 34) d_X6_meanDistance_34 k7 ?_
    exact R_retv (pc := 35) d_X6_meanDistance_35 h
  · rw [if_pos c] at h
    exact R_throwW rfl rfl thr_RX6_312_314_316 (by decide) (by decide) (Nat.le_of_ble_eq_true rfl) d_X6_meanDistance_13 d_X6_meanDistance_16 d_X6_meanDistance_17 d_X6_meanDistance_20 d_X6_meanDistance_23 h
