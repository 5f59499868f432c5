/-! X6_faultOfBooking -/
theorem d_X6_faultOfBooking_0 : decode mX6_faultOfBooking.2.1 0 = .ok (.iload_n 1, 1) := by decide +kernel
theorem d_X6_faultOfBooking_1 : decode mX6_faultOfBooking.2.1 1 = .ok (.aload_n 0, 1) := by decide +kernel
theorem d_X6_faultOfBooking_2 : decode mX6_faultOfBooking.2.1 2 = .ok (.getfield 10, 3) := by decide +kernel
theorem d_X6_faultOfBooking_5 : decode mX6_faultOfBooking.2.1 5 = .ok (.getfield 75, 3) := by decide +kernel
theorem d_X6_faultOfBooking_8 : decode mX6_faultOfBooking.2.1 8 = .ok (.getfield 94, 3) := by decide +kernel
theorem d_X6_faultOfBooking_11 : decode mX6_faultOfBooking.2.1 11 = .ok (.invokestatic 64, 3) := by decide +kernel
theorem d_X6_faultOfBooking_14 : decode mX6_faultOfBooking.2.1 14 = .ok (.ifCond .ne 5, 3) := by decide +kernel
theorem d_X6_faultOfBooking_17 : decode mX6_faultOfBooking.2.1 17 = .ok (.iconst 1, 1) := by decide +kernel
theorem d_X6_faultOfBooking_18 : decode mX6_faultOfBooking.2.1 18 = .ok (.ireturn, 1) := by decide +kernel
theorem d_X6_faultOfBooking_19 : decode mX6_faultOfBooking.2.1 19 = .ok (.aload_n 0, 1) := by decide +kernel
theorem d_X6_faultOfBooking_20 : decode mX6_faultOfBooking.2.1 20 = .ok (.getfield 10, 3) := by decide +kernel
theorem d_X6_faultOfBooking_23 : decode mX6_faultOfBooking.2.1 23 = .ok (.iload_n 2, 1) := by decide +kernel
theorem d_X6_faultOfBooking_24 : decode mX6_faultOfBooking.2.1 24 = .ok (.invokevirtual 214, 3) := by decide +kernel
theorem d_X6_faultOfBooking_27 : decode mX6_faultOfBooking.2.1 27 = .ok (.ifCond .eq 25, 3) := by decide +kernel
theorem d_X6_faultOfBooking_30 : decode mX6_faultOfBooking.2.1 30 = .ok (.iload_n 3, 1) := by decide +kernel
theorem d_X6_faultOfBooking_31 : decode mX6_faultOfBooking.2.1 31 = .ok (.bipush 56, 2) := by decide +kernel
theorem d_X6_faultOfBooking_33 : decode mX6_faultOfBooking.2.1 33 = .ok (.invokestatic 64, 3) := by decide +kernel
theorem d_X6_faultOfBooking_36 : decode mX6_faultOfBooking.2.1 36 = .ok (.ifCond .eq 16, 3) := by decide +kernel
theorem d_X6_faultOfBooking_39 : decode mX6_faultOfBooking.2.1 39 = .ok (.iload 4, 2) := by decide +kernel
theorem d_X6_faultOfBooking_41 : decode mX6_faultOfBooking.2.1 41 = .ok (.iconst 4, 1) := by decide +kernel
theorem d_X6_faultOfBooking_42 : decode mX6_faultOfBooking.2.1 42 = .ok (.invokestatic 64, 3) := by decide +kernel
theorem d_X6_faultOfBooking_45 : decode mX6_faultOfBooking.2.1 45 = .ok (.ifCond .eq 7, 3) := by decide +kernel
theorem d_X6_faultOfBooking_48 : decode mX6_faultOfBooking.2.1 48 = .ok (.iconst 1, 1) := by decide +kernel
theorem d_X6_faultOfBooking_49 : decode mX6_faultOfBooking.2.1 49 = .ok (.goto 4, 3) := by decide +kernel
theorem d_X6_faultOfBooking_52 : decode mX6_faultOfBooking.2.1 52 = .ok (.iconst 0, 1) := by decide +kernel
theorem d_X6_faultOfBooking_53 : decode mX6_faultOfBooking.2.1 53 = .ok (.istore 5, 2) := by decide +kernel
theorem d_X6_faultOfBooking_55 : decode mX6_faultOfBooking.2.1 55 = .ok (.iload 5, 2) := by decide +kernel
theorem d_X6_faultOfBooking_57 : decode mX6_faultOfBooking.2.1 57 = .ok (.ifCond .eq 7, 3) := by decide +kernel
theorem d_X6_faultOfBooking_60 : decode mX6_faultOfBooking.2.1 60 = .ok (.iconst 0, 1) := by decide +kernel
theorem d_X6_faultOfBooking_61 : decode mX6_faultOfBooking.2.1 61 = .ok (.goto 4, 3) := by decide +kernel
theorem d_X6_faultOfBooking_64 : decode mX6_faultOfBooking.2.1 64 = .ok (.iconst 2, 1) := by decide +kernel
theorem d_X6_faultOfBooking_65 : decode mX6_faultOfBooking.2.1 65 = .ok (.ireturn, 1) := by decide +kernel
def T_X6_faultOfBooking_65 (Q : Int32 → Mem → Prop) (s0 : Int32) (M : Mem) : Prop := Q s0 M
set_option maxRecDepth 100000 in
set_option maxHeartbeats 4000000 in
theorem B_X6_faultOfBooking_65 {g : GG} (Q : Int32 → Mem → Prop) (s0 : Int32) (M : Mem) (h : T_X6_faultOfBooking_65 Q s0 M) : WP g 11 mX6_faultOfBooking 65 [none, none, none, none, none, none] [.int s0] M 0 (oI Q noX) := by
  unfold T_X6_faultOfBooking_65 at h
  exact R_retv (pc := 65) d_X6_faultOfBooking_65 h
def T_X6_faultOfBooking_53 (Q : Int32 → Mem → Prop) (s0 : Int32) (M : Mem) : Prop := if s0 = 0 then (T_X6_faultOfBooking_65 Q 2 M) else (T_X6_faultOfBooking_65 Q 0 M)
set_option maxRecDepth 100000 in
set_option maxHeartbeats 4000000 in
theorem B_X6_faultOfBooking_53 {g : GG} (Q : Int32 → Mem → Prop) (s0 : Int32) (M : Mem) (h : T_X6_faultOfBooking_53 Q s0 M) : WP g 11 mX6_faultOfBooking 53 [none, none, none, none, none, none] [.int s0] M 0 (oI Q noX) := by
  unfold T_X6_faultOfBooking_53 at h
  refine R_istore (pc := 53) (L' := [none, none, none, none, none, some (.int s0)]) d_X6_faultOfBooking_53 (by decide) rfl ?_
  refine R_iload (pc := 55) d_X6_faultOfBooking_55 rfl ?_
  refine R_if_eq (pc := 57) (tgt := 64) d_X6_faultOfBooking_57 (by decide) (fun c => ?_) (fun c => ?_)
  · rw [if_pos c] at h
    refine R_iconst (pc := 64) (v := 2) d_X6_faultOfBooking_64 (by decide) ?_
    exact WP_sub (B_X6_faultOfBooking_65 Q 2 M h) (by decide) (ls_n (ls_n (ls_n (ls_n (ls_n (ls_n ls_0))))))
  · rw [if_neg c] at h
    refine R_iconst (pc := 60) (v := 0) d_X6_faultOfBooking_60 (by decide) ?_
    refine R_goto (pc := 61) (tgt := 65) d_X6_faultOfBooking_61 (by decide) ?_
    exact WP_sub (B_X6_faultOfBooking_65 Q 0 M h) (by decide) (ls_n (ls_n (ls_n (ls_n (ls_n (ls_n ls_0))))))
def T_X6_faultOfBooking_52 (Q : Int32 → Mem → Prop) (M : Mem) : Prop := T_X6_faultOfBooking_53 Q 0 M
set_option maxRecDepth 100000 in
set_option maxHeartbeats 4000000 in
theorem B_X6_faultOfBooking_52 {g : GG} (Q : Int32 → Mem → Prop) (M : Mem) (h : T_X6_faultOfBooking_52 Q  M) : WP g 11 mX6_faultOfBooking 52 [none, none, none, none, none, none] [] M 0 (oI Q noX) := by
  unfold T_X6_faultOfBooking_52 at h
  refine R_iconst (pc := 52) (v := 0) d_X6_faultOfBooking_52 (by decide) ?_
  exact WP_sub (B_X6_faultOfBooking_53 Q 0 M h) (by decide) (ls_n (ls_n (ls_n (ls_n (ls_n (ls_n ls_0))))))
def T_X6_faultOfBooking (Q : Int32 → Mem → Prop) (v0 : Nat) (v1 : Int32) (v2 : Int32) (v3 : Int32) (v4 : Int32) (M : Mem) : Prop := (kd v0 = 6) ∧ (kd (rf v0 0) = 3) ∧ (kd (rf (rf v0 0) 2) = 4) ∧ T_X6_isBelow (fun y5 M4 => if y5 = 0 then (Q 1 M4) else (T_X3_isParty (fun y7 M6 => if y7 = 0 then (T_X6_faultOfBooking_52 Q M6) else (T_X6_isBelow (fun y9 M8 => if y9 = 0 then (T_X6_faultOfBooking_52 Q M8) else (T_X6_isBelow (fun y11 M10 => if y11 = 0 then (T_X6_faultOfBooking_52 Q M10) else (T_X6_faultOfBooking_53 Q 1 M10))  v4 4 M8))  v3 56 M6))  (rf v0 0) v2 M4))  v1 (M.1 (rf (rf v0 0) 2) 2) M
set_option maxRecDepth 100000 in
set_option maxHeartbeats 4000000 in
theorem c_X6_faultOfBooking {g : GG} (v0 : Nat) (v1 : Int32) (v2 : Int32) (v3 : Int32) (v4 : Int32) (M : Mem) (Q : Int32 → Mem → Prop) (h : T_X6_faultOfBooking Q v0 v1 v2 v3 v4 M) : CT g 11 mX6_faultOfBooking [.ref (g.1 + v0), .int v1, .int v2, .int v3, .int v4] M 0 (oI Q noX) := by
  refine CT_of (L := [some (.ref (g.1 + v0)), some (.int v1), some (.int v2), some (.int v3), some (.int v4), none]) (by decide) rfl (Nat.le_of_ble_eq_true rfl) (ro_I rfl) rfl ?_
  unfold T_X6_faultOfBooking at h
  refine R_iload_n (pc := 0) d_X6_faultOfBooking_0 rfl rfl ?_
  refine R_aload_n (pc := 1) d_X6_faultOfBooking_1 rfl rfl ?_
  obtain ⟨k1, h⟩ := h
  refine R_getR (pc := 2) fld_RX6_10 rfl rfl k1 d_X6_faultOfBooking_2 ?_
  obtain ⟨k2, h⟩ := h
  refine R_getR (pc := 5) fld_RX6_75 rfl rfl k2 d_X6_faultOfBooking_5 ?_
  obtain ⟨k3, h⟩ := h
  refine R_getI (pc := 8) fld_RX6_94 rfl rfl k3 d_X6_faultOfBooking_8 ?_
  refine R_callS (pc := 11) (As := [.int v1, .int (M.1 (rf (rf v0 0) 2) 2)]) (rest := []) (c_X6_isBelow (g := g) v1 (M.1 (rf (rf v0 0) 2) 2) M _ h) rfl rfl cal_RX6_64 sta_X6_isBelow (by decide) (by decide) rfl rfl (Nat.le_of_ble_eq_true rfl) d_X6_faultOfBooking_11 (k_Z (fun y5 M4 h => ?_)) (fun _ _ h9 => False.elim h9)
  try dsimp only at h
  refine R_if_ne (pc := 14) (tgt := 19) d_X6_faultOfBooking_14 (by decide) (fun c => ?_) (fun c => ?_)
  · rw [if_neg c] at h
    refine R_aload_n (pc := 19) d_X6_faultOfBooking_19 rfl rfl ?_
    refine R_getR (pc := 20) fld_RX6_10 rfl rfl k1 d_X6_faultOfBooking_20 ?_
    refine R_iload_n (pc := 23) d_X6_faultOfBooking_23 rfl rfl ?_
    refine R_callV (pc := 24) (As := [.int v2]) (rest := []) (c_X3_isParty (g := g) (rf v0 0) v2 M4 _ h) rfl rfl cal_RX6_214 ins_X3_isParty sel_X3_isParty (cls_at k2 clsOK3) (by decide) (by decide) rfl rfl (Nat.le_of_ble_eq_true rfl) d_X6_faultOfBooking_24 (k_Z (fun y7 M6 h => ?_)) (fun _ _ h9 => False.elim h9)
    try dsimp only at h
    refine R_if_eq (pc := 27) (tgt := 52) d_X6_faultOfBooking_27 (by decide) (fun c => ?_) (fun c => ?_)
    · rw [if_pos c] at h
      exact WP_sub (B_X6_faultOfBooking_52 Q M6 h) (by decide) (ls_n (ls_n (ls_n (ls_n (ls_n (ls_n ls_0))))))
    · rw [if_neg c] at h
      refine R_iload_n (pc := 30) d_X6_faultOfBooking_30 rfl rfl ?_
      refine R_bipush (pc := 31) (v := 56) d_X6_faultOfBooking_31 (by decide) ?_
      refine R_callS (pc := 33) (As := [.int v3, .int 56]) (rest := []) (c_X6_isBelow (g := g) v3 56 M6 _ h) rfl rfl cal_RX6_64 sta_X6_isBelow (by decide) (by decide) rfl rfl (Nat.le_of_ble_eq_true rfl) d_X6_faultOfBooking_33 (k_Z (fun y9 M8 h => ?_)) (fun _ _ h9 => False.elim h9)
      try dsimp only at h
      refine R_if_eq (pc := 36) (tgt := 52) d_X6_faultOfBooking_36 (by decide) (fun c => ?_) (fun c => ?_)
      · rw [if_pos c] at h
        exact WP_sub (B_X6_faultOfBooking_52 Q M8 h) (by decide) (ls_n (ls_n (ls_n (ls_n (ls_n (ls_n ls_0))))))
      · rw [if_neg c] at h
        refine R_iload (pc := 39) d_X6_faultOfBooking_39 rfl ?_
        refine R_iconst (pc := 41) (v := 4) d_X6_faultOfBooking_41 (by decide) ?_
        refine R_callS (pc := 42) (As := [.int v4, .int 4]) (rest := []) (c_X6_isBelow (g := g) v4 4 M8 _ h) rfl rfl cal_RX6_64 sta_X6_isBelow (by decide) (by decide) rfl rfl (Nat.le_of_ble_eq_true rfl) d_X6_faultOfBooking_42 (k_Z (fun y11 M10 h => ?_)) (fun _ _ h9 => False.elim h9)
        try dsimp only at h
        refine R_if_eq (pc := 45) (tgt := 52) d_X6_faultOfBooking_45 (by decide) (fun c => ?_) (fun c => ?_)
        · rw [if_pos c] at h
          exact WP_sub (B_X6_faultOfBooking_52 Q M10 h) (by decide) (ls_n (ls_n (ls_n (ls_n (ls_n (ls_n ls_0))))))
        · rw [if_neg c] at h
          refine R_iconst (pc := 48) (v := 1) d_X6_faultOfBooking_48 (by decide) ?_
          refine R_goto (pc := 49) (tgt := 53) d_X6_faultOfBooking_49 (by decide) ?_
          exact WP_sub (B_X6_faultOfBooking_53 Q 1 M10 h) (by decide) (ls_n (ls_n (ls_n (ls_n (ls_n (ls_n ls_0))))))
  · rw [if_pos c] at h
    refine R_iconst (pc := 17) (v := 1) d_X6_faultOfBooking_17 (by decide) ?_
    exact R_retv (pc := 18) d_X6_faultOfBooking_18 h
/-! X6_writeReport -/
theorem d_X6_writeReport_0 : decode mX6_writeReport.2.1 0 = .ok (.aload_n 0, 1) := by decide +kernel
theorem d_X6_writeReport_1 : decode mX6_writeReport.2.1 1 = .ok (.getfield 53, 3) := by decide +kernel
theorem d_X6_writeReport_4 : decode mX6_writeReport.2.1 4 = .ok (.invokevirtual 90, 3) := by decide +kernel
theorem d_X6_writeReport_7 : decode mX6_writeReport.2.1 7 = .ok (.astore 4, 2) := by decide +kernel
theorem d_X6_writeReport_9 : decode mX6_writeReport.2.1 9 = .ok (.aload 4, 2) := by decide +kernel
theorem d_X6_writeReport_11 : decode mX6_writeReport.2.1 11 = .ok (.iconst 0, 1) := by decide +kernel
theorem d_X6_writeReport_12 : decode mX6_writeReport.2.1 12 = .ok (.iload_n 1, 1) := by decide +kernel
theorem d_X6_writeReport_13 : decode mX6_writeReport.2.1 13 = .ok (.iastore, 1) := by decide +kernel
theorem d_X6_writeReport_14 : decode mX6_writeReport.2.1 14 = .ok (.aload 4, 2) := by decide +kernel
theorem d_X6_writeReport_16 : decode mX6_writeReport.2.1 16 = .ok (.iconst 1, 1) := by decide +kernel
theorem d_X6_writeReport_17 : decode mX6_writeReport.2.1 17 = .ok (.iload_n 2, 1) := by decide +kernel
theorem d_X6_writeReport_18 : decode mX6_writeReport.2.1 18 = .ok (.iastore, 1) := by decide +kernel
theorem d_X6_writeReport_19 : decode mX6_writeReport.2.1 19 = .ok (.aload_n 0, 1) := by decide +kernel
theorem d_X6_writeReport_20 : decode mX6_writeReport.2.1 20 = .ok (.getfield 53, 3) := by decide +kernel
theorem d_X6_writeReport_23 : decode mX6_writeReport.2.1 23 = .ok (.invokevirtual 90, 3) := by decide +kernel
theorem d_X6_writeReport_26 : decode mX6_writeReport.2.1 26 = .ok (.astore 5, 2) := by decide +kernel
theorem d_X6_writeReport_28 : decode mX6_writeReport.2.1 28 = .ok (.aload 5, 2) := by decide +kernel
theorem d_X6_writeReport_30 : decode mX6_writeReport.2.1 30 = .ok (.iconst 0, 1) := by decide +kernel
theorem d_X6_writeReport_31 : decode mX6_writeReport.2.1 31 = .ok (.iload_n 3, 1) := by decide +kernel
theorem d_X6_writeReport_32 : decode mX6_writeReport.2.1 32 = .ok (.iastore, 1) := by decide +kernel
theorem d_X6_writeReport_33 : decode mX6_writeReport.2.1 33 = .ok (.aload 5, 2) := by decide +kernel
theorem d_X6_writeReport_35 : decode mX6_writeReport.2.1 35 = .ok (.iconst 1, 1) := by decide +kernel
theorem d_X6_writeReport_36 : decode mX6_writeReport.2.1 36 = .ok (.aload_n 0, 1) := by decide +kernel
theorem d_X6_writeReport_37 : decode mX6_writeReport.2.1 37 = .ok (.getfield 35, 3) := by decide +kernel
theorem d_X6_writeReport_40 : decode mX6_writeReport.2.1 40 = .ok (.getfield 377, 3) := by decide +kernel
theorem d_X6_writeReport_43 : decode mX6_writeReport.2.1 43 = .ok (.iastore, 1) := by decide +kernel
theorem d_X6_writeReport_44 : decode mX6_writeReport.2.1 44 = .ok (.return_, 1) := by decide +kernel
def T_X6_writeReport (Q : Mem → Prop) (v0 : Nat) (v1 : Int32) (v2 : Int32) (v3 : Int32) (M : Mem) : Prop := (kd v0 = 6) ∧ (kd (rf v0 6) = 4) ∧ T_X4_addRow (fun y4 M3 => (kd y4 = 9) ∧ (vp_in 0 (ln y4)) ∧ ∀ M7 : Mem, M7 = mset M3 y4 (Int32.toNatClampNeg 0) v1 → (vp_in 1 (ln y4)) ∧ ∀ M9 : Mem, M9 = mset M7 y4 (Int32.toNatClampNeg 1) v2 → T_X4_addRow (fun y11 M10 => (kd y11 = 9) ∧ (vp_in 0 (ln y11)) ∧ ∀ M14 : Mem, M14 = mset M10 y11 (Int32.toNatClampNeg 0) v3 → (kd (rf v0 4) = 2) ∧ (vp_in 1 (ln y11)) ∧ ∀ M17 : Mem, M17 = mset M14 y11 (Int32.toNatClampNeg 1) (M14.1 (rf v0 4) 5) → Q M17)  (rf v0 6) M9)  (rf v0 6) M
set_option maxRecDepth 100000 in
set_option maxHeartbeats 4000000 in
theorem c_X6_writeReport {g : GG} (v0 : Nat) (v1 : Int32) (v2 : Int32) (v3 : Int32) (M : Mem) (Q : Mem → Prop) (h : T_X6_writeReport Q v0 v1 v2 v3 M) : CT g 10 mX6_writeReport [.ref (g.1 + v0), .int v1, .int v2, .int v3] M 0 (oV Q noX) := by
  refine CT_of (L := [some (.ref (g.1 + v0)), some (.int v1), some (.int v2), some (.int v3), none, none]) (by decide) rfl (Nat.le_of_ble_eq_true rfl) (ro_V rfl) rfl ?_
  unfold T_X6_writeReport at h
  refine R_aload_n (pc := 0) d_X6_writeReport_0 rfl rfl ?_
  obtain ⟨k1, h⟩ := h
  refine R_getR (pc := 1) fld_RX6_53 rfl rfl k1 d_X6_writeReport_1 ?_
  obtain ⟨k2, h⟩ := h
  refine R_callV (pc := 4) (As := []) (rest := []) (c_X4_addRow (g := g) (rf v0 6) M _ h) rfl rfl cal_RX6_90 ins_X4_addRow sel_X4_addRow (cls_at k2 clsOK4) (by decide) (by decide) rfl rfl (Nat.le_of_ble_eq_true rfl) d_X6_writeReport_4 (k_R (fun y4 M3 h => ?_)) (fun _ _ h9 => False.elim h9)
  try dsimp only at h
  refine R_astore (pc := 7) (L' := [some (.ref (g.1 + v0)), some (.int v1), some (.int v2), some (.int v3), some (.ref (g.1 + y4)), none]) d_X6_writeReport_7 (by decide) rfl ?_
  refine R_aload (pc := 9) d_X6_writeReport_9 rfl ?_
  refine R_iconst (pc := 11) (v := 0) d_X6_writeReport_11 (by decide) ?_
  refine R_iload_n (pc := 12) d_X6_writeReport_12 rfl rfl ?_
  obtain ⟨k5, h⟩ := h
  obtain ⟨k6, h⟩ := h
  refine R_iast (pc := 13) k5 k6 d_X6_writeReport_13 (N_M (fun M7 eM7 => ?_))
  have h := h M7 eM7
  refine R_aload (pc := 14) d_X6_writeReport_14 rfl ?_
  refine R_iconst (pc := 16) (v := 1) d_X6_writeReport_16 (by decide) ?_
  refine R_iload_n (pc := 17) d_X6_writeReport_17 rfl rfl ?_
  obtain ⟨k8, h⟩ := h
  refine R_iast (pc := 18) k5 k8 d_X6_writeReport_18 (N_M (fun M9 eM9 => ?_))
  have h := h M9 eM9
  refine R_aload_n (pc := 19) d_X6_writeReport_19 rfl rfl ?_
  refine R_getR (pc := 20) fld_RX6_53 rfl rfl k1 d_X6_writeReport_20 ?_
  refine R_callV (pc := 23) (As := []) (rest := []) (c_X4_addRow (g := g) (rf v0 6) M9 _ h) rfl rfl cal_RX6_90 ins_X4_addRow sel_X4_addRow (cls_at k2 clsOK4) (by decide) (by decide) rfl rfl (Nat.le_of_ble_eq_true rfl) d_X6_writeReport_23 (k_R (fun y11 M10 h => ?_)) (fun _ _ h9 => False.elim h9)
  try dsimp only at h
  refine R_astore (pc := 26) (L' := [some (.ref (g.1 + v0)), some (.int v1), some (.int v2), some (.int v3), some (.ref (g.1 + y4)), some (.ref (g.1 + y11))]) d_X6_writeReport_26 (by decide) rfl ?_
  refine R_aload (pc := 28) d_X6_writeReport_28 rfl ?_
  refine R_iconst (pc := 30) (v := 0) d_X6_writeReport_30 (by decide) ?_
  refine R_iload_n (pc := 31) d_X6_writeReport_31 rfl rfl ?_
  obtain ⟨k12, h⟩ := h
  obtain ⟨k13, h⟩ := h
  refine R_iast (pc := 32) k12 k13 d_X6_writeReport_32 (N_M (fun M14 eM14 => ?_))
  have h := h M14 eM14
  refine R_aload (pc := 33) d_X6_writeReport_33 rfl ?_
  refine R_iconst (pc := 35) (v := 1) d_X6_writeReport_35 (by decide) ?_
  refine R_aload_n (pc := 36) d_X6_writeReport_36 rfl rfl ?_
  refine R_getR (pc := 37) fld_RX6_35 rfl rfl k1 d_X6_writeReport_37 ?_
  obtain ⟨k15, h⟩ := h
  refine R_getI (pc := 40) fld_RX6_377 rfl rfl k15 d_X6_writeReport_40 ?_
  obtain ⟨k16, h⟩ := h
  refine R_iast (pc := 43) k12 k16 d_X6_writeReport_43 (N_M (fun M17 eM17 => ?_))
  have h := h M17 eM17
  exact R_ret (pc := 44) d_X6_writeReport_44 h
/-! X6_book -/
theorem d_X6_book_0 : decode mX6_book.2.1 0 = .ok (.aload_n 0, 1) := by decide +kernel
theorem d_X6_book_1 : decode mX6_book.2.1 1 = .ok (.iload_n 1, 1) := by decide +kernel
theorem d_X6_book_2 : decode mX6_book.2.1 2 = .ok (.iload_n 2, 1) := by decide +kernel
theorem d_X6_book_3 : decode mX6_book.2.1 3 = .ok (.iload_n 3, 1) := by decide +kernel
theorem d_X6_book_4 : decode mX6_book.2.1 4 = .ok (.iload 4, 2) := by decide +kernel
theorem d_X6_book_6 : decode mX6_book.2.1 6 = .ok (.invokevirtual 181, 3) := by decide +kernel
theorem d_X6_book_9 : decode mX6_book.2.1 9 = .ok (.invokestatic 136, 3) := by decide +kernel
theorem d_X6_book_12 : decode mX6_book.2.1 12 = .ok (.aload_n 0, 1) := by decide +kernel
theorem d_X6_book_13 : decode mX6_book.2.1 13 = .ok (.getfield 35, 3) := by decide +kernel
theorem d_X6_book_16 : decode mX6_book.2.1 16 = .ok (.iload_n 1, 1) := by decide +kernel
theorem d_X6_book_17 : decode mX6_book.2.1 17 = .ok (.iload_n 2, 1) := by decide +kernel
theorem d_X6_book_18 : decode mX6_book.2.1 18 = .ok (.iload_n 3, 1) := by decide +kernel
theorem d_X6_book_19 : decode mX6_book.2.1 19 = .ok (.iload 4, 2) := by decide +kernel
theorem d_X6_book_21 : decode mX6_book.2.1 21 = .ok (.invokevirtual 185, 3) := by decide +kernel
theorem d_X6_book_24 : decode mX6_book.2.1 24 = .ok (.istore 5, 2) := by decide +kernel
theorem d_X6_book_26 : decode mX6_book.2.1 26 = .ok (.iload 5, 2) := by decide +kernel
theorem d_X6_book_28 : decode mX6_book.2.1 28 = .ok (.ifCond .eq 33, 3) := by decide +kernel
theorem d_X6_book_31 : decode mX6_book.2.1 31 = .ok (.aload_n 0, 1) := by decide +kernel
theorem d_X6_book_32 : decode mX6_book.2.1 32 = .ok (.getfield 53, 3) := by decide +kernel
theorem d_X6_book_35 : decode mX6_book.2.1 35 = .ok (.invokevirtual 188, 3) := by decide +kernel
theorem d_X6_book_38 : decode mX6_book.2.1 38 = .ok (.aload_n 0, 1) := by decide +kernel
theorem d_X6_book_39 : decode mX6_book.2.1 39 = .ok (.iload_n 1, 1) := by decide +kernel
theorem d_X6_book_40 : decode mX6_book.2.1 40 = .ok (.iload_n 3, 1) := by decide +kernel
theorem d_X6_book_41 : decode mX6_book.2.1 41 = .ok (.iconst 4, 1) := by decide +kernel
theorem d_X6_book_42 : decode mX6_book.2.1 42 = .ok (.imul, 1) := by decide +kernel
theorem d_X6_book_43 : decode mX6_book.2.1 43 = .ok (.iload 4, 2) := by decide +kernel
theorem d_X6_book_45 : decode mX6_book.2.1 45 = .ok (.iadd, 1) := by decide +kernel
theorem d_X6_book_46 : decode mX6_book.2.1 46 = .ok (.iload 5, 2) := by decide +kernel
theorem d_X6_book_48 : decode mX6_book.2.1 48 = .ok (.invokevirtual 191, 3) := by decide +kernel
theorem d_X6_book_51 : decode mX6_book.2.1 51 = .ok (.new 195, 3) := by decide +kernel
theorem d_X6_book_54 : decode mX6_book.2.1 54 = .ok (.dup, 1) := by decide +kernel
theorem d_X6_book_55 : decode mX6_book.2.1 55 = .ok (.ldc 197, 2) := by decide +kernel
theorem d_X6_book_57 : decode mX6_book.2.1 57 = .ok (.invokespecial 199, 3) := by decide +kernel
theorem d_X6_book_60 : decode mX6_book.2.1 60 = .ok (.athrow, 1) := by decide +kernel
theorem d_X6_book_61 : decode mX6_book.2.1 61 = .ok (.aload_n 0, 1) := by decide +kernel
theorem d_X6_book_62 : decode mX6_book.2.1 62 = .ok (.getfield 26, 3) := by decide +kernel
theorem d_X6_book_65 : decode mX6_book.2.1 65 = .ok (.aload_n 0, 1) := by decide +kernel
theorem d_X6_book_66 : decode mX6_book.2.1 66 = .ok (.getfield 10, 3) := by decide +kernel
theorem d_X6_book_69 : decode mX6_book.2.1 69 = .ok (.invokevirtual 87, 3) := by decide +kernel
theorem d_X6_book_72 : decode mX6_book.2.1 72 = .ok (.aload_n 0, 1) := by decide +kernel
theorem d_X6_book_73 : decode mX6_book.2.1 73 = .ok (.getfield 44, 3) := by decide +kernel
theorem d_X6_book_76 : decode mX6_book.2.1 76 = .ok (.iload_n 1, 1) := by decide +kernel
theorem d_X6_book_77 : decode mX6_book.2.1 77 = .ok (.iload_n 2, 1) := by decide +kernel
theorem d_X6_book_78 : decode mX6_book.2.1 78 = .ok (.iload_n 3, 1) := by decide +kernel
theorem d_X6_book_79 : decode mX6_book.2.1 79 = .ok (.iconst 4, 1) := by decide +kernel
theorem d_X6_book_80 : decode mX6_book.2.1 80 = .ok (.imul, 1) := by decide +kernel
theorem d_X6_book_81 : decode mX6_book.2.1 81 = .ok (.iload 4, 2) := by decide +kernel
theorem d_X6_book_83 : decode mX6_book.2.1 83 = .ok (.iadd, 1) := by decide +kernel
theorem d_X6_book_84 : decode mX6_book.2.1 84 = .ok (.invokevirtual 200, 3) := by decide +kernel
theorem d_X6_book_87 : decode mX6_book.2.1 87 = .ok (.ireturn, 1) := by decide +kernel
def T_X6_book (Q : Int32 → Mem → Prop) (X : String → Mem → Prop) (v0 : Nat) (v1 : Int32) (v2 : Int32) (v3 : Int32) (v4 : Int32) (M : Mem) : Prop := (kd v0 = 6) ∧ T_X6_faultOfBooking (fun y3 M2 => T_X6_throwFor (fun M4 => (kd (rf v0 4) = 2) ∧ T_X2_reasonFor (fun y7 M6 => if y7 = 0 then ((kd (rf v0 3) = 1) ∧ T_X1_keep (fun M9 => (kd (rf v0 5) = 0) ∧ T_X0_enterVisit (fun y12 M11 => Q y12 M11)  (rf v0 5) v1 v2 ((v3 * 4) + v4) M9)  (rf v0 3) (rf v0 0) M6) else ((kd (rf v0 6) = 4) ∧ T_X4_clear (fun M14 => T_X6_writeReport (fun M15 => X "java/lang/UnsupportedOperationException" M15)  v0 v1 ((v3 * 4) + v4) y7 M14)  (rf v0 6) M6))  (rf v0 4) v1 v2 v3 v4 M4) X y3 M2)  v0 v1 v2 v3 v4 M
set_option maxRecDepth 100000 in
set_option maxHeartbeats 4000000 in
theorem c_X6_book {g : GG} (v0 : Nat) (v1 : Int32) (v2 : Int32) (v3 : Int32) (v4 : Int32) (M : Mem) (Q : Int32 → Mem → Prop) (X : String → Mem → Prop) (h : T_X6_book Q X v0 v1 v2 v3 v4 M) : CT g 14 mX6_book [.ref (g.1 + v0), .int v1, .int v2, .int v3, .int v4] M 2 (oI Q X) := by
  refine CT_of (L := [some (.ref (g.1 + v0)), some (.int v1), some (.int v2), some (.int v3), some (.int v4), none]) (by decide) rfl (Nat.le_of_ble_eq_true rfl) (ro_I rfl) rfl ?_
  unfold T_X6_book at h
  refine R_aload_n (pc := 0) d_X6_book_0 rfl rfl ?_
  refine R_iload_n (pc := 1) d_X6_book_1 rfl rfl ?_
  refine R_iload_n (pc := 2) d_X6_book_2 rfl rfl ?_
  refine R_iload_n (pc := 3) d_X6_book_3 rfl rfl ?_
  refine R_iload (pc := 4) d_X6_book_4 rfl ?_
  obtain ⟨k1, h⟩ := h
  refine R_callV (pc := 6) (As := [.int v1, .int v2, .int v3, .int v4]) (rest := []) (c_X6_faultOfBooking (g := g) v0 v1 v2 v3 v4 M _ h) rfl rfl cal_RX6_181 ins_X6_faultOfBooking sel_X6_faultOfBooking (cls_at k1 clsOK6) (by decide) (by decide) rfl rfl (Nat.le_of_ble_eq_true rfl) d_X6_book_6 (k_I (fun y3 M2 h => ?_)) (fun _ _ h9 => False.elim h9)
  try dsimp only at h
  refine R_callS (pc := 9) (As := [.int y3]) (rest := []) (c_X6_throwFor (g := g) y3 M2 _ _ h) rfl rfl cal_RX6_136 sta_X6_throwFor (by decide) (by decide) rfl rfl (Nat.le_of_ble_eq_true rfl) d_X6_book_9 (k_V (fun M4 h => ?_)) (fun _ _ h9 => h9)
  try dsimp only at h
  refine R_aload_n (pc := 12) d_X6_book_12 rfl rfl ?_
  refine R_getR (pc := 13) fld_RX6_35 rfl rfl k1 d_X6_book_13 ?_
  refine R_iload_n (pc := 16) d_X6_book_16 rfl rfl ?_
  refine R_iload_n (pc := 17) d_X6_book_17 rfl rfl ?_
  refine R_iload_n (pc := 18) d_X6_book_18 rfl rfl ?_
  refine R_iload (pc := 19) d_X6_book_19 rfl ?_
  obtain ⟨k5, h⟩ := h
  refine R_callV (pc := 21) (As := [.int v1, .int v2, .int v3, .int v4]) (rest := []) (c_X2_reasonFor (g := g) (rf v0 4) v1 v2 v3 v4 M4 _ h) rfl rfl cal_RX6_185 ins_X2_reasonFor sel_X2_reasonFor (cls_at k5 clsOK2) (by decide) (by decide) rfl rfl (Nat.le_of_ble_eq_true rfl) d_X6_book_21 (k_I (fun y7 M6 h => ?_)) (fun _ _ h9 => False.elim h9)
  try dsimp only at h
  refine R_istore (pc := 24) (L' := [some (.ref (g.1 + v0)), some (.int v1), some (.int v2), some (.int v3), some (.int v4), some (.int y7)]) d_X6_book_24 (by decide) rfl ?_
  refine R_iload (pc := 26) d_X6_book_26 rfl ?_
  refine R_if_eq (pc := 28) (tgt := 61) d_X6_book_28 (by decide) (fun c => ?_) (fun c => ?_)
  · rw [if_pos c] at h
    refine R_aload_n (pc := 61) d_X6_book_61 rfl rfl ?_
    refine R_getR (pc := 62) fld_RX6_26 rfl rfl k1 d_X6_book_62 ?_
    refine R_aload_n (pc := 65) d_X6_book_65 rfl rfl ?_
    refine R_getR (pc := 66) fld_RX6_10 rfl rfl k1 d_X6_book_66 ?_
    obtain ⟨k8, h⟩ := h
    refine R_callV (pc := 69) (As := [.ref (g.1 + (rf v0 0))]) (rest := []) (c_X1_keep (g := g) (rf v0 3) (rf v0 0) M6 _ h) rfl rfl cal_RX6_87 ins_X1_keep sel_X1_keep (cls_at k8 clsOK1) (by decide) (by decide) rfl rfl (Nat.le_of_ble_eq_true rfl) d_X6_book_69 (k_V (fun M9 h => ?_)) (fun _ _ h9 => False.elim h9)
    try dsimp only at h
    refine R_aload_n (pc := 72) d_X6_book_72 rfl rfl ?_
    refine R_getR (pc := 73) fld_RX6_44 rfl rfl k1 d_X6_book_73 ?_
    refine R_iload_n (pc := 76) d_X6_book_76 rfl rfl ?_
    refine R_iload_n (pc := 77) d_X6_book_77 rfl rfl ?_
    refine R_iload_n (pc := 78) d_X6_book_78 rfl rfl ?_
    refine R_iconst (pc := 79) (v := 4) d_X6_book_79 (by decide) ?_
    refine R_imul (pc := 80) d_X6_book_80 ?_
    refine R_iload (pc := 81) d_X6_book_81 rfl ?_
    refine R_iadd (pc := 83) d_X6_book_83 ?_
    obtain ⟨k10, h⟩ := h
    refine R_callV (pc := 84) (As := [.int v1, .int v2, .int ((v3 * 4) + v4)]) (rest := []) (c_X0_enterVisit (g := g) (rf v0 5) v1 v2 ((v3 * 4) + v4) M9 _ h) rfl rfl cal_RX6_200 ins_X0_enterVisit sel_X0_enterVisit (cls_at k10 clsOK0) (by decide) (by decide) rfl rfl (Nat.le_of_ble_eq_true rfl) d_X6_book_84 (k_I (fun y12 M11 h => ?_)) (fun _ _ h9 => False.elim h9)
    try dsimp only at h
    exact R_retv (pc := 87) d_X6_book_87 h
  · rw [if_neg c] at h
    refine R_aload_n (pc := 31) d_X6_book_31 rfl rfl ?_
    refine R_getR (pc := 32) fld_RX6_53 rfl rfl k1 d_X6_book_32 ?_
    obtain ⟨k13, h⟩ := h
    refine R_callV (pc := 35) (As := []) (rest := []) (c_X4_clear (g := g) (rf v0 6) M6 _ h) rfl rfl cal_RX6_188 ins_X4_clear sel_X4_clear (cls_at k13 clsOK4) (by decide) (by decide) rfl rfl (Nat.le_of_ble_eq_true rfl) d_X6_book_35 (k_V (fun M14 h => ?_)) (fun _ _ h9 => False.elim h9)
    try dsimp only at h
    refine R_aload_n (pc := 38) d_X6_book_38 rfl rfl ?_
    refine R_iload_n (pc := 39) d_X6_book_39 rfl rfl ?_
    refine R_iload_n (pc := 40) d_X6_book_40 rfl rfl ?_
    refine R_iconst (pc := 41) (v := 4) d_X6_book_41 (by decide) ?_
    refine R_imul (pc := 42) d_X6_book_42 ?_
    refine R_iload (pc := 43) d_X6_book_43 rfl ?_
    refine R_iadd (pc := 45) d_X6_book_45 ?_
    refine R_iload (pc := 46) d_X6_book_46 rfl ?_
    refine R_callV (pc := 48) (As := [.int v1, .int ((v3 * 4) + v4), .int y7]) (rest := []) (c_X6_writeReport (g := g) v0 v1 ((v3 * 4) + v4) y7 M14 _ h) rfl rfl cal_RX6_191 ins_X6_writeReport sel_X6_writeReport (cls_at k1 clsOK6) (by decide) (by decide) rfl rfl (Nat.le_of_ble_eq_true rfl) d_X6_book_48 (k_V (fun M15 h => ?_)) (fun _ _ h9 => False.elim h9)
    try dsimp only at h
    exact R_throw rfl rfl thr_RX6_195_197_199 (by decide) (by decide) (Nat.le_of_ble_eq_true rfl) d_X6_book_51 d_X6_book_54 d_X6_book_55 d_X6_book_57 d_X6_book_60 h
/-! X6_faultOfCancelling -/
theorem d_X6_faultOfCancelling_0 : decode mX6_faultOfCancelling.2.1 0 = .ok (.iload_n 1, 1) := by decide +kernel
theorem d_X6_faultOfCancelling_1 : decode mX6_faultOfCancelling.2.1 1 = .ok (.aload_n 0, 1) := by decide +kernel
theorem d_X6_faultOfCancelling_2 : decode mX6_faultOfCancelling.2.1 2 = .ok (.getfield 10, 3) := by decide +kernel
theorem d_X6_faultOfCancelling_5 : decode mX6_faultOfCancelling.2.1 5 = .ok (.getfield 225, 3) := by decide +kernel
theorem d_X6_faultOfCancelling_8 : decode mX6_faultOfCancelling.2.1 8 = .ok (.getfield 94, 3) := by decide +kernel
theorem d_X6_faultOfCancelling_11 : decode mX6_faultOfCancelling.2.1 11 = .ok (.invokestatic 64, 3) := by decide +kernel
theorem d_X6_faultOfCancelling_14 : decode mX6_faultOfCancelling.2.1 14 = .ok (.ifCond .ne 5, 3) := by decide +kernel
theorem d_X6_faultOfCancelling_17 : decode mX6_faultOfCancelling.2.1 17 = .ok (.iconst 1, 1) := by decide +kernel
theorem d_X6_faultOfCancelling_18 : decode mX6_faultOfCancelling.2.1 18 = .ok (.ireturn, 1) := by decide +kernel
theorem d_X6_faultOfCancelling_19 : decode mX6_faultOfCancelling.2.1 19 = .ok (.aload_n 0, 1) := by decide +kernel
theorem d_X6_faultOfCancelling_20 : decode mX6_faultOfCancelling.2.1 20 = .ok (.getfield 10, 3) := by decide +kernel
theorem d_X6_faultOfCancelling_23 : decode mX6_faultOfCancelling.2.1 23 = .ok (.getfield 225, 3) := by decide +kernel
theorem d_X6_faultOfCancelling_26 : decode mX6_faultOfCancelling.2.1 26 = .ok (.getfield 128, 3) := by decide +kernel
theorem d_X6_faultOfCancelling_29 : decode mX6_faultOfCancelling.2.1 29 = .ok (.iload_n 1, 1) := by decide +kernel
theorem d_X6_faultOfCancelling_30 : decode mX6_faultOfCancelling.2.1 30 = .ok (.aaload, 1) := by decide +kernel
theorem d_X6_faultOfCancelling_31 : decode mX6_faultOfCancelling.2.1 31 = .ok (.iconst 5, 1) := by decide +kernel
theorem d_X6_faultOfCancelling_32 : decode mX6_faultOfCancelling.2.1 32 = .ok (.iaload, 1) := by decide +kernel
theorem d_X6_faultOfCancelling_33 : decode mX6_faultOfCancelling.2.1 33 = .ok (.ifCond .ne 7, 3) := by decide +kernel
theorem d_X6_faultOfCancelling_36 : decode mX6_faultOfCancelling.2.1 36 = .ok (.iconst 0, 1) := by decide +kernel
theorem d_X6_faultOfCancelling_37 : decode mX6_faultOfCancelling.2.1 37 = .ok (.goto 4, 3) := by decide +kernel
theorem d_X6_faultOfCancelling_40 : decode mX6_faultOfCancelling.2.1 40 = .ok (.iconst 3, 1) := by decide +kernel
theorem d_X6_faultOfCancelling_41 : decode mX6_faultOfCancelling.2.1 41 = .ok (.ireturn, 1) := by decide +kernel
def T_X6_faultOfCancelling_41 (Q : Int32 → Mem → Prop) (s0 : Int32) (M : Mem) : Prop := Q s0 M
set_option maxRecDepth 100000 in
set_option maxHeartbeats 4000000 in
theorem B_X6_faultOfCancelling_41 {g : GG} (Q : Int32 → Mem → Prop) (s0 : Int32) (M : Mem) (h : T_X6_faultOfCancelling_41 Q s0 M) : WP g 10 mX6_faultOfCancelling 41 [none, none] [.int s0] M 0 (oI Q noX) := by
  unfold T_X6_faultOfCancelling_41 at h
  exact R_retv (pc := 41) d_X6_faultOfCancelling_41 h
def T_X6_faultOfCancelling (Q : Int32 → Mem → Prop) (v0 : Nat) (v1 : Int32) (M : Mem) : Prop := (kd v0 = 6) ∧ (kd (rf v0 0) = 3) ∧ (kd (rf (rf v0 0) 5) = 4) ∧ T_X6_isBelow (fun y5 M4 => if y5 = 0 then (Q 1 M4) else ((kd (rf (rf (rf v0 0) 5) 0) = 10 ∨ kd (rf (rf (rf v0 0) 5) 0) = 11) ∧ (vp_in v1 (ln (rf (rf (rf v0 0) 5) 0))) ∧ (kd (rf (rf (rf (rf v0 0) 5) 0) (Int32.toNatClampNeg v1)) = 9) ∧ (vp_in 5 (ln (rf (rf (rf (rf v0 0) 5) 0) (Int32.toNatClampNeg v1)))) ∧ if (M4.1 (rf (rf (rf (rf v0 0) 5) 0) (Int32.toNatClampNeg v1)) (Int32.toNatClampNeg 5)) = 0 then (T_X6_faultOfCancelling_41 Q 0 M4) else (T_X6_faultOfCancelling_41 Q 3 M4)))  v1 (M.1 (rf (rf v0 0) 5) 2) M
set_option maxRecDepth 100000 in
set_option maxHeartbeats 4000000 in
theorem c_X6_faultOfCancelling {g : GG} (v0 : Nat) (v1 : Int32) (M : Mem) (Q : Int32 → Mem → Prop) (h : T_X6_faultOfCancelling Q v0 v1 M) : CT g 10 mX6_faultOfCancelling [.ref (g.1 + v0), .int v1] M 0 (oI Q noX) := by
  refine CT_of (L := [some (.ref (g.1 + v0)), some (.int v1)]) (by decide) rfl (Nat.le_of_ble_eq_true rfl) (ro_I rfl) rfl ?_
  unfold T_X6_faultOfCancelling at h
  refine R_iload_n (pc := 0) d_X6_faultOfCancelling_0 rfl rfl ?_
  refine R_aload_n (pc := 1) d_X6_faultOfCancelling_1 rfl rfl ?_
  obtain ⟨k1, h⟩ := h
  refine R_getR (pc := 2) fld_RX6_10 rfl rfl k1 d_X6_faultOfCancelling_2 ?_
  obtain ⟨k2, h⟩ := h
  refine R_getR (pc := 5) fld_RX6_225 rfl rfl k2 d_X6_faultOfCancelling_5 ?_
  obtain ⟨k3, h⟩ := h
  refine R_getI (pc := 8) fld_RX6_94 rfl rfl k3 d_X6_faultOfCancelling_8 ?_
  refine R_callS (pc := 11) (As := [.int v1, .int (M.1 (rf (rf v0 0) 5) 2)]) (rest := []) (c_X6_isBelow (g := g) v1 (M.1 (rf (rf v0 0) 5) 2) M _ h) rfl rfl cal_RX6_64 sta_X6_isBelow (by decide) (by decide) rfl rfl (Nat.le_of_ble_eq_true rfl) d_X6_faultOfCancelling_11 (k_Z (fun y5 M4 h => ?_)) (fun _ _ h9 => False.elim h9)
  try dsimp only at h
  refine R_if_ne (pc := 14) (tgt := 19) d_X6_faultOfCancelling_14 (by decide) (fun c => ?_) (fun c => ?_)
  · rw [if_neg c] at h
    refine R_aload_n (pc := 19) d_X6_faultOfCancelling_19 rfl rfl ?_
    refine R_getR (pc := 20) fld_RX6_10 rfl rfl k1 d_X6_faultOfCancelling_20 ?_
    refine R_getR (pc := 23) fld_RX6_225 rfl rfl k2 d_X6_faultOfCancelling_23 ?_
    refine R_getR (pc := 26) fld_RX6_128 rfl rfl k3 d_X6_faultOfCancelling_26 ?_
    refine R_iload_n (pc := 29) d_X6_faultOfCancelling_29 rfl rfl ?_
    obtain ⟨k6, h⟩ := h
    obtain ⟨k7, h⟩ := h
    refine R_aald (pc := 30) k6 k7 d_X6_faultOfCancelling_30 ?_
    refine R_iconst (pc := 31) (v := 5) d_X6_faultOfCancelling_31 (by decide) ?_
    obtain ⟨k8, h⟩ := h
    obtain ⟨k9, h⟩ := h
    refine R_iald (pc := 32) k8 k9 d_X6_faultOfCancelling_32 ?_
    refine R_if_ne (pc := 33) (tgt := 40) d_X6_faultOfCancelling_33 (by decide) (fun c => ?_) (fun c => ?_)
    · rw [if_neg c] at h
      refine R_iconst (pc := 40) (v := 3) d_X6_faultOfCancelling_40 (by decide) ?_
      exact WP_sub (B_X6_faultOfCancelling_41 Q 3 M4 h) (by decide) (ls_n (ls_n ls_0))
    · rw [if_pos c] at h
      refine R_iconst (pc := 36) (v := 0) d_X6_faultOfCancelling_36 (by decide) ?_
      refine R_goto (pc := 37) (tgt := 41) d_X6_faultOfCancelling_37 (by decide) ?_
      exact WP_sub (B_X6_faultOfCancelling_41 Q 0 M4 h) (by decide) (ls_n (ls_n ls_0))
  · rw [if_pos c] at h
    refine R_iconst (pc := 17) (v := 1) d_X6_faultOfCancelling_17 (by decide) ?_
    exact R_retv (pc := 18) d_X6_faultOfCancelling_18 h
/-! X6_cancel -/
theorem d_X6_cancel_0 : decode mX6_cancel.2.1 0 = .ok (.aload_n 0, 1) := by decide +kernel
theorem d_X6_cancel_1 : decode mX6_cancel.2.1 1 = .ok (.iload_n 1, 1) := by decide +kernel
theorem d_X6_cancel_2 : decode mX6_cancel.2.1 2 = .ok (.invokevirtual 204, 3) := by decide +kernel
theorem d_X6_cancel_5 : decode mX6_cancel.2.1 5 = .ok (.invokestatic 136, 3) := by decide +kernel
theorem d_X6_cancel_8 : decode mX6_cancel.2.1 8 = .ok (.aload_n 0, 1) := by decide +kernel
theorem d_X6_cancel_9 : decode mX6_cancel.2.1 9 = .ok (.getfield 26, 3) := by decide +kernel
theorem d_X6_cancel_12 : decode mX6_cancel.2.1 12 = .ok (.aload_n 0, 1) := by decide +kernel
theorem d_X6_cancel_13 : decode mX6_cancel.2.1 13 = .ok (.getfield 10, 3) := by decide +kernel
theorem d_X6_cancel_16 : decode mX6_cancel.2.1 16 = .ok (.invokevirtual 87, 3) := by decide +kernel
theorem d_X6_cancel_19 : decode mX6_cancel.2.1 19 = .ok (.aload_n 0, 1) := by decide +kernel
theorem d_X6_cancel_20 : decode mX6_cancel.2.1 20 = .ok (.getfield 44, 3) := by decide +kernel
theorem d_X6_cancel_23 : decode mX6_cancel.2.1 23 = .ok (.iload_n 1, 1) := by decide +kernel
theorem d_X6_cancel_24 : decode mX6_cancel.2.1 24 = .ok (.invokevirtual 207, 3) := by decide +kernel
theorem d_X6_cancel_27 : decode mX6_cancel.2.1 27 = .ok (.aload_n 0, 1) := by decide +kernel
theorem d_X6_cancel_28 : decode mX6_cancel.2.1 28 = .ok (.getfield 44, 3) := by decide +kernel
theorem d_X6_cancel_31 : decode mX6_cancel.2.1 31 = .ok (.invokevirtual 210, 3) := by decide +kernel
theorem d_X6_cancel_34 : decode mX6_cancel.2.1 34 = .ok (.ireturn, 1) := by decide +kernel
def T_X6_cancel (Q : Int32 → Mem → Prop) (X : String → Mem → Prop) (v0 : Nat) (v1 : Int32) (M : Mem) : Prop := (kd v0 = 6) ∧ T_X6_faultOfCancelling (fun y3 M2 => T_X6_throwFor (fun M4 => (kd (rf v0 3) = 1) ∧ T_X1_keep (fun M6 => (kd (rf v0 5) = 0) ∧ T_X0_dropVisit (fun M8 => T_X0_serveWishes (fun y10 M9 => Q y10 M9)  (rf v0 5) M8)  (rf v0 5) v1 M6)  (rf v0 3) (rf v0 0) M4) X y3 M2)  v0 v1 M
set_option maxRecDepth 100000 in
set_option maxHeartbeats 4000000 in
theorem c_X6_cancel {g : GG} (v0 : Nat) (v1 : Int32) (M : Mem) (Q : Int32 → Mem → Prop) (X : String → Mem → Prop) (h : T_X6_cancel Q X v0 v1 M) : CT g 15 mX6_cancel [.ref (g.1 + v0), .int v1] M 1 (oI Q X) := by
  refine CT_of (L := [some (.ref (g.1 + v0)), some (.int v1)]) (by decide) rfl (Nat.le_of_ble_eq_true rfl) (ro_I rfl) rfl ?_
  unfold T_X6_cancel at h
  refine R_aload_n (pc := 0) d_X6_cancel_0 rfl rfl ?_
  refine R_iload_n (pc := 1) d_X6_cancel_1 rfl rfl ?_
  obtain ⟨k1, h⟩ := h
  refine R_callV (pc := 2) (As := [.int v1]) (rest := []) (c_X6_faultOfCancelling (g := g) v0 v1 M _ h) rfl rfl cal_RX6_204 ins_X6_faultOfCancelling sel_X6_faultOfCancelling (cls_at k1 clsOK6) (by decide) (by decide) rfl rfl (Nat.le_of_ble_eq_true rfl) d_X6_cancel_2 (k_I (fun y3 M2 h => ?_)) (fun _ _ h9 => False.elim h9)
  try dsimp only at h
  refine R_callS (pc := 5) (As := [.int y3]) (rest := []) (c_X6_throwFor (g := g) y3 M2 _ _ h) rfl rfl cal_RX6_136 sta_X6_throwFor (by decide) (by decide) rfl rfl (Nat.le_of_ble_eq_true rfl) d_X6_cancel_5 (k_V (fun M4 h => ?_)) (fun _ _ h9 => h9)
  try dsimp only at h
  refine R_aload_n (pc := 8) d_X6_cancel_8 rfl rfl ?_
  refine R_getR (pc := 9) fld_RX6_26 rfl rfl k1 d_X6_cancel_9 ?_
  refine R_aload_n (pc := 12) d_X6_cancel_12 rfl rfl ?_
  refine R_getR (pc := 13) fld_RX6_10 rfl rfl k1 d_X6_cancel_13 ?_
  obtain ⟨k5, h⟩ := h
  refine R_callV (pc := 16) (As := [.ref (g.1 + (rf v0 0))]) (rest := []) (c_X1_keep (g := g) (rf v0 3) (rf v0 0) M4 _ h) rfl rfl cal_RX6_87 ins_X1_keep sel_X1_keep (cls_at k5 clsOK1) (by decide) (by decide) rfl rfl (Nat.le_of_ble_eq_true rfl) d_X6_cancel_16 (k_V (fun M6 h => ?_)) (fun _ _ h9 => False.elim h9)
  try dsimp only at h
  refine R_aload_n (pc := 19) d_X6_cancel_19 rfl rfl ?_
  refine R_getR (pc := 20) fld_RX6_44 rfl rfl k1 d_X6_cancel_20 ?_
  refine R_iload_n (pc := 23) d_X6_cancel_23 rfl rfl ?_
  obtain ⟨k7, h⟩ := h
  refine R_callV (pc := 24) (As := [.int v1]) (rest := []) (c_X0_dropVisit (g := g) (rf v0 5) v1 M6 _ h) rfl rfl cal_RX6_207 ins_X0_dropVisit sel_X0_dropVisit (cls_at k7 clsOK0) (by decide) (by decide) rfl rfl (Nat.le_of_ble_eq_true rfl) d_X6_cancel_24 (k_V (fun M8 h => ?_)) (fun _ _ h9 => False.elim h9)
  try dsimp only at h
  refine R_aload_n (pc := 27) d_X6_cancel_27 rfl rfl ?_
  refine R_getR (pc := 28) fld_RX6_44 rfl rfl k1 d_X6_cancel_28 ?_
  refine R_callV (pc := 31) (As := []) (rest := []) (c_X0_serveWishes (g := g) (rf v0 5) M8 _ h) rfl rfl cal_RX6_210 ins_X0_serveWishes sel_X0_serveWishes (cls_at k7 clsOK0) (by decide) (by decide) rfl rfl (Nat.le_of_ble_eq_true rfl) d_X6_cancel_31 (k_I (fun y10 M9 h => ?_)) (fun _ _ h9 => False.elim h9)
  try dsimp only at h
  exact R_retv (pc := 34) d_X6_cancel_34 h
/-! X6_refusal -/
theorem d_X6_refusal_0 : decode mX6_refusal.2.1 0 = .ok (.aload_n 0, 1) := by decide +kernel
theorem d_X6_refusal_1 : decode mX6_refusal.2.1 1 = .ok (.iload_n 1, 1) := by decide +kernel
theorem d_X6_refusal_2 : decode mX6_refusal.2.1 2 = .ok (.iload_n 2, 1) := by decide +kernel
theorem d_X6_refusal_3 : decode mX6_refusal.2.1 3 = .ok (.iload_n 3, 1) := by decide +kernel
theorem d_X6_refusal_4 : decode mX6_refusal.2.1 4 = .ok (.iload 4, 2) := by decide +kernel
theorem d_X6_refusal_6 : decode mX6_refusal.2.1 6 = .ok (.invokevirtual 181, 3) := by decide +kernel
theorem d_X6_refusal_9 : decode mX6_refusal.2.1 9 = .ok (.invokestatic 136, 3) := by decide +kernel
theorem d_X6_refusal_12 : decode mX6_refusal.2.1 12 = .ok (.aload_n 0, 1) := by decide +kernel
theorem d_X6_refusal_13 : decode mX6_refusal.2.1 13 = .ok (.getfield 35, 3) := by decide +kernel
theorem d_X6_refusal_16 : decode mX6_refusal.2.1 16 = .ok (.iload_n 1, 1) := by decide +kernel
theorem d_X6_refusal_17 : decode mX6_refusal.2.1 17 = .ok (.iload_n 2, 1) := by decide +kernel
theorem d_X6_refusal_18 : decode mX6_refusal.2.1 18 = .ok (.iload_n 3, 1) := by decide +kernel
theorem d_X6_refusal_19 : decode mX6_refusal.2.1 19 = .ok (.iload 4, 2) := by decide +kernel
theorem d_X6_refusal_21 : decode mX6_refusal.2.1 21 = .ok (.invokevirtual 185, 3) := by decide +kernel
theorem d_X6_refusal_24 : decode mX6_refusal.2.1 24 = .ok (.ireturn, 1) := by decide +kernel
def T_X6_refusal (Q : Int32 → Mem → Prop) (X : String → Mem → Prop) (v0 : Nat) (v1 : Int32) (v2 : Int32) (v3 : Int32) (v4 : Int32) (M : Mem) : Prop := (kd v0 = 6) ∧ T_X6_faultOfBooking (fun y3 M2 => T_X6_throwFor (fun M4 => (kd (rf v0 4) = 2) ∧ T_X2_reasonFor (fun y7 M6 => Q y7 M6)  (rf v0 4) v1 v2 v3 v4 M4) X y3 M2)  v0 v1 v2 v3 v4 M
set_option maxRecDepth 100000 in
set_option maxHeartbeats 4000000 in
theorem c_X6_refusal {g : GG} (v0 : Nat) (v1 : Int32) (v2 : Int32) (v3 : Int32) (v4 : Int32) (M : Mem) (Q : Int32 → Mem → Prop) (X : String → Mem → Prop) (h : T_X6_refusal Q X v0 v1 v2 v3 v4 M) : CT g 14 mX6_refusal [.ref (g.1 + v0), .int v1, .int v2, .int v3, .int v4] M 1 (oI Q X) := by
  refine CT_of (L := [some (.ref (g.1 + v0)), some (.int v1), some (.int v2), some (.int v3), some (.int v4)]) (by decide) rfl (Nat.le_of_ble_eq_true rfl) (ro_I rfl) rfl ?_
  unfold T_X6_refusal at h
  refine R_aload_n (pc := 0) d_X6_refusal_0 rfl rfl ?_
  refine R_iload_n (pc := 1) d_X6_refusal_1 rfl rfl ?_
  refine R_iload_n (pc := 2) d_X6_refusal_2 rfl rfl ?_
  refine R_iload_n (pc := 3) d_X6_refusal_3 rfl rfl ?_
  refine R_iload (pc := 4) d_X6_refusal_4 rfl ?_
  obtain ⟨k1, h⟩ := h
  refine R_callV (pc := 6) (As := [.int v1, .int v2, .int v3, .int v4]) (rest := []) (c_X6_faultOfBooking (g := g) v0 v1 v2 v3 v4 M _ h) rfl rfl cal_RX6_181 ins_X6_faultOfBooking sel_X6_faultOfBooking (cls_at k1 clsOK6) (by decide) (by decide) rfl rfl (Nat.le_of_ble_eq_true rfl) d_X6_refusal_6 (k_I (fun y3 M2 h => ?_)) (fun _ _ h9 => False.elim h9)
  try dsimp only at h
  refine R_callS (pc := 9) (As := [.int y3]) (rest := []) (c_X6_throwFor (g := g) y3 M2 _ _ h) rfl rfl cal_RX6_136 sta_X6_throwFor (by decide) (by decide) rfl rfl (Nat.le_of_ble_eq_true rfl) d_X6_refusal_9 (k_V (fun M4 h => ?_)) (fun _ _ h9 => h9)
  try dsimp only at h
  refine R_aload_n (pc := 12) d_X6_refusal_12 rfl rfl ?_
  refine R_getR (pc := 13) fld_RX6_35 rfl rfl k1 d_X6_refusal_13 ?_
  refine R_iload_n (pc := 16) d_X6_refusal_16 rfl rfl ?_
  refine R_iload_n (pc := 17) d_X6_refusal_17 rfl rfl ?_
  refine R_iload_n (pc := 18) d_X6_refusal_18 rfl rfl ?_
  refine R_iload (pc := 19) d_X6_refusal_19 rfl ?_
  obtain ⟨k5, h⟩ := h
  refine R_callV (pc := 21) (As := [.int v1, .int v2, .int v3, .int v4]) (rest := []) (c_X2_reasonFor (g := g) (rf v0 4) v1 v2 v3 v4 M4 _ h) rfl rfl cal_RX6_185 ins_X2_reasonFor sel_X2_reasonFor (cls_at k5 clsOK2) (by decide) (by decide) rfl rfl (Nat.le_of_ble_eq_true rfl) d_X6_refusal_21 (k_I (fun y7 M6 h => ?_)) (fun _ _ h9 => False.elim h9)
  try dsimp only at h
  exact R_retv (pc := 24) d_X6_refusal_24 h
/-! X6_firstFree -/
theorem d_X6_firstFree_0 : decode mX6_firstFree.2.1 0 = .ok (.iload_n 1, 1) := by decide +kernel
theorem d_X6_firstFree_1 : decode mX6_firstFree.2.1 1 = .ok (.aload_n 0, 1) := by decide +kernel
theorem d_X6_firstFree_2 : decode mX6_firstFree.2.1 2 = .ok (.getfield 10, 3) := by decide +kernel
theorem d_X6_firstFree_5 : decode mX6_firstFree.2.1 5 = .ok (.getfield 75, 3) := by decide +kernel
theorem d_X6_firstFree_8 : decode mX6_firstFree.2.1 8 = .ok (.getfield 94, 3) := by decide +kernel
theorem d_X6_firstFree_11 : decode mX6_firstFree.2.1 11 = .ok (.invokestatic 64, 3) := by decide +kernel
theorem d_X6_firstFree_14 : decode mX6_firstFree.2.1 14 = .ok (.ifCond .ne 13, 3) := by decide +kernel
theorem d_X6_firstFree_17 : decode mX6_firstFree.2.1 17 = .ok (.new 112, 3) := by decide +kernel
theorem d_X6_firstFree_20 : decode mX6_firstFree.2.1 20 = .ok (.dup, 1) := by decide +kernel
theorem d_X6_firstFree_21 : decode mX6_firstFree.2.1 21 = .ok (.ldc 124, 2) := by decide +kernel
theorem d_X6_firstFree_23 : decode mX6_firstFree.2.1 23 = .ok (.invokespecial 116, 3) := by decide +kernel
theorem d_X6_firstFree_26 : decode mX6_firstFree.2.1 26 = .ok (.athrow, 1) := by decide +kernel
theorem d_X6_firstFree_27 : decode mX6_firstFree.2.1 27 = .ok (.aload_n 0, 1) := by decide +kernel
theorem d_X6_firstFree_28 : decode mX6_firstFree.2.1 28 = .ok (.getfield 10, 3) := by decide +kernel
theorem d_X6_firstFree_31 : decode mX6_firstFree.2.1 31 = .ok (.iload_n 2, 1) := by decide +kernel
theorem d_X6_firstFree_32 : decode mX6_firstFree.2.1 32 = .ok (.invokevirtual 214, 3) := by decide +kernel
theorem d_X6_firstFree_35 : decode mX6_firstFree.2.1 35 = .ok (.ifCond .ne 13, 3) := by decide +kernel
theorem d_X6_firstFree_38 : decode mX6_firstFree.2.1 38 = .ok (.new 68, 3) := by decide +kernel
theorem d_X6_firstFree_41 : decode mX6_firstFree.2.1 41 = .ok (.dup, 1) := by decide +kernel
theorem d_X6_firstFree_42 : decode mX6_firstFree.2.1 42 = .ok (.ldc 218, 2) := by decide +kernel
theorem d_X6_firstFree_44 : decode mX6_firstFree.2.1 44 = .ok (.invokespecial 72, 3) := by decide +kernel
theorem d_X6_firstFree_47 : decode mX6_firstFree.2.1 47 = .ok (.athrow, 1) := by decide +kernel
theorem d_X6_firstFree_48 : decode mX6_firstFree.2.1 48 = .ok (.aload_n 0, 1) := by decide +kernel
theorem d_X6_firstFree_49 : decode mX6_firstFree.2.1 49 = .ok (.getfield 35, 3) := by decide +kernel
theorem d_X6_firstFree_52 : decode mX6_firstFree.2.1 52 = .ok (.iload_n 1, 1) := by decide +kernel
theorem d_X6_firstFree_53 : decode mX6_firstFree.2.1 53 = .ok (.iload_n 2, 1) := by decide +kernel
theorem d_X6_firstFree_54 : decode mX6_firstFree.2.1 54 = .ok (.aload_n 0, 1) := by decide +kernel
theorem d_X6_firstFree_55 : decode mX6_firstFree.2.1 55 = .ok (.getfield 10, 3) := by decide +kernel
theorem d_X6_firstFree_58 : decode mX6_firstFree.2.1 58 = .ok (.getfield 167, 3) := by decide +kernel
theorem d_X6_firstFree_61 : decode mX6_firstFree.2.1 61 = .ok (.bipush 55, 2) := by decide +kernel
theorem d_X6_firstFree_63 : decode mX6_firstFree.2.1 63 = .ok (.invokevirtual 220, 3) := by decide +kernel
theorem d_X6_firstFree_66 : decode mX6_firstFree.2.1 66 = .ok (.istore_n 3, 1) := by decide +kernel
theorem d_X6_firstFree_67 : decode mX6_firstFree.2.1 67 = .ok (.iload_n 3, 1) := by decide +kernel
theorem d_X6_firstFree_68 : decode mX6_firstFree.2.1 68 = .ok (.iconst (-1), 1) := by decide +kernel
theorem d_X6_firstFree_69 : decode mX6_firstFree.2.1 69 = .ok (.if_icmp .ne 13, 3) := by decide +kernel
theorem d_X6_firstFree_72 : decode mX6_firstFree.2.1 72 = .ok (.new 173, 3) := by decide +kernel
theorem d_X6_firstFree_75 : decode mX6_firstFree.2.1 75 = .ok (.dup, 1) := by decide +kernel
theorem d_X6_firstFree_76 : decode mX6_firstFree.2.1 76 = .ok (.ldc 223, 2) := by decide +kernel
theorem d_X6_firstFree_78 : decode mX6_firstFree.2.1 78 = .ok (.invokespecial 177, 3) := by decide +kernel
theorem d_X6_firstFree_81 : decode mX6_firstFree.2.1 81 = .ok (.athrow, 1) := by decide +kernel
theorem d_X6_firstFree_82 : decode mX6_firstFree.2.1 82 = .ok (.iload_n 3, 1) := by decide +kernel
theorem d_X6_firstFree_83 : decode mX6_firstFree.2.1 83 = .ok (.ireturn, 1) := by decide +kernel
def T_X6_firstFree (Q : Int32 → Mem → Prop) (X : String → Mem → Prop) (v0 : Nat) (v1 : Int32) (v2 : Int32) (M : Mem) : Prop := (kd v0 = 6) ∧ (kd (rf v0 0) = 3) ∧ (kd (rf (rf v0 0) 2) = 4) ∧ T_X6_isBelow (fun y5 M4 => if y5 = 0 then (X "java/lang/IndexOutOfBoundsException" M4) else (T_X3_isParty (fun y7 M6 => if y7 = 0 then (X "java/lang/IllegalArgumentException" M6) else ((kd (rf v0 4) = 2) ∧ T_X2_firstMoment (fun y10 M9 => if y10 = ((-1) : Int32) then (X "java/util/NoSuchElementException" M9) else (Q y10 M9))  (rf v0 4) v1 v2 (M6.1 (rf v0 0) 0) 55 M6))  (rf v0 0) v2 M4))  v1 (M.1 (rf (rf v0 0) 2) 2) M
set_option maxRecDepth 100000 in
set_option maxHeartbeats 4000000 in
theorem c_X6_firstFree {g : GG} (v0 : Nat) (v1 : Int32) (v2 : Int32) (M : Mem) (Q : Int32 → Mem → Prop) (X : String → Mem → Prop) (h : T_X6_firstFree Q X v0 v1 v2 M) : CT g 14 mX6_firstFree [.ref (g.1 + v0), .int v1, .int v2] M 1 (oI Q X) := by
  refine CT_of (L := [some (.ref (g.1 + v0)), some (.int v1), some (.int v2), none]) (by decide) rfl (Nat.le_of_ble_eq_true rfl) (ro_I rfl) rfl ?_
  unfold T_X6_firstFree at h
  refine R_iload_n (pc := 0) d_X6_firstFree_0 rfl rfl ?_
  refine R_aload_n (pc := 1) d_X6_firstFree_1 rfl rfl ?_
  obtain ⟨k1, h⟩ := h
  refine R_getR (pc := 2) fld_RX6_10 rfl rfl k1 d_X6_firstFree_2 ?_
  obtain ⟨k2, h⟩ := h
  refine R_getR (pc := 5) fld_RX6_75 rfl rfl k2 d_X6_firstFree_5 ?_
  obtain ⟨k3, h⟩ := h
  refine R_getI (pc := 8) fld_RX6_94 rfl rfl k3 d_X6_firstFree_8 ?_
  refine R_callS (pc := 11) (As := [.int v1, .int (M.1 (rf (rf v0 0) 2) 2)]) (rest := []) (c_X6_isBelow (g := g) v1 (M.1 (rf (rf v0 0) 2) 2) M _ h) rfl rfl cal_RX6_64 sta_X6_isBelow (by decide) (by decide) rfl rfl (Nat.le_of_ble_eq_true rfl) d_X6_firstFree_11 (k_Z (fun y5 M4 h => ?_)) (fun _ _ h9 => False.elim h9)
  try dsimp only at h
  refine R_if_ne (pc := 14) (tgt := 27) d_X6_firstFree_14 (by decide) (fun c => ?_) (fun c => ?_)
  · rw [if_neg c] at h
    refine R_aload_n (pc := 27) d_X6_firstFree_27 rfl rfl ?_
    refine R_getR (pc := 28) fld_RX6_10 rfl rfl k1 d_X6_firstFree_28 ?_
    refine R_iload_n (pc := 31) d_X6_firstFree_31 rfl rfl ?_
    refine R_callV (pc := 32) (As := [.int v2]) (rest := []) (c_X3_isParty (g := g) (rf v0 0) v2 M4 _ h) rfl rfl cal_RX6_214 ins_X3_isParty sel_X3_isParty (cls_at k2 clsOK3) (by decide) (by decide) rfl rfl (Nat.le_of_ble_eq_true rfl) d_X6_firstFree_32 (k_Z (fun y7 M6 h => ?_)) (fun _ _ h9 => False.elim h9)
    try dsimp only at h
    refine R_if_ne (pc := 35) (tgt := 48) d_X6_firstFree_35 (by decide) (fun c => ?_) (fun c => ?_)
    · rw [if_neg c] at h
      refine R_aload_n (pc := 48) d_X6_firstFree_48 rfl rfl ?_
      refine R_getR (pc := 49) fld_RX6_35 rfl rfl k1 d_X6_firstFree_49 ?_
      refine R_iload_n (pc := 52) d_X6_firstFree_52 rfl rfl ?_
      refine R_iload_n (pc := 53) d_X6_firstFree_53 rfl rfl ?_
      refine R_aload_n (pc := 54) d_X6_firstFree_54 rfl rfl ?_
      refine R_getR (pc := 55) fld_RX6_10 rfl rfl k1 d_X6_firstFree_55 ?_
      refine R_getI (pc := 58) fld_RX6_167 rfl rfl k2 d_X6_firstFree_58 ?_
      refine R_bipush (pc := 61) (v := 55) d_X6_firstFree_61 (by decide) ?_
      obtain ⟨k8, h⟩ := h
      refine R_callV (pc := 63) (As := [.int v1, .int v2, .int (M6.1 (rf v0 0) 0), .int 55]) (rest := []) (c_X2_firstMoment (g := g) (rf v0 4) v1 v2 (M6.1 (rf v0 0) 0) 55 M6 _ h) rfl rfl cal_RX6_220 ins_X2_firstMoment sel_X2_firstMoment (cls_at k8 clsOK2) (by decide) (by decide) rfl rfl (Nat.le_of_ble_eq_true rfl) d_X6_firstFree_63 (k_I (fun y10 M9 h => ?_)) (fun _ _ h9 => False.elim h9)
      try dsimp only at h
      refine R_istore_n (pc := 66) (L' := [some (.ref (g.1 + v0)), some (.int v1), some (.int v2), some (.int y10)]) d_X6_firstFree_66 rfl (by decide) rfl ?_
      refine R_iload_n (pc := 67) d_X6_firstFree_67 rfl rfl ?_
      refine R_iconst (pc := 68) (v := (-1)) d_X6_firstFree_68 (by decide) ?_
      refine R_icmp_ne (pc := 69) (tgt := 82) d_X6_firstFree_69 (by decide) (fun c => ?_) (fun c => ?_)
      · rw [if_neg c] at h
        refine R_iload_n (pc := 82) d_X6_firstFree_82 rfl rfl ?_
        exact R_retv (pc := 83) d_X6_firstFree_83 h
      · rw [if_pos c] at h
        exact vz_throw (pc := 72) (Or.inl ⟨rfl, rfl⟩) rfl rfl thn_RX6_173_223_177 (by decide) (by decide) (Nat.le_of_ble_eq_true rfl) d_X6_firstFree_72 d_X6_firstFree_75 d_X6_firstFree_76 d_X6_firstFree_78 d_X6_firstFree_81 h
    · rw [if_pos c] at h
      exact R_throw rfl rfl thr_RX6_68_218_72 (by decide) (by decide) (Nat.le_of_ble_eq_true rfl) d_X6_firstFree_38 d_X6_firstFree_41 d_X6_firstFree_42 d_X6_firstFree_44 d_X6_firstFree_47 h
  · rw [if_pos c] at h
    exact R_throw rfl rfl thr_RX6_112_124_116 (by decide) (by decide) (Nat.le_of_ble_eq_true rfl) d_X6_firstFree_17 d_X6_firstFree_20 d_X6_firstFree_21 d_X6_firstFree_23 d_X6_firstFree_26 h
/-! X6_visit -/
theorem d_X6_visit_0 : decode mX6_visit.2.1 0 = .ok (.iload_n 1, 1) := by decide +kernel
theorem d_X6_visit_1 : decode mX6_visit.2.1 1 = .ok (.aload_n 0, 1) := by decide +kernel
theorem d_X6_visit_2 : decode mX6_visit.2.1 2 = .ok (.getfield 10, 3) := by decide +kernel
theorem d_X6_visit_5 : decode mX6_visit.2.1 5 = .ok (.getfield 225, 3) := by decide +kernel
theorem d_X6_visit_8 : decode mX6_visit.2.1 8 = .ok (.getfield 94, 3) := by decide +kernel
theorem d_X6_visit_11 : decode mX6_visit.2.1 11 = .ok (.invokestatic 64, 3) := by decide +kernel
theorem d_X6_visit_14 : decode mX6_visit.2.1 14 = .ok (.ifCond .ne 13, 3) := by decide +kernel
theorem d_X6_visit_17 : decode mX6_visit.2.1 17 = .ok (.new 112, 3) := by decide +kernel
theorem d_X6_visit_20 : decode mX6_visit.2.1 20 = .ok (.dup, 1) := by decide +kernel
theorem d_X6_visit_21 : decode mX6_visit.2.1 21 = .ok (.ldc 228, 2) := by decide +kernel
theorem d_X6_visit_23 : decode mX6_visit.2.1 23 = .ok (.invokespecial 116, 3) := by decide +kernel
theorem d_X6_visit_26 : decode mX6_visit.2.1 26 = .ok (.athrow, 1) := by decide +kernel
theorem d_X6_visit_27 : decode mX6_visit.2.1 27 = .ok (.iload_n 2, 1) := by decide +kernel
theorem d_X6_visit_28 : decode mX6_visit.2.1 28 = .ok (.bipush 8, 2) := by decide +kernel
theorem d_X6_visit_30 : decode mX6_visit.2.1 30 = .ok (.invokestatic 64, 3) := by decide +kernel
theorem d_X6_visit_33 : decode mX6_visit.2.1 33 = .ok (.ifCond .ne 13, 3) := by decide +kernel
theorem d_X6_visit_36 : decode mX6_visit.2.1 36 = .ok (.new 68, 3) := by decide +kernel
theorem d_X6_visit_39 : decode mX6_visit.2.1 39 = .ok (.dup, 1) := by decide +kernel
theorem d_X6_visit_40 : decode mX6_visit.2.1 40 = .ok (.ldc 155, 2) := by decide +kernel
theorem d_X6_visit_42 : decode mX6_visit.2.1 42 = .ok (.invokespecial 72, 3) := by decide +kernel
theorem d_X6_visit_45 : decode mX6_visit.2.1 45 = .ok (.athrow, 1) := by decide +kernel
theorem d_X6_visit_46 : decode mX6_visit.2.1 46 = .ok (.iload_n 2, 1) := by decide +kernel
theorem d_X6_visit_47 : decode mX6_visit.2.1 47 = .ok (.bipush 6, 2) := by decide +kernel
theorem d_X6_visit_49 : decode mX6_visit.2.1 49 = .ok (.if_icmp .ge 18, 3) := by decide +kernel
theorem d_X6_visit_52 : decode mX6_visit.2.1 52 = .ok (.aload_n 0, 1) := by decide +kernel
theorem d_X6_visit_53 : decode mX6_visit.2.1 53 = .ok (.getfield 10, 3) := by decide +kernel
theorem d_X6_visit_56 : decode mX6_visit.2.1 56 = .ok (.getfield 225, 3) := by decide +kernel
theorem d_X6_visit_59 : decode mX6_visit.2.1 59 = .ok (.getfield 128, 3) := by decide +kernel
theorem d_X6_visit_62 : decode mX6_visit.2.1 62 = .ok (.iload_n 1, 1) := by decide +kernel
theorem d_X6_visit_63 : decode mX6_visit.2.1 63 = .ok (.aaload, 1) := by decide +kernel
theorem d_X6_visit_64 : decode mX6_visit.2.1 64 = .ok (.iload_n 2, 1) := by decide +kernel
theorem d_X6_visit_65 : decode mX6_visit.2.1 65 = .ok (.iaload, 1) := by decide +kernel
theorem d_X6_visit_66 : decode mX6_visit.2.1 66 = .ok (.ireturn, 1) := by decide +kernel
theorem d_X6_visit_67 : decode mX6_visit.2.1 67 = .ok (.iload_n 2, 1) := by decide +kernel
theorem d_X6_visit_68 : decode mX6_visit.2.1 68 = .ok (.bipush 6, 2) := by decide +kernel
theorem d_X6_visit_70 : decode mX6_visit.2.1 70 = .ok (.if_icmp .ne 12, 3) := by decide +kernel
theorem d_X6_visit_73 : decode mX6_visit.2.1 73 = .ok (.aload_n 0, 1) := by decide +kernel
theorem d_X6_visit_74 : decode mX6_visit.2.1 74 = .ok (.getfield 10, 3) := by decide +kernel
theorem d_X6_visit_77 : decode mX6_visit.2.1 77 = .ok (.iload_n 1, 1) := by decide +kernel
theorem d_X6_visit_78 : decode mX6_visit.2.1 78 = .ok (.invokevirtual 230, 3) := by decide +kernel
theorem d_X6_visit_81 : decode mX6_visit.2.1 81 = .ok (.ireturn, 1) := by decide +kernel
theorem d_X6_visit_82 : decode mX6_visit.2.1 82 = .ok (.aload_n 0, 1) := by decide +kernel
theorem d_X6_visit_83 : decode mX6_visit.2.1 83 = .ok (.getfield 10, 3) := by decide +kernel
theorem d_X6_visit_86 : decode mX6_visit.2.1 86 = .ok (.aload_n 0, 1) := by decide +kernel
theorem d_X6_visit_87 : decode mX6_visit.2.1 87 = .ok (.getfield 10, 3) := by decide +kernel
theorem d_X6_visit_90 : decode mX6_visit.2.1 90 = .ok (.getfield 225, 3) := by decide +kernel
theorem d_X6_visit_93 : decode mX6_visit.2.1 93 = .ok (.getfield 128, 3) := by decide +kernel
theorem d_X6_visit_96 : decode mX6_visit.2.1 96 = .ok (.iload_n 1, 1) := by decide +kernel
theorem d_X6_visit_97 : decode mX6_visit.2.1 97 = .ok (.aaload, 1) := by decide +kernel
theorem d_X6_visit_98 : decode mX6_visit.2.1 98 = .ok (.iconst 1, 1) := by decide +kernel
theorem d_X6_visit_99 : decode mX6_visit.2.1 99 = .ok (.iaload, 1) := by decide +kernel
theorem d_X6_visit_100 : decode mX6_visit.2.1 100 = .ok (.invokevirtual 233, 3) := by decide +kernel
theorem d_X6_visit_103 : decode mX6_visit.2.1 103 = .ok (.ifCond .eq 7, 3) := by decide +kernel
theorem d_X6_visit_106 : decode mX6_visit.2.1 106 = .ok (.iconst 1, 1) := by decide +kernel
theorem d_X6_visit_107 : decode mX6_visit.2.1 107 = .ok (.goto 4, 3) := by decide +kernel
theorem d_X6_visit_110 : decode mX6_visit.2.1 110 = .ok (.iconst 0, 1) := by decide +kernel
theorem d_X6_visit_111 : decode mX6_visit.2.1 111 = .ok (.ireturn, 1) := by decide +kernel
def T_X6_visit_111 (Q : Int32 → Mem → Prop) (X : String → Mem → Prop) (s0 : Int32) (M : Mem) : Prop := Q s0 M
set_option maxRecDepth 100000 in
set_option maxHeartbeats 4000000 in
theorem B_X6_visit_111 {g : GG} (Q : Int32 → Mem → Prop) (X : String → Mem → Prop) (s0 : Int32) (M : Mem) (h : T_X6_visit_111 Q X s0 M) : WP g 11 mX6_visit 111 [none, none, none] [.int s0] M 1 (oI Q X) := by
  unfold T_X6_visit_111 at h
  exact R_retv (pc := 111) d_X6_visit_111 h
def T_X6_visit (Q : Int32 → Mem → Prop) (X : String → Mem → Prop) (v0 : Nat) (v1 : Int32) (v2 : Int32) (M : Mem) : Prop := (kd v0 = 6) ∧ (kd (rf v0 0) = 3) ∧ (kd (rf (rf v0 0) 5) = 4) ∧ T_X6_isBelow (fun y5 M4 => if y5 = 0 then (X "java/lang/IndexOutOfBoundsException" M4) else (T_X6_isBelow (fun y7 M6 => if y7 = 0 then (X "java/lang/IllegalArgumentException" M6) else (if (6 : Int32) ≤ v2 then (if v2 = (6 : Int32) then (T_X3_searchesOf (fun y15 M14 => Q y15 M14)  (rf v0 0) v1 M6) else ((kd (rf (rf (rf v0 0) 5) 0) = 10 ∨ kd (rf (rf (rf v0 0) 5) 0) = 11) ∧ (vp_in v1 (ln (rf (rf (rf v0 0) 5) 0))) ∧ (kd (rf (rf (rf (rf v0 0) 5) 0) (Int32.toNatClampNeg v1)) = 9) ∧ (vp_in 1 (ln (rf (rf (rf (rf v0 0) 5) 0) (Int32.toNatClampNeg v1)))) ∧ T_X3_isForQuota (fun y13 M12 => if y13 = 0 then (T_X6_visit_111 Q X 0 M12) else (T_X6_visit_111 Q X 1 M12))  (rf v0 0) (M6.1 (rf (rf (rf (rf v0 0) 5) 0) (Int32.toNatClampNeg v1)) (Int32.toNatClampNeg 1)) M6)) else ((kd (rf (rf (rf v0 0) 5) 0) = 10 ∨ kd (rf (rf (rf v0 0) 5) 0) = 11) ∧ (vp_in v1 (ln (rf (rf (rf v0 0) 5) 0))) ∧ (kd (rf (rf (rf (rf v0 0) 5) 0) (Int32.toNatClampNeg v1)) = 9) ∧ (vp_in v2 (ln (rf (rf (rf (rf v0 0) 5) 0) (Int32.toNatClampNeg v1)))) ∧ Q (M6.1 (rf (rf (rf (rf v0 0) 5) 0) (Int32.toNatClampNeg v1)) (Int32.toNatClampNeg v2)) M6)))  v2 8 M4))  v1 (M.1 (rf (rf v0 0) 5) 2) M
set_option maxRecDepth 100000 in
set_option maxHeartbeats 4000000 in
theorem c_X6_visit {g : GG} (v0 : Nat) (v1 : Int32) (v2 : Int32) (M : Mem) (Q : Int32 → Mem → Prop) (X : String → Mem → Prop) (h : T_X6_visit Q X v0 v1 v2 M) : CT g 11 mX6_visit [.ref (g.1 + v0), .int v1, .int v2] M 1 (oI Q X) := by
  refine CT_of (L := [some (.ref (g.1 + v0)), some (.int v1), some (.int v2)]) (by decide) rfl (Nat.le_of_ble_eq_true rfl) (ro_I rfl) rfl ?_
  unfold T_X6_visit at h
  refine R_iload_n (pc := 0) d_X6_visit_0 rfl rfl ?_
  refine R_aload_n (pc := 1) d_X6_visit_1 rfl rfl ?_
  obtain ⟨k1, h⟩ := h
  refine R_getR (pc := 2) fld_RX6_10 rfl rfl k1 d_X6_visit_2 ?_
  obtain ⟨k2, h⟩ := h
  refine R_getR (pc := 5) fld_RX6_225 rfl rfl k2 d_X6_visit_5 ?_
  obtain ⟨k3, h⟩ := h
  refine R_getI (pc := 8) fld_RX6_94 rfl rfl k3 d_X6_visit_8 ?_
  refine R_callS (pc := 11) (As := [.int v1, .int (M.1 (rf (rf v0 0) 5) 2)]) (rest := []) (c_X6_isBelow (g := g) v1 (M.1 (rf (rf v0 0) 5) 2) M _ h) rfl rfl cal_RX6_64 sta_X6_isBelow (by decide) (by decide) rfl rfl (Nat.le_of_ble_eq_true rfl) d_X6_visit_11 (k_Z (fun y5 M4 h => ?_)) (fun _ _ h9 => False.elim h9)
  try dsimp only at h
  refine R_if_ne (pc := 14) (tgt := 27) d_X6_visit_14 (by decide) (fun c => ?_) (fun c => ?_)
  · rw [if_neg c] at h
    refine R_iload_n (pc := 27) d_X6_visit_27 rfl rfl ?_
    refine R_bipush (pc := 28) (v := 8) d_X6_visit_28 (by decide) ?_
    refine R_callS (pc := 30) (As := [.int v2, .int 8]) (rest := []) (c_X6_isBelow (g := g) v2 8 M4 _ h) rfl rfl cal_RX6_64 sta_X6_isBelow (by decide) (by decide) rfl rfl (Nat.le_of_ble_eq_true rfl) d_X6_visit_30 (k_Z (fun y7 M6 h => ?_)) (fun _ _ h9 => False.elim h9)
    try dsimp only at h
    refine R_if_ne (pc := 33) (tgt := 46) d_X6_visit_33 (by decide) (fun c => ?_) (fun c => ?_)
    · rw [if_neg c] at h
      refine R_iload_n (pc := 46) d_X6_visit_46 rfl rfl ?_
      refine R_bipush (pc := 47) (v := 6) d_X6_visit_47 (by decide) ?_
      refine R_icmp_ge (pc := 49) (tgt := 67) d_X6_visit_49 (by decide) (fun c => ?_) (fun c => ?_)
      · rw [if_pos c] at h
        refine R_iload_n (pc := 67) d_X6_visit_67 rfl rfl ?_
        refine R_bipush (pc := 68) (v := 6) d_X6_visit_68 (by decide) ?_
        refine R_icmp_ne (pc := 70) (tgt := 82) d_X6_visit_70 (by decide) (fun c => ?_) (fun c => ?_)
        · rw [if_neg c] at h
          refine R_aload_n (pc := 82) d_X6_visit_82 rfl rfl ?_
          refine R_getR (pc := 83) fld_RX6_10 rfl rfl k1 d_X6_visit_83 ?_
          refine R_aload_n (pc := 86) d_X6_visit_86 rfl rfl ?_
          refine R_getR (pc := 87) fld_RX6_10 rfl rfl k1 d_X6_visit_87 ?_
          refine R_getR (pc := 90) fld_RX6_225 rfl rfl k2 d_X6_visit_90 ?_
          refine R_getR (pc := 93) fld_RX6_128 rfl rfl k3 d_X6_visit_93 ?_
          refine R_iload_n (pc := 96) d_X6_visit_96 rfl rfl ?_
          obtain ⟨k8, h⟩ := h
          obtain ⟨k9, h⟩ := h
          refine R_aald (pc := 97) k8 k9 d_X6_visit_97 ?_
          refine R_iconst (pc := 98) (v := 1) d_X6_visit_98 (by decide) ?_
          obtain ⟨k10, h⟩ := h
          obtain ⟨k11, h⟩ := h
          refine R_iald (pc := 99) k10 k11 d_X6_visit_99 ?_
          refine R_callV (pc := 100) (As := [.int (M6.1 (rf (rf (rf (rf v0 0) 5) 0) (Int32.toNatClampNeg v1)) (Int32.toNatClampNeg 1))]) (rest := []) (c_X3_isForQuota (g := g) (rf v0 0) (M6.1 (rf (rf (rf (rf v0 0) 5) 0) (Int32.toNatClampNeg v1)) (Int32.toNatClampNeg 1)) M6 _ h) rfl rfl cal_RX6_233 ins_X3_isForQuota sel_X3_isForQuota (cls_at k2 clsOK3) (by decide) (by decide) rfl rfl (Nat.le_of_ble_eq_true rfl) d_X6_visit_100 (k_Z (fun y13 M12 h => ?_)) (fun _ _ h9 => False.elim h9)
          try dsimp only at h
          refine R_if_eq (pc := 103) (tgt := 110) d_X6_visit_103 (by decide) (fun c => ?_) (fun c => ?_)
          · rw [if_pos c] at h
            refine R_iconst (pc := 110) (v := 0) d_X6_visit_110 (by decide) ?_
            exact WP_sub (B_X6_visit_111 Q X 0 M12 h) (by decide) (ls_n (ls_n (ls_n ls_0)))
          · rw [if_neg c] at h
            refine R_iconst (pc := 106) (v := 1) d_X6_visit_106 (by decide) ?_
            refine R_goto (pc := 107) (tgt := 111) d_X6_visit_107 (by decide) ?_
            exact WP_sub (B_X6_visit_111 Q X 1 M12 h) (by decide) (ls_n (ls_n (ls_n ls_0)))
        · rw [if_pos c] at h
          refine R_aload_n (pc := 73) d_X6_visit_73 rfl rfl ?_
          refine R_getR (pc := 74) fld_RX6_10 rfl rfl k1 d_X6_visit_74 ?_
          refine R_iload_n (pc := 77) d_X6_visit_77 rfl rfl ?_
          refine R_callV (pc := 78) (As := [.int v1]) (rest := []) (c_X3_searchesOf (g := g) (rf v0 0) v1 M6 _ h) rfl rfl cal_RX6_230 ins_X3_searchesOf sel_X3_searchesOf (cls_at k2 clsOK3) (by decide) (by decide) rfl rfl (Nat.le_of_ble_eq_true rfl) d_X6_visit_78 (k_I (fun y15 M14 h => ?_)) (fun _ _ h9 => False.elim h9)
          try dsimp only at h
          exact R_retv (pc := 81) d_X6_visit_81 h
      · rw [if_neg c] at h
        refine R_aload_n (pc := 52) d_X6_visit_52 rfl rfl ?_
        refine R_getR (pc := 53) fld_RX6_10 rfl rfl k1 d_X6_visit_53 ?_
        refine R_getR (pc := 56) fld_RX6_225 rfl rfl k2 d_X6_visit_56 ?_
        refine R_getR (pc := 59) fld_RX6_128 rfl rfl k3 d_X6_visit_59 ?_
        refine R_iload_n (pc := 62) d_X6_visit_62 rfl rfl ?_
        obtain ⟨k16, h⟩ := h
        obtain ⟨k17, h⟩ := h
        refine R_aald (pc := 63) k16 k17 d_X6_visit_63 ?_
        refine R_iload_n (pc := 64) d_X6_visit_64 rfl rfl ?_
        obtain ⟨k18, h⟩ := h
        obtain ⟨k19, h⟩ := h
        refine R_iald (pc := 65) k18 k19 d_X6_visit_65 ?_
        exact R_retv (pc := 66) d_X6_visit_66 h
    · rw [if_pos c] at h
      exact R_throw rfl rfl thr_RX6_68_155_72 (by decide) (by decide) (Nat.le_of_ble_eq_true rfl) d_X6_visit_36 d_X6_visit_39 d_X6_visit_40 d_X6_visit_42 d_X6_visit_45 h
  · rw [if_pos c] at h
    exact R_throw rfl rfl thr_RX6_112_228_116 (by decide) (by decide) (Nat.le_of_ble_eq_true rfl) d_X6_visit_17 d_X6_visit_20 d_X6_visit_21 d_X6_visit_23 d_X6_visit_26 h
/-! X6_next -/
theorem d_X6_next_0 : decode mX6_next.2.1 0 = .ok (.aload_n 0, 1) := by decide +kernel
theorem d_X6_next_1 : decode mX6_next.2.1 1 = .ok (.getfield 10, 3) := by decide +kernel
theorem d_X6_next_4 : decode mX6_next.2.1 4 = .ok (.invokevirtual 236, 3) := by decide +kernel
theorem d_X6_next_7 : decode mX6_next.2.1 7 = .ok (.lstore_n 2, 1) := by decide +kernel
theorem d_X6_next_8 : decode mX6_next.2.1 8 = .ok (.iload_n 1, 1) := by decide +kernel
theorem d_X6_next_9 : decode mX6_next.2.1 9 = .ok (.lload_n 2, 1) := by decide +kernel
theorem d_X6_next_10 : decode mX6_next.2.1 10 = .ok (.invokestatic 161, 3) := by decide +kernel
theorem d_X6_next_13 : decode mX6_next.2.1 13 = .ok (.invokestatic 64, 3) := by decide +kernel
theorem d_X6_next_16 : decode mX6_next.2.1 16 = .ok (.ifCond .ne 13, 3) := by decide +kernel
theorem d_X6_next_19 : decode mX6_next.2.1 19 = .ok (.new 173, 3) := by decide +kernel
theorem d_X6_next_22 : decode mX6_next.2.1 22 = .ok (.dup, 1) := by decide +kernel
theorem d_X6_next_23 : decode mX6_next.2.1 23 = .ok (.ldc 175, 2) := by decide +kernel
theorem d_X6_next_25 : decode mX6_next.2.1 25 = .ok (.invokespecial 177, 3) := by decide +kernel
theorem d_X6_next_28 : decode mX6_next.2.1 28 = .ok (.athrow, 1) := by decide +kernel
theorem d_X6_next_29 : decode mX6_next.2.1 29 = .ok (.aload_n 0, 1) := by decide +kernel
theorem d_X6_next_30 : decode mX6_next.2.1 30 = .ok (.getfield 10, 3) := by decide +kernel
theorem d_X6_next_33 : decode mX6_next.2.1 33 = .ok (.lload_n 2, 1) := by decide +kernel
theorem d_X6_next_34 : decode mX6_next.2.1 34 = .ok (.invokevirtual 240, 3) := by decide +kernel
theorem d_X6_next_37 : decode mX6_next.2.1 37 = .ok (.istore 4, 2) := by decide +kernel
theorem d_X6_next_39 : decode mX6_next.2.1 39 = .ok (.iconst 0, 1) := by decide +kernel
theorem d_X6_next_40 : decode mX6_next.2.1 40 = .ok (.istore 5, 2) := by decide +kernel
theorem d_X6_next_42 : decode mX6_next.2.1 42 = .ok (.iload 5, 2) := by decide +kernel
theorem d_X6_next_44 : decode mX6_next.2.1 44 = .ok (.iload_n 1, 1) := by decide +kernel
theorem d_X6_next_45 : decode mX6_next.2.1 45 = .ok (.if_icmp .ge 30, 3) := by decide +kernel
theorem d_X6_next_48 : decode mX6_next.2.1 48 = .ok (.lload_n 2, 1) := by decide +kernel
theorem d_X6_next_49 : decode mX6_next.2.1 49 = .ok (.lconst 1, 1) := by decide +kernel
theorem d_X6_next_50 : decode mX6_next.2.1 50 = .ok (.iload 4, 2) := by decide +kernel
theorem d_X6_next_52 : decode mX6_next.2.1 52 = .ok (.lshl, 1) := by decide +kernel
theorem d_X6_next_53 : decode mX6_next.2.1 53 = .ok (.ldc2_w 243, 3) := by decide +kernel
theorem d_X6_next_56 : decode mX6_next.2.1 56 = .ok (.lxor, 1) := by decide +kernel
theorem d_X6_next_57 : decode mX6_next.2.1 57 = .ok (.land, 1) := by decide +kernel
theorem d_X6_next_58 : decode mX6_next.2.1 58 = .ok (.lstore_n 2, 1) := by decide +kernel
theorem d_X6_next_59 : decode mX6_next.2.1 59 = .ok (.aload_n 0, 1) := by decide +kernel
theorem d_X6_next_60 : decode mX6_next.2.1 60 = .ok (.getfield 10, 3) := by decide +kernel
theorem d_X6_next_63 : decode mX6_next.2.1 63 = .ok (.lload_n 2, 1) := by decide +kernel
theorem d_X6_next_64 : decode mX6_next.2.1 64 = .ok (.invokevirtual 240, 3) := by decide +kernel
theorem d_X6_next_67 : decode mX6_next.2.1 67 = .ok (.istore 4, 2) := by decide +kernel
theorem d_X6_next_69 : decode mX6_next.2.1 69 = .ok (.iinc 5 1, 3) := by decide +kernel
theorem d_X6_next_72 : decode mX6_next.2.1 72 = .ok (.goto (-30), 3) := by decide +kernel
theorem d_X6_next_75 : decode mX6_next.2.1 75 = .ok (.iload 4, 2) := by decide +kernel
theorem d_X6_next_77 : decode mX6_next.2.1 77 = .ok (.ireturn, 1) := by decide +kernel
def T_X6_next_42 (Q : Int32 → Mem → Prop) (X : String → Mem → Prop) : Nat → Nat → Int32 → Int64 → Int32 → Int32 → Mem → Prop
  | 0, _, _, _, _, _, _ => False
  | n + 1, v0, v1, v2, v4, v5, M => if v1 ≤ v5 then (Q v4 M) else (∀ l1 : Int64, l1 = v2 &&& ((1 <<< (Int32.toInt64 v4 &&& 63)) ^^^ (-1)) → (kd v0 = 6) ∧ (kd (rf v0 0) = 3) ∧ T_X3_earliest (fun y5 M4 => ∀ x6 : Int32, x6 = v5 + 1 → (T_X6_next_42 Q X n) v0 v1 l1 y5 x6 M4)  (rf v0 0) l1 M)
set_option maxRecDepth 100000 in
set_option maxHeartbeats 4000000 in
theorem B_X6_next_42 {g : GG} (Q : Int32 → Mem → Prop) (X : String → Mem → Prop) : ∀ (n : Nat) (v0 : Nat) (v1 : Int32) (v2 : Int64) (v4 : Int32) (v5 : Int32) (M : Mem), T_X6_next_42 Q X n v0 v1 v2 v4 v5 M → WP g 10 mX6_next 42 [some (.ref (g.1 + v0)), some (.int v1), some (.long v2), none, some (.int v4), some (.int v5)] [] M 1 (oI Q X) := by
  intro n
  induction n with
  | zero => intro v0 v1 v2 v4 v5 M h; exact h.elim
  | succ n hκ42 =>
    intro v0 v1 v2 v4 v5 M h
    unfold T_X6_next_42 at h
    refine R_iload (pc := 42) d_X6_next_42 rfl ?_
    refine R_iload_n (pc := 44) d_X6_next_44 rfl rfl ?_
    refine R_icmp_ge (pc := 45) (tgt := 75) d_X6_next_45 (by decide) (fun c => ?_) (fun c => ?_)
    · rw [if_pos c] at h
      refine R_iload (pc := 75) d_X6_next_75 rfl ?_
      exact R_retv (pc := 77) d_X6_next_77 h
    · rw [if_neg c] at h
      refine R_lload_n (pc := 48) d_X6_next_48 rfl rfl ?_
      refine R_lconst (pc := 49) (v := 1) d_X6_next_49 (by decide) ?_
      refine R_iload (pc := 50) d_X6_next_50 rfl ?_
      refine R_lshl (pc := 52) d_X6_next_52 ?_
      refine R_ldc2 (pc := 53) rfl cst_RX6_243 d_X6_next_53 ?_
      refine R_lxor (pc := 56) d_X6_next_56 ?_
      refine R_land (pc := 57) d_X6_next_57 ?_
      refine N_l (fun l1 el1 => ?_)
      have h := h l1 el1
      refine R_lstore_n (pc := 58) (L' := [some (.ref (g.1 + v0)), some (.int v1), some (.long l1), none, some (.int v4), some (.int v5)]) d_X6_next_58 rfl (by decide) rfl ?_
      refine R_aload_n (pc := 59) d_X6_next_59 rfl rfl ?_
      obtain ⟨k2, h⟩ := h
      refine R_getR (pc := 60) fld_RX6_10 rfl rfl k2 d_X6_next_60 ?_
      refine R_lload_n (pc := 63) d_X6_next_63 rfl rfl ?_
      obtain ⟨k3, h⟩ := h
      refine R_callV (pc := 64) (As := [.long l1]) (rest := []) (c_X3_earliest (g := g) (rf v0 0) l1 M _ h) rfl rfl cal_RX6_240 ins_X3_earliest sel_X3_earliest (cls_at k3 clsOK3) (by decide) (by decide) rfl rfl (Nat.le_of_ble_eq_true rfl) d_X6_next_64 (k_I (fun y5 M4 h => ?_)) (fun _ _ h9 => False.elim h9)
      try dsimp only at h
      refine R_istore (pc := 67) (L' := [some (.ref (g.1 + v0)), some (.int v1), some (.long l1), none, some (.int y5), some (.int v5)]) d_X6_next_67 (by decide) rfl ?_
      obtain ⟨x6, ex6⟩ : ∃ z : Int32, z = v5 + 1 := ⟨_, rfl⟩
      have h := h x6 ex6
      refine R_iinc (pc := 69) (v := x6) (L' := [some (.ref (g.1 + v0)), some (.int v1), some (.long l1), none, some (.int y5), some (.int x6)]) d_X6_next_69 rfl (by rw [ex6]; rfl) (by decide) rfl ?_
      refine R_goto (pc := 72) (tgt := 42) d_X6_next_72 (by decide) ?_
      exact WP_sub (hκ42 v0 v1 l1 y5 x6 M4 h) (by decide) (ls_s (ls_s (ls_s (ls_n (ls_s (ls_s ls_0))))))
def T_X6_next (Q : Int32 → Mem → Prop) (X : String → Mem → Prop) (v0 : Nat) (v1 : Int32) (M : Mem) : Prop := (kd v0 = 6) ∧ (kd (rf v0 0) = 3) ∧ T_X3_bookedVisits (fun y4 M3 => T_J13_bitCount_95d88 (fun y6 M5 => T_X6_isBelow (fun y8 M7 => if y8 = 0 then (X "java/util/NoSuchElementException" M7) else (T_X3_earliest (fun y10 M9 => (∃ N : Nat, T_X6_next_42 Q X N v0 v1 y4 y10 0 M9))  (rf v0 0) y4 M7))  v1 y6 M5)  y4 M3)  (rf v0 0) M
set_option maxRecDepth 100000 in
set_option maxHeartbeats 4000000 in
theorem c_X6_next {g : GG} (v0 : Nat) (v1 : Int32) (M : Mem) (Q : Int32 → Mem → Prop) (X : String → Mem → Prop) (h : T_X6_next Q X v0 v1 M) : CT g 10 mX6_next [.ref (g.1 + v0), .int v1] M 1 (oI Q X) := by
  refine CT_of (L := [some (.ref (g.1 + v0)), some (.int v1), none, none, none, none]) (by decide) rfl (Nat.le_of_ble_eq_true rfl) (ro_I rfl) rfl ?_
  unfold T_X6_next at h
  refine R_aload_n (pc := 0) d_X6_next_0 rfl rfl ?_
  obtain ⟨k1, h⟩ := h
  refine R_getR (pc := 1) fld_RX6_10 rfl rfl k1 d_X6_next_1 ?_
  obtain ⟨k2, h⟩ := h
  refine R_callV (pc := 4) (As := []) (rest := []) (c_X3_bookedVisits (g := g) (rf v0 0) M _ h) rfl rfl cal_RX6_236 ins_X3_bookedVisits sel_X3_bookedVisits (cls_at k2 clsOK3) (by decide) (by decide) rfl rfl (Nat.le_of_ble_eq_true rfl) d_X6_next_4 (k_L (fun y4 M3 h => ?_)) (fun _ _ h9 => False.elim h9)
  try dsimp only at h
  refine R_lstore_n (pc := 7) (L' := [some (.ref (g.1 + v0)), some (.int v1), some (.long y4), none, none, none]) d_X6_next_7 rfl (by decide) rfl ?_
  refine R_iload_n (pc := 8) d_X6_next_8 rfl rfl ?_
  refine R_lload_n (pc := 9) d_X6_next_9 rfl rfl ?_
  refine R_callS (pc := 10) (As := [.long y4]) (rest := [.int v1]) (c_J13_bitCount_95d88 (g := g) y4 M3 _ h) rfl rfl cal_RX6_161 sta_J13_bitCount_95d88 (by decide) (by decide) rfl rfl (Nat.le_of_ble_eq_true rfl) d_X6_next_10 (k_I (fun y6 M5 h => ?_)) (fun _ _ h9 => False.elim h9)
  try dsimp only at h
  refine R_callS (pc := 13) (As := [.int v1, .int y6]) (rest := []) (c_X6_isBelow (g := g) v1 y6 M5 _ h) rfl rfl cal_RX6_64 sta_X6_isBelow (by decide) (by decide) rfl rfl (Nat.le_of_ble_eq_true rfl) d_X6_next_13 (k_Z (fun y8 M7 h => ?_)) (fun _ _ h9 => False.elim h9)
  try dsimp only at h
  refine R_if_ne (pc := 16) (tgt := 29) d_X6_next_16 (by decide) (fun c => ?_) (fun c => ?_)
  · rw [if_neg c] at h
    refine R_aload_n (pc := 29) d_X6_next_29 rfl rfl ?_
    refine R_getR (pc := 30) fld_RX6_10 rfl rfl k1 d_X6_next_30 ?_
    refine R_lload_n (pc := 33) d_X6_next_33 rfl rfl ?_
    refine R_callV (pc := 34) (As := [.long y4]) (rest := []) (c_X3_earliest (g := g) (rf v0 0) y4 M7 _ h) rfl rfl cal_RX6_240 ins_X3_earliest sel_X3_earliest (cls_at k2 clsOK3) (by decide) (by decide) rfl rfl (Nat.le_of_ble_eq_true rfl) d_X6_next_34 (k_I (fun y10 M9 h => ?_)) (fun _ _ h9 => False.elim h9)
    try dsimp only at h
    refine R_istore (pc := 37) (L' := [some (.ref (g.1 + v0)), some (.int v1), some (.long y4), none, some (.int y10), none]) d_X6_next_37 (by decide) rfl ?_
    refine R_iconst (pc := 39) (v := 0) d_X6_next_39 (by decide) ?_
    refine R_istore (pc := 40) (L' := [some (.ref (g.1 + v0)), some (.int v1), some (.long y4), none, some (.int y10), some (.int 0)]) d_X6_next_40 (by decide) rfl ?_
    obtain ⟨N, h⟩ := h
    exact WP_sub (B_X6_next_42 Q X N v0 v1 y4 y10 0 M9 h) (by decide) (ls_s (ls_s (ls_s (ls_n (ls_s (ls_s ls_0))))))
  · rw [if_pos c] at h
    exact vz_throw (pc := 19) (Or.inl ⟨rfl, rfl⟩) rfl rfl thn_RX6_173_175_177 (by decide) (by decide) (Nat.le_of_ble_eq_true rfl) d_X6_next_19 d_X6_next_22 d_X6_next_23 d_X6_next_25 d_X6_next_28 h
/-! X6_slot -/
theorem d_X6_slot_0 : decode mX6_slot.2.1 0 = .ok (.iload_n 1, 1) := by decide +kernel
theorem d_X6_slot_1 : decode mX6_slot.2.1 1 = .ok (.bipush 56, 2) := by decide +kernel
theorem d_X6_slot_3 : decode mX6_slot.2.1 3 = .ok (.invokestatic 64, 3) := by decide +kernel
theorem d_X6_slot_6 : decode mX6_slot.2.1 6 = .ok (.ifCond .eq 11, 3) := by decide +kernel
theorem d_X6_slot_9 : decode mX6_slot.2.1 9 = .ok (.iload_n 2, 1) := by decide +kernel
theorem d_X6_slot_10 : decode mX6_slot.2.1 10 = .ok (.iconst 4, 1) := by decide +kernel
theorem d_X6_slot_11 : decode mX6_slot.2.1 11 = .ok (.invokestatic 64, 3) := by decide +kernel
theorem d_X6_slot_14 : decode mX6_slot.2.1 14 = .ok (.ifCond .ne 13, 3) := by decide +kernel
theorem d_X6_slot_17 : decode mX6_slot.2.1 17 = .ok (.new 68, 3) := by decide +kernel
theorem d_X6_slot_20 : decode mX6_slot.2.1 20 = .ok (.dup, 1) := by decide +kernel
theorem d_X6_slot_21 : decode mX6_slot.2.1 21 = .ok (.ldc 245, 2) := by decide +kernel
theorem d_X6_slot_23 : decode mX6_slot.2.1 23 = .ok (.invokespecial 72, 3) := by decide +kernel
theorem d_X6_slot_26 : decode mX6_slot.2.1 26 = .ok (.athrow, 1) := by decide +kernel
theorem d_X6_slot_27 : decode mX6_slot.2.1 27 = .ok (.aload_n 0, 1) := by decide +kernel
theorem d_X6_slot_28 : decode mX6_slot.2.1 28 = .ok (.getfield 35, 3) := by decide +kernel
theorem d_X6_slot_31 : decode mX6_slot.2.1 31 = .ok (.iload_n 1, 1) := by decide +kernel
theorem d_X6_slot_32 : decode mX6_slot.2.1 32 = .ok (.iload_n 2, 1) := by decide +kernel
theorem d_X6_slot_33 : decode mX6_slot.2.1 33 = .ok (.invokevirtual 247, 3) := by decide +kernel
theorem d_X6_slot_36 : decode mX6_slot.2.1 36 = .ok (.iload_n 3, 1) := by decide +kernel
theorem d_X6_slot_37 : decode mX6_slot.2.1 37 = .ok (.ifCond .eq 13, 3) := by decide +kernel
theorem d_X6_slot_40 : decode mX6_slot.2.1 40 = .ok (.aload_n 0, 1) := by decide +kernel
theorem d_X6_slot_41 : decode mX6_slot.2.1 41 = .ok (.getfield 35, 3) := by decide +kernel
theorem d_X6_slot_44 : decode mX6_slot.2.1 44 = .ok (.getfield 250, 3) := by decide +kernel
theorem d_X6_slot_47 : decode mX6_slot.2.1 47 = .ok (.goto 10, 3) := by decide +kernel
theorem d_X6_slot_50 : decode mX6_slot.2.1 50 = .ok (.aload_n 0, 1) := by decide +kernel
theorem d_X6_slot_51 : decode mX6_slot.2.1 51 = .ok (.getfield 35, 3) := by decide +kernel
theorem d_X6_slot_54 : decode mX6_slot.2.1 54 = .ok (.getfield 253, 3) := by decide +kernel
theorem d_X6_slot_57 : decode mX6_slot.2.1 57 = .ok (.ireturn, 1) := by decide +kernel
def T_X6_slot_57 (Q : Int32 → Mem → Prop) (X : String → Mem → Prop) (s0 : Int32) (M : Mem) : Prop := Q s0 M
set_option maxRecDepth 100000 in
set_option maxHeartbeats 4000000 in
theorem B_X6_slot_57 {g : GG} (Q : Int32 → Mem → Prop) (X : String → Mem → Prop) (s0 : Int32) (M : Mem) (h : T_X6_slot_57 Q X s0 M) : WP g 12 mX6_slot 57 [none, none, none, none] [.int s0] M 1 (oI Q X) := by
  unfold T_X6_slot_57 at h
  exact R_retv (pc := 57) d_X6_slot_57 h
def T_X6_slot_17 (Q : Int32 → Mem → Prop) (X : String → Mem → Prop) (M : Mem) : Prop := X "java/lang/IllegalArgumentException" M
set_option maxRecDepth 100000 in
set_option maxHeartbeats 4000000 in
theorem B_X6_slot_17 {g : GG} (Q : Int32 → Mem → Prop) (X : String → Mem → Prop) (M : Mem) (h : T_X6_slot_17 Q X  M) : WP g 12 mX6_slot 17 [none, none, none, none] [] M 1 (oI Q X) := by
  unfold T_X6_slot_17 at h
  exact R_throw rfl rfl thr_RX6_68_245_72 (by decide) (by decide) (Nat.le_of_ble_eq_true rfl) d_X6_slot_17 d_X6_slot_20 d_X6_slot_21 d_X6_slot_23 d_X6_slot_26 h
def T_X6_slot (Q : Int32 → Mem → Prop) (X : String → Mem → Prop) (v0 : Nat) (v1 : Int32) (v2 : Int32) (v3 : Int32) (M : Mem) : Prop := T_X6_isBelow (fun y2 M1 => if y2 = 0 then (T_X6_slot_17 Q X M1) else (T_X6_isBelow (fun y4 M3 => if y4 = 0 then (T_X6_slot_17 Q X M3) else ((kd v0 = 6) ∧ (kd (rf v0 4) = 2) ∧ T_X2_lookAt (fun M7 => if v3 = 0 then (T_X6_slot_57 Q X (M7.1 (rf v0 4) 3) M7) else (T_X6_slot_57 Q X (M7.1 (rf v0 4) 4) M7))  (rf v0 4) v1 v2 M3))  v2 4 M1))  v1 56 M
set_option maxRecDepth 100000 in
set_option maxHeartbeats 4000000 in
theorem c_X6_slot {g : GG} (v0 : Nat) (v1 : Int32) (v2 : Int32) (v3 : Int32) (M : Mem) (Q : Int32 → Mem → Prop) (X : String → Mem → Prop) (h : T_X6_slot Q X v0 v1 v2 v3 M) : CT g 12 mX6_slot [.ref (g.1 + v0), .int v1, .int v2, .int v3] M 1 (oI Q X) := by
  refine CT_of (L := [some (.ref (g.1 + v0)), some (.int v1), some (.int v2), some (.int v3)]) (by decide) rfl (Nat.le_of_ble_eq_true rfl) (ro_I rfl) rfl ?_
  unfold T_X6_slot at h
  refine R_iload_n (pc := 0) d_X6_slot_0 rfl rfl ?_
  refine R_bipush (pc := 1) (v := 56) d_X6_slot_1 (by decide) ?_
  refine R_callS (pc := 3) (As := [.int v1, .int 56]) (rest := []) (c_X6_isBelow (g := g) v1 56 M _ h) rfl rfl cal_RX6_64 sta_X6_isBelow (by decide) (by decide) rfl rfl (Nat.le_of_ble_eq_true rfl) d_X6_slot_3 (k_Z (fun y2 M1 h => ?_)) (fun _ _ h9 => False.elim h9)
  try dsimp only at h
  refine R_if_eq (pc := 6) (tgt := 17) d_X6_slot_6 (by decide) (fun c => ?_) (fun c => ?_)
  · rw [if_pos c] at h
    exact WP_sub (B_X6_slot_17 Q X M1 h) (by decide) (ls_n (ls_n (ls_n (ls_n ls_0))))
  · rw [if_neg c] at h
    refine R_iload_n (pc := 9) d_X6_slot_9 rfl rfl ?_
    refine R_iconst (pc := 10) (v := 4) d_X6_slot_10 (by decide) ?_
    refine R_callS (pc := 11) (As := [.int v2, .int 4]) (rest := []) (c_X6_isBelow (g := g) v2 4 M1 _ h) rfl rfl cal_RX6_64 sta_X6_isBelow (by decide) (by decide) rfl rfl (Nat.le_of_ble_eq_true rfl) d_X6_slot_11 (k_Z (fun y4 M3 h => ?_)) (fun _ _ h9 => False.elim h9)
    try dsimp only at h
    refine R_if_ne (pc := 14) (tgt := 27) d_X6_slot_14 (by decide) (fun c => ?_) (fun c => ?_)
    · rw [if_neg c] at h
      refine R_aload_n (pc := 27) d_X6_slot_27 rfl rfl ?_
      obtain ⟨k5, h⟩ := h
      refine R_getR (pc := 28) fld_RX6_35 rfl rfl k5 d_X6_slot_28 ?_
      refine R_iload_n (pc := 31) d_X6_slot_31 rfl rfl ?_
      refine R_iload_n (pc := 32) d_X6_slot_32 rfl rfl ?_
      obtain ⟨k6, h⟩ := h
      refine R_callV (pc := 33) (As := [.int v1, .int v2]) (rest := []) (c_X2_lookAt (g := g) (rf v0 4) v1 v2 M3 _ h) rfl rfl cal_RX6_247 ins_X2_lookAt sel_X2_lookAt (cls_at k6 clsOK2) (by decide) (by decide) rfl rfl (Nat.le_of_ble_eq_true rfl) d_X6_slot_33 (k_V (fun M7 h => ?_)) (fun _ _ h9 => False.elim h9)
      try dsimp only at h
      refine R_iload_n (pc := 36) d_X6_slot_36 rfl rfl ?_
      refine R_if_eq (pc := 37) (tgt := 50) d_X6_slot_37 (by decide) (fun c => ?_) (fun c => ?_)
      · rw [if_pos c] at h
        refine R_aload_n (pc := 50) d_X6_slot_50 rfl rfl ?_
        refine R_getR (pc := 51) fld_RX6_35 rfl rfl k5 d_X6_slot_51 ?_
        refine R_getI (pc := 54) fld_RX6_253 rfl rfl k6 d_X6_slot_54 ?_
        exact WP_sub (B_X6_slot_57 Q X (M7.1 (rf v0 4) 3) M7 h) (by decide) (ls_n (ls_n (ls_n (ls_n ls_0))))
      · rw [if_neg c] at h
        refine R_aload_n (pc := 40) d_X6_slot_40 rfl rfl ?_
        refine R_getR (pc := 41) fld_RX6_35 rfl rfl k5 d_X6_slot_41 ?_
        refine R_getI (pc := 44) fld_RX6_250 rfl rfl k6 d_X6_slot_44 ?_
        refine R_goto (pc := 47) (tgt := 57) d_X6_slot_47 (by decide) ?_
        exact WP_sub (B_X6_slot_57 Q X (M7.1 (rf v0 4) 4) M7 h) (by decide) (ls_n (ls_n (ls_n (ls_n ls_0))))
    · rw [if_pos c] at h
      exact WP_sub (B_X6_slot_17 Q X M3 h) (by decide) (ls_n (ls_n (ls_n (ls_n ls_0))))
/-! X6_pass -/
theorem d_X6_pass_0 : decode mX6_pass.2.1 0 = .ok (.iload_n 1, 1) := by decide +kernel
theorem d_X6_pass_1 : decode mX6_pass.2.1 1 = .ok (.iconst 1, 1) := by decide +kernel
theorem d_X6_pass_2 : decode mX6_pass.2.1 2 = .ok (.if_icmp .lt 9, 3) := by decide +kernel
theorem d_X6_pass_5 : decode mX6_pass.2.1 5 = .ok (.iload_n 1, 1) := by decide +kernel
theorem d_X6_pass_6 : decode mX6_pass.2.1 6 = .ok (.bipush 20, 2) := by decide +kernel
theorem d_X6_pass_8 : decode mX6_pass.2.1 8 = .ok (.if_icmp .le 14, 3) := by decide +kernel
theorem d_X6_pass_11 : decode mX6_pass.2.1 11 = .ok (.new 68, 3) := by decide +kernel
theorem d_X6_pass_14 : decode mX6_pass.2.1 14 = .ok (.dup, 1) := by decide +kernel
theorem d_X6_pass_15 : decode mX6_pass.2.1 15 = .ok (.ldc_w 256, 3) := by decide +kernel
theorem d_X6_pass_18 : decode mX6_pass.2.1 18 = .ok (.invokespecial 72, 3) := by decide +kernel
theorem d_X6_pass_21 : decode mX6_pass.2.1 21 = .ok (.athrow, 1) := by decide +kernel
theorem d_X6_pass_22 : decode mX6_pass.2.1 22 = .ok (.aload_n 0, 1) := by decide +kernel
theorem d_X6_pass_23 : decode mX6_pass.2.1 23 = .ok (.getfield 10, 3) := by decide +kernel
theorem d_X6_pass_26 : decode mX6_pass.2.1 26 = .ok (.getfield 167, 3) := by decide +kernel
theorem d_X6_pass_29 : decode mX6_pass.2.1 29 = .ok (.iload_n 1, 1) := by decide +kernel
theorem d_X6_pass_30 : decode mX6_pass.2.1 30 = .ok (.iadd, 1) := by decide +kernel
theorem d_X6_pass_31 : decode mX6_pass.2.1 31 = .ok (.bipush 56, 2) := by decide +kernel
theorem d_X6_pass_33 : decode mX6_pass.2.1 33 = .ok (.if_icmp .lt 14, 3) := by decide +kernel
theorem d_X6_pass_36 : decode mX6_pass.2.1 36 = .ok (.new 82, 3) := by decide +kernel
theorem d_X6_pass_39 : decode mX6_pass.2.1 39 = .ok (.dup, 1) := by decide +kernel
theorem d_X6_pass_40 : decode mX6_pass.2.1 40 = .ok (.ldc_w 258, 3) := by decide +kernel
theorem d_X6_pass_43 : decode mX6_pass.2.1 43 = .ok (.invokespecial 86, 3) := by decide +kernel
theorem d_X6_pass_46 : decode mX6_pass.2.1 46 = .ok (.athrow, 1) := by decide +kernel
theorem d_X6_pass_47 : decode mX6_pass.2.1 47 = .ok (.aload_n 0, 1) := by decide +kernel
theorem d_X6_pass_48 : decode mX6_pass.2.1 48 = .ok (.getfield 26, 3) := by decide +kernel
theorem d_X6_pass_51 : decode mX6_pass.2.1 51 = .ok (.aload_n 0, 1) := by decide +kernel
theorem d_X6_pass_52 : decode mX6_pass.2.1 52 = .ok (.getfield 10, 3) := by decide +kernel
theorem d_X6_pass_55 : decode mX6_pass.2.1 55 = .ok (.invokevirtual 87, 3) := by decide +kernel
theorem d_X6_pass_58 : decode mX6_pass.2.1 58 = .ok (.aload_n 0, 1) := by decide +kernel
theorem d_X6_pass_59 : decode mX6_pass.2.1 59 = .ok (.getfield 44, 3) := by decide +kernel
theorem d_X6_pass_62 : decode mX6_pass.2.1 62 = .ok (.iload_n 1, 1) := by decide +kernel
theorem d_X6_pass_63 : decode mX6_pass.2.1 63 = .ok (.invokevirtual 260, 3) := by decide +kernel
theorem d_X6_pass_66 : decode mX6_pass.2.1 66 = .ok (.ireturn, 1) := by decide +kernel
def T_X6_pass_11 (Q : Int32 → Mem → Prop) (X : String → Mem → Prop) (M : Mem) : Prop := X "java/lang/IllegalArgumentException" M
set_option maxRecDepth 100000 in
set_option maxHeartbeats 4000000 in
theorem B_X6_pass_11 {g : GG} (Q : Int32 → Mem → Prop) (X : String → Mem → Prop) (M : Mem) (h : T_X6_pass_11 Q X  M) : WP g 13 mX6_pass 11 [none, none] [] M 1 (oI Q X) := by
  unfold T_X6_pass_11 at h
  exact R_throwW rfl rfl thr_RX6_68_256_72 (by decide) (by decide) (Nat.le_of_ble_eq_true rfl) d_X6_pass_11 d_X6_pass_14 d_X6_pass_15 d_X6_pass_18 d_X6_pass_21 h
def T_X6_pass (Q : Int32 → Mem → Prop) (X : String → Mem → Prop) (v0 : Nat) (v1 : Int32) (M : Mem) : Prop := if v1 < (1 : Int32) then (T_X6_pass_11 Q X M) else (if v1 ≤ (20 : Int32) then ((kd v0 = 6) ∧ (kd (rf v0 0) = 3) ∧ if ((M.1 (rf v0 0) 0) + v1) < (56 : Int32) then ((kd (rf v0 3) = 1) ∧ T_X1_keep (fun M4 => (kd (rf v0 5) = 0) ∧ T_X0_passDays (fun y7 M6 => Q y7 M6)  (rf v0 5) v1 M4)  (rf v0 3) (rf v0 0) M) else (X "java/lang/IllegalStateException" M)) else (T_X6_pass_11 Q X M))
set_option maxRecDepth 100000 in
set_option maxHeartbeats 4000000 in
theorem c_X6_pass {g : GG} (v0 : Nat) (v1 : Int32) (M : Mem) (Q : Int32 → Mem → Prop) (X : String → Mem → Prop) (h : T_X6_pass Q X v0 v1 M) : CT g 13 mX6_pass [.ref (g.1 + v0), .int v1] M 1 (oI Q X) := by
  refine CT_of (L := [some (.ref (g.1 + v0)), some (.int v1)]) (by decide) rfl (Nat.le_of_ble_eq_true rfl) (ro_I rfl) rfl ?_
  unfold T_X6_pass at h
  refine R_iload_n (pc := 0) d_X6_pass_0 rfl rfl ?_
  refine R_iconst (pc := 1) (v := 1) d_X6_pass_1 (by decide) ?_
  refine R_icmp_lt (pc := 2) (tgt := 11) d_X6_pass_2 (by decide) (fun c => ?_) (fun c => ?_)
  · rw [if_pos c] at h
    exact WP_sub (B_X6_pass_11 Q X M h) (by decide) (ls_n (ls_n ls_0))
  · rw [if_neg c] at h
    refine R_iload_n (pc := 5) d_X6_pass_5 rfl rfl ?_
    refine R_bipush (pc := 6) (v := 20) d_X6_pass_6 (by decide) ?_
    refine R_icmp_le (pc := 8) (tgt := 22) d_X6_pass_8 (by decide) (fun c => ?_) (fun c => ?_)
    · rw [if_pos c] at h
      refine R_aload_n (pc := 22) d_X6_pass_22 rfl rfl ?_
      obtain ⟨k1, h⟩ := h
      refine R_getR (pc := 23) fld_RX6_10 rfl rfl k1 d_X6_pass_23 ?_
      obtain ⟨k2, h⟩ := h
      refine R_getI (pc := 26) fld_RX6_167 rfl rfl k2 d_X6_pass_26 ?_
      refine R_iload_n (pc := 29) d_X6_pass_29 rfl rfl ?_
      refine R_iadd (pc := 30) d_X6_pass_30 ?_
      refine R_bipush (pc := 31) (v := 56) d_X6_pass_31 (by decide) ?_
      refine R_icmp_lt (pc := 33) (tgt := 47) d_X6_pass_33 (by decide) (fun c => ?_) (fun c => ?_)
      · rw [if_pos c] at h
        refine R_aload_n (pc := 47) d_X6_pass_47 rfl rfl ?_
        refine R_getR (pc := 48) fld_RX6_26 rfl rfl k1 d_X6_pass_48 ?_
        refine R_aload_n (pc := 51) d_X6_pass_51 rfl rfl ?_
        refine R_getR (pc := 52) fld_RX6_10 rfl rfl k1 d_X6_pass_52 ?_
        obtain ⟨k3, h⟩ := h
        refine R_callV (pc := 55) (As := [.ref (g.1 + (rf v0 0))]) (rest := []) (c_X1_keep (g := g) (rf v0 3) (rf v0 0) M _ h) rfl rfl cal_RX6_87 ins_X1_keep sel_X1_keep (cls_at k3 clsOK1) (by decide) (by decide) rfl rfl (Nat.le_of_ble_eq_true rfl) d_X6_pass_55 (k_V (fun M4 h => ?_)) (fun _ _ h9 => False.elim h9)
        try dsimp only at h
        refine R_aload_n (pc := 58) d_X6_pass_58 rfl rfl ?_
        refine R_getR (pc := 59) fld_RX6_44 rfl rfl k1 d_X6_pass_59 ?_
        refine R_iload_n (pc := 62) d_X6_pass_62 rfl rfl ?_
        obtain ⟨k5, h⟩ := h
        refine R_callV (pc := 63) (As := [.int v1]) (rest := []) (c_X0_passDays (g := g) (rf v0 5) v1 M4 _ h) rfl rfl cal_RX6_260 ins_X0_passDays sel_X0_passDays (cls_at k5 clsOK0) (by decide) (by decide) rfl rfl (Nat.le_of_ble_eq_true rfl) d_X6_pass_63 (k_I (fun y7 M6 h => ?_)) (fun _ _ h9 => False.elim h9)
        try dsimp only at h
        exact R_retv (pc := 66) d_X6_pass_66 h
      · rw [if_neg c] at h
        exact R_throwW rfl rfl thr_RX6_82_258_86 (by decide) (by decide) (Nat.le_of_ble_eq_true rfl) d_X6_pass_36 d_X6_pass_39 d_X6_pass_40 d_X6_pass_43 d_X6_pass_46 h
    · rw [if_neg c] at h
      exact WP_sub (B_X6_pass_11 Q X M h) (by decide) (ls_n (ls_n ls_0))
/-! X6_othersFor -/
theorem d_X6_othersFor_0 : decode mX6_othersFor.2.1 0 = .ok (.iload_n 1, 1) := by decide +kernel
theorem d_X6_othersFor_1 : decode mX6_othersFor.2.1 1 = .ok (.ifCond .ne 14, 3) := by decide +kernel
theorem d_X6_othersFor_4 : decode mX6_othersFor.2.1 4 = .ok (.aload_n 0, 1) := by decide +kernel
theorem d_X6_othersFor_5 : decode mX6_othersFor.2.1 5 = .ok (.getfield 10, 3) := by decide +kernel
theorem d_X6_othersFor_8 : decode mX6_othersFor.2.1 8 = .ok (.getfield 100, 3) := by decide +kernel
theorem d_X6_othersFor_11 : decode mX6_othersFor.2.1 11 = .ok (.getfield 94, 3) := by decide +kernel
theorem d_X6_othersFor_14 : decode mX6_othersFor.2.1 14 = .ok (.ireturn, 1) := by decide +kernel
theorem d_X6_othersFor_15 : decode mX6_othersFor.2.1 15 = .ok (.iload_n 1, 1) := by decide +kernel
theorem d_X6_othersFor_16 : decode mX6_othersFor.2.1 16 = .ok (.iconst 1, 1) := by decide +kernel
theorem d_X6_othersFor_17 : decode mX6_othersFor.2.1 17 = .ok (.if_icmp .ne 7, 3) := by decide +kernel
theorem d_X6_othersFor_20 : decode mX6_othersFor.2.1 20 = .ok (.iconst 3, 1) := by decide +kernel
theorem d_X6_othersFor_21 : decode mX6_othersFor.2.1 21 = .ok (.goto 13, 3) := by decide +kernel
theorem d_X6_othersFor_24 : decode mX6_othersFor.2.1 24 = .ok (.aload_n 0, 1) := by decide +kernel
theorem d_X6_othersFor_25 : decode mX6_othersFor.2.1 25 = .ok (.getfield 10, 3) := by decide +kernel
theorem d_X6_othersFor_28 : decode mX6_othersFor.2.1 28 = .ok (.getfield 75, 3) := by decide +kernel
theorem d_X6_othersFor_31 : decode mX6_othersFor.2.1 31 = .ok (.getfield 94, 3) := by decide +kernel
theorem d_X6_othersFor_34 : decode mX6_othersFor.2.1 34 = .ok (.ireturn, 1) := by decide +kernel
def T_X6_othersFor_34 (Q : Int32 → Mem → Prop) (s0 : Int32) (M : Mem) : Prop := Q s0 M
set_option maxRecDepth 100000 in
set_option maxHeartbeats 4000000 in
theorem B_X6_othersFor_34 {g : GG} (Q : Int32 → Mem → Prop) (s0 : Int32) (M : Mem) (h : T_X6_othersFor_34 Q s0 M) : WP g 9 mX6_othersFor 34 [none, none] [.int s0] M 0 (oI Q noX) := by
  unfold T_X6_othersFor_34 at h
  exact R_retv (pc := 34) d_X6_othersFor_34 h
def T_X6_othersFor (Q : Int32 → Mem → Prop) (v0 : Nat) (v1 : Int32) (M : Mem) : Prop := if v1 = 0 then ((kd v0 = 6) ∧ (kd (rf v0 0) = 3) ∧ (kd (rf (rf v0 0) 3) = 4) ∧ Q (M.1 (rf (rf v0 0) 3) 2) M) else (if v1 = (1 : Int32) then (T_X6_othersFor_34 Q 3 M) else ((kd v0 = 6) ∧ (kd (rf v0 0) = 3) ∧ (kd (rf (rf v0 0) 2) = 4) ∧ T_X6_othersFor_34 Q (M.1 (rf (rf v0 0) 2) 2) M))
set_option maxRecDepth 100000 in
set_option maxHeartbeats 4000000 in
theorem c_X6_othersFor {g : GG} (v0 : Nat) (v1 : Int32) (M : Mem) (Q : Int32 → Mem → Prop) (h : T_X6_othersFor Q v0 v1 M) : CT g 9 mX6_othersFor [.ref (g.1 + v0), .int v1] M 0 (oI Q noX) := by
  refine CT_of (L := [some (.ref (g.1 + v0)), some (.int v1)]) (by decide) rfl (Nat.le_of_ble_eq_true rfl) (ro_I rfl) rfl ?_
  unfold T_X6_othersFor at h
  refine R_iload_n (pc := 0) d_X6_othersFor_0 rfl rfl ?_
  refine R_if_ne (pc := 1) (tgt := 15) d_X6_othersFor_1 (by decide) (fun c => ?_) (fun c => ?_)
  · rw [if_neg c] at h
    refine R_iload_n (pc := 15) d_X6_othersFor_15 rfl rfl ?_
    refine R_iconst (pc := 16) (v := 1) d_X6_othersFor_16 (by decide) ?_
    refine R_icmp_ne (pc := 17) (tgt := 24) d_X6_othersFor_17 (by decide) (fun c => ?_) (fun c => ?_)
    · rw [if_neg c] at h
      refine R_aload_n (pc := 24) d_X6_othersFor_24 rfl rfl ?_
      obtain ⟨k1, h⟩ := h
      refine R_getR (pc := 25) fld_RX6_10 rfl rfl k1 d_X6_othersFor_25 ?_
      obtain ⟨k2, h⟩ := h
      refine R_getR (pc := 28) fld_RX6_75 rfl rfl k2 d_X6_othersFor_28 ?_
      obtain ⟨k3, h⟩ := h
      refine R_getI (pc := 31) fld_RX6_94 rfl rfl k3 d_X6_othersFor_31 ?_
      exact WP_sub (B_X6_othersFor_34 Q (M.1 (rf (rf v0 0) 2) 2) M h) (by decide) (ls_n (ls_n ls_0))
    · rw [if_pos c] at h
      refine R_iconst (pc := 20) (v := 3) d_X6_othersFor_20 (by decide) ?_
      refine R_goto (pc := 21) (tgt := 34) d_X6_othersFor_21 (by decide) ?_
      exact WP_sub (B_X6_othersFor_34 Q 3 M h) (by decide) (ls_n (ls_n ls_0))
  · rw [if_pos c] at h
    refine R_aload_n (pc := 4) d_X6_othersFor_4 rfl rfl ?_
    obtain ⟨k4, h⟩ := h
    refine R_getR (pc := 5) fld_RX6_10 rfl rfl k4 d_X6_othersFor_5 ?_
    obtain ⟨k5, h⟩ := h
    refine R_getR (pc := 8) fld_RX6_100 rfl rfl k5 d_X6_othersFor_8 ?_
    obtain ⟨k6, h⟩ := h
    refine R_getI (pc := 11) fld_RX6_94 rfl rfl k6 d_X6_othersFor_11 ?_
    exact R_retv (pc := 14) d_X6_othersFor_14 h
/-! X6_areDays -/
theorem d_X6_areDays_0 : decode mX6_areDays.2.1 0 = .ok (.iload_n 0, 1) := by decide +kernel
theorem d_X6_areDays_1 : decode mX6_areDays.2.1 1 = .ok (.ifCond .lt 18, 3) := by decide +kernel
theorem d_X6_areDays_4 : decode mX6_areDays.2.1 4 = .ok (.iload_n 0, 1) := by decide +kernel
theorem d_X6_areDays_5 : decode mX6_areDays.2.1 5 = .ok (.iload_n 1, 1) := by decide +kernel
theorem d_X6_areDays_6 : decode mX6_areDays.2.1 6 = .ok (.if_icmp .gt 13, 3) := by decide +kernel
theorem d_X6_areDays_9 : decode mX6_areDays.2.1 9 = .ok (.iload_n 1, 1) := by decide +kernel
theorem d_X6_areDays_10 : decode mX6_areDays.2.1 10 = .ok (.bipush 56, 2) := by decide +kernel
theorem d_X6_areDays_12 : decode mX6_areDays.2.1 12 = .ok (.if_icmp .ge 7, 3) := by decide +kernel
theorem d_X6_areDays_15 : decode mX6_areDays.2.1 15 = .ok (.iconst 1, 1) := by decide +kernel
theorem d_X6_areDays_16 : decode mX6_areDays.2.1 16 = .ok (.goto 4, 3) := by decide +kernel
theorem d_X6_areDays_19 : decode mX6_areDays.2.1 19 = .ok (.iconst 0, 1) := by decide +kernel
theorem d_X6_areDays_20 : decode mX6_areDays.2.1 20 = .ok (.ireturn, 1) := by decide +kernel
def T_X6_areDays_20 (Q : Int32 → Mem → Prop) (s0 : Int32) (M : Mem) : Prop := ((s0 : Int32) = 0 ∨ (s0 : Int32) = 1) ∧ Q s0 M
set_option maxRecDepth 100000 in
set_option maxHeartbeats 4000000 in
theorem B_X6_areDays_20 {g : GG} (Q : Int32 → Mem → Prop) (s0 : Int32) (M : Mem) (h : T_X6_areDays_20 Q s0 M) : WP g 9 mX6_areDays 20 [none, none] [.int s0] M 0 (oZ Q noX) := by
  unfold T_X6_areDays_20 at h
  exact R_retv (pc := 20) d_X6_areDays_20 h
def T_X6_areDays_19 (Q : Int32 → Mem → Prop) (M : Mem) : Prop := T_X6_areDays_20 Q 0 M
set_option maxRecDepth 100000 in
set_option maxHeartbeats 4000000 in
theorem B_X6_areDays_19 {g : GG} (Q : Int32 → Mem → Prop) (M : Mem) (h : T_X6_areDays_19 Q  M) : WP g 9 mX6_areDays 19 [none, none] [] M 0 (oZ Q noX) := by
  unfold T_X6_areDays_19 at h
  refine R_iconst (pc := 19) (v := 0) d_X6_areDays_19 (by decide) ?_
  exact WP_sub (B_X6_areDays_20 Q 0 M h) (by decide) (ls_n (ls_n ls_0))
def T_X6_areDays (Q : Int32 → Mem → Prop) (v0 : Int32) (v1 : Int32) (M : Mem) : Prop := if v0 < 0 then (T_X6_areDays_19 Q M) else (if v1 < v0 then (T_X6_areDays_19 Q M) else (if (56 : Int32) ≤ v1 then (T_X6_areDays_19 Q M) else (T_X6_areDays_20 Q 1 M)))
set_option maxRecDepth 100000 in
set_option maxHeartbeats 4000000 in
theorem c_X6_areDays {g : GG} (v0 : Int32) (v1 : Int32) (M : Mem) (Q : Int32 → Mem → Prop) (h : T_X6_areDays Q v0 v1 M) : CT g 9 mX6_areDays [.int v0, .int v1] M 0 (oZ Q noX) := by
  refine CT_of (L := [some (.int v0), some (.int v1)]) (by decide) rfl (Nat.le_of_ble_eq_true rfl) (ro_Z rfl) rfl ?_
  unfold T_X6_areDays at h
  refine R_iload_n (pc := 0) d_X6_areDays_0 rfl rfl ?_
  refine R_if_lt (pc := 1) (tgt := 19) d_X6_areDays_1 (by decide) (fun c => ?_) (fun c => ?_)
  · rw [if_pos c] at h
    exact WP_sub (B_X6_areDays_19 Q M h) (by decide) (ls_n (ls_n ls_0))
  · rw [if_neg c] at h
    refine R_iload_n (pc := 4) d_X6_areDays_4 rfl rfl ?_
    refine R_iload_n (pc := 5) d_X6_areDays_5 rfl rfl ?_
    refine R_icmp_gt (pc := 6) (tgt := 19) d_X6_areDays_6 (by decide) (fun c => ?_) (fun c => ?_)
    · rw [if_pos c] at h
      exact WP_sub (B_X6_areDays_19 Q M h) (by decide) (ls_n (ls_n ls_0))
    · rw [if_neg c] at h
      refine R_iload_n (pc := 9) d_X6_areDays_9 rfl rfl ?_
      refine R_bipush (pc := 10) (v := 56) d_X6_areDays_10 (by decide) ?_
      refine R_icmp_ge (pc := 12) (tgt := 19) d_X6_areDays_12 (by decide) (fun c => ?_) (fun c => ?_)
      · rw [if_pos c] at h
        exact WP_sub (B_X6_areDays_19 Q M h) (by decide) (ls_n (ls_n ls_0))
      · rw [if_neg c] at h
        refine R_iconst (pc := 15) (v := 1) d_X6_areDays_15 (by decide) ?_
        refine R_goto (pc := 16) (tgt := 20) d_X6_areDays_16 (by decide) ?_
        exact WP_sub (B_X6_areDays_20 Q 1 M h) (by decide) (ls_n (ls_n ls_0))
