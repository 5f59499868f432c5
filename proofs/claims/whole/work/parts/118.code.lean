/-! X7_notice -/
theorem d_X7_notice_0 : decode mX7_notice.2.1 0 = .ok (.aload_n 0, 1) := by decide +kernel
theorem d_X7_notice_1 : decode mX7_notice.2.1 1 = .ok (.iconst 0, 1) := by decide +kernel
theorem d_X7_notice_2 : decode mX7_notice.2.1 2 = .ok (.putfield 37, 3) := by decide +kernel
theorem d_X7_notice_5 : decode mX7_notice.2.1 5 = .ok (.iload_n 1, 1) := by decide +kernel
theorem d_X7_notice_6 : decode mX7_notice.2.1 6 = .ok (.iconst 0, 1) := by decide +kernel
theorem d_X7_notice_7 : decode mX7_notice.2.1 7 = .ok (.aload_n 0, 1) := by decide +kernel
theorem d_X7_notice_8 : decode mX7_notice.2.1 8 = .ok (.getfield 7, 3) := by decide +kernel
theorem d_X7_notice_11 : decode mX7_notice.2.1 11 = .ok (.bipush 7, 2) := by decide +kernel
theorem d_X7_notice_13 : decode mX7_notice.2.1 13 = .ok (.iaload, 1) := by decide +kernel
theorem d_X7_notice_14 : decode mX7_notice.2.1 14 = .ok (.iconst 1, 1) := by decide +kernel
theorem d_X7_notice_15 : decode mX7_notice.2.1 15 = .ok (.isub, 1) := by decide +kernel
theorem d_X7_notice_16 : decode mX7_notice.2.1 16 = .ok (.invokestatic 41, 3) := by decide +kernel
theorem d_X7_notice_19 : decode mX7_notice.2.1 19 = .ok (.ifCond .eq 28, 3) := by decide +kernel
theorem d_X7_notice_22 : decode mX7_notice.2.1 22 = .ok (.aload_n 0, 1) := by decide +kernel
theorem d_X7_notice_23 : decode mX7_notice.2.1 23 = .ok (.getfield 7, 3) := by decide +kernel
theorem d_X7_notice_26 : decode mX7_notice.2.1 26 = .ok (.sipush 512, 3) := by decide +kernel
theorem d_X7_notice_29 : decode mX7_notice.2.1 29 = .ok (.iconst 2, 1) := by decide +kernel
theorem d_X7_notice_30 : decode mX7_notice.2.1 30 = .ok (.iload_n 1, 1) := by decide +kernel
theorem d_X7_notice_31 : decode mX7_notice.2.1 31 = .ok (.imul, 1) := by decide +kernel
theorem d_X7_notice_32 : decode mX7_notice.2.1 32 = .ok (.iadd, 1) := by decide +kernel
theorem d_X7_notice_33 : decode mX7_notice.2.1 33 = .ok (.iload_n 2, 1) := by decide +kernel
theorem d_X7_notice_34 : decode mX7_notice.2.1 34 = .ok (.ifCond .eq 7, 3) := by decide +kernel
theorem d_X7_notice_37 : decode mX7_notice.2.1 37 = .ok (.iconst 1, 1) := by decide +kernel
theorem d_X7_notice_38 : decode mX7_notice.2.1 38 = .ok (.goto 4, 3) := by decide +kernel
theorem d_X7_notice_41 : decode mX7_notice.2.1 41 = .ok (.iconst 0, 1) := by decide +kernel
theorem d_X7_notice_42 : decode mX7_notice.2.1 42 = .ok (.iadd, 1) := by decide +kernel
theorem d_X7_notice_43 : decode mX7_notice.2.1 43 = .ok (.iaload, 1) := by decide +kernel
theorem d_X7_notice_44 : decode mX7_notice.2.1 44 = .ok (.goto 8, 3) := by decide +kernel
theorem d_X7_notice_47 : decode mX7_notice.2.1 47 = .ok (.aload_n 0, 1) := by decide +kernel
theorem d_X7_notice_48 : decode mX7_notice.2.1 48 = .ok (.iconst 1, 1) := by decide +kernel
theorem d_X7_notice_49 : decode mX7_notice.2.1 49 = .ok (.invokevirtual 163, 3) := by decide +kernel
theorem d_X7_notice_52 : decode mX7_notice.2.1 52 = .ok (.ireturn, 1) := by decide +kernel
def T_X7_notice_52 (Q : Int32 → Mem → Prop) (s0 : Int32) (M : Mem) : Prop := Q s0 M
set_option maxRecDepth 100000 in
set_option maxHeartbeats 4000000 in
theorem B_X7_notice_52 {g : GG} (Q : Int32 → Mem → Prop) (s0 : Int32) (M : Mem) (h : T_X7_notice_52 Q s0 M) : WP g 10 mX7_notice 52 [none, none, none] [.int s0] M 0 (oI Q noX) := by
  unfold T_X7_notice_52 at h
  exact R_retv (pc := 52) d_X7_notice_52 h
def T_X7_notice_42 (Q : Int32 → Mem → Prop) (s0 : Int32) (s1 : Int32) (s2 : Nat) (M : Mem) : Prop := (kd s2 = 9) ∧ (vp_in (s1 + s0) (ln s2)) ∧ T_X7_notice_52 Q (M.1 s2 (Int32.toNatClampNeg (s1 + s0))) M
set_option maxRecDepth 100000 in
set_option maxHeartbeats 4000000 in
theorem B_X7_notice_42 {g : GG} (Q : Int32 → Mem → Prop) (s0 : Int32) (s1 : Int32) (s2 : Nat) (M : Mem) (h : T_X7_notice_42 Q s0 s1 s2 M) : WP g 10 mX7_notice 42 [none, none, none] [.int s0, .int s1, .ref (g.1 + s2)] M 0 (oI Q noX) := by
  unfold T_X7_notice_42 at h
  refine R_iadd (pc := 42) d_X7_notice_42 ?_
  obtain ⟨k1, h⟩ := h
  obtain ⟨k2, h⟩ := h
  refine R_iald (pc := 43) k1 k2 d_X7_notice_43 ?_
  refine R_goto (pc := 44) (tgt := 52) d_X7_notice_44 (by decide) ?_
  exact WP_sub (B_X7_notice_52 Q (M.1 s2 (Int32.toNatClampNeg (s1 + s0))) M h) (by decide) (ls_n (ls_n (ls_n ls_0)))
def T_X7_notice (Q : Int32 → Mem → Prop) (v0 : Nat) (v1 : Int32) (v2 : Int32) (M : Mem) : Prop := (kd v0 = 7) ∧ ∀ M2 : Mem, M2 = mset M v0 0 0 → (kd (rf v0 1) = 9) ∧ (vp_in 7 (ln (rf v0 1))) ∧ T_X7_in (fun y6 M5 => if y6 = 0 then (T_X7_fails (fun y8 M7 => T_X7_notice_52 Q y8 M7)  v0 1 M5) else (if v2 = 0 then (T_X7_notice_42 Q 0 (512 + (2 * v1)) (rf v0 1) M5) else (T_X7_notice_42 Q 1 (512 + (2 * v1)) (rf v0 1) M5)))  v1 0 ((M2.1 (rf v0 1) (Int32.toNatClampNeg 7)) - 1) M2
set_option maxRecDepth 100000 in
set_option maxHeartbeats 4000000 in
theorem c_X7_notice {g : GG} (v0 : Nat) (v1 : Int32) (v2 : Int32) (M : Mem) (Q : Int32 → Mem → Prop) (h : T_X7_notice Q v0 v1 v2 M) : CT g 10 mX7_notice [.ref (g.1 + v0), .int v1, .int v2] M 0 (oI Q noX) := by
  refine CT_of (L := [some (.ref (g.1 + v0)), some (.int v1), some (.int v2)]) (by decide) rfl (Nat.le_of_ble_eq_true rfl) (ro_I rfl) rfl ?_
  unfold T_X7_notice at h
  refine R_aload_n (pc := 0) d_X7_notice_0 rfl rfl ?_
  refine R_iconst (pc := 1) (v := 0) d_X7_notice_1 (by decide) ?_
  obtain ⟨k1, h⟩ := h
  refine R_putI (pc := 2) fld_RX7_37 rfl rfl rfl k1 rfl rfl d_X7_notice_2 (N_M (fun M2 eM2 => ?_))
  have h := h M2 eM2
  refine R_iload_n (pc := 5) d_X7_notice_5 rfl rfl ?_
  refine R_iconst (pc := 6) (v := 0) d_X7_notice_6 (by decide) ?_
  refine R_aload_n (pc := 7) d_X7_notice_7 rfl rfl ?_
  refine R_getR (pc := 8) fld_RX7_7 rfl rfl k1 d_X7_notice_8 ?_
  refine R_bipush (pc := 11) (v := 7) d_X7_notice_11 (by decide) ?_
  obtain ⟨k3, h⟩ := h
  obtain ⟨k4, h⟩ := h
  refine R_iald (pc := 13) k3 k4 d_X7_notice_13 ?_
  refine R_iconst (pc := 14) (v := 1) d_X7_notice_14 (by decide) ?_
  refine R_isub (pc := 15) d_X7_notice_15 ?_
  refine R_callS (pc := 16) (As := [.int v1, .int 0, .int ((M2.1 (rf v0 1) (Int32.toNatClampNeg 7)) - 1)]) (rest := []) (c_X7_in (g := g) v1 0 ((M2.1 (rf v0 1) (Int32.toNatClampNeg 7)) - 1) M2 _ h) rfl rfl cal_RX7_41 sta_X7_in (by decide) (by decide) rfl rfl (Nat.le_of_ble_eq_true rfl) d_X7_notice_16 (k_Z (fun y6 M5 h => ?_)) (fun _ _ h9 => False.elim h9)
  try dsimp only at h
  refine R_if_eq (pc := 19) (tgt := 47) d_X7_notice_19 (by decide) (fun c => ?_) (fun c => ?_)
  · rw [if_pos c] at h
    refine R_aload_n (pc := 47) d_X7_notice_47 rfl rfl ?_
    refine R_iconst (pc := 48) (v := 1) d_X7_notice_48 (by decide) ?_
    refine R_callV (pc := 49) (As := [.int 1]) (rest := []) (c_X7_fails (g := g) v0 1 M5 _ h) rfl rfl cal_RX7_163 ins_X7_fails sel_X7_fails (cls_at k1 clsOK7) (by decide) (by decide) rfl rfl (Nat.le_of_ble_eq_true rfl) d_X7_notice_49 (k_I (fun y8 M7 h => ?_)) (fun _ _ h9 => False.elim h9)
    try dsimp only at h
    exact WP_sub (B_X7_notice_52 Q y8 M7 h) (by decide) (ls_n (ls_n (ls_n ls_0)))
  · rw [if_neg c] at h
    refine R_aload_n (pc := 22) d_X7_notice_22 rfl rfl ?_
    refine R_getR (pc := 23) fld_RX7_7 rfl rfl k1 d_X7_notice_23 ?_
    refine R_sipush (pc := 26) (v := 512) d_X7_notice_26 (by decide) ?_
    refine R_iconst (pc := 29) (v := 2) d_X7_notice_29 (by decide) ?_
    refine R_iload_n (pc := 30) d_X7_notice_30 rfl rfl ?_
    refine R_imul (pc := 31) d_X7_notice_31 ?_
    refine R_iadd (pc := 32) d_X7_notice_32 ?_
    refine R_iload_n (pc := 33) d_X7_notice_33 rfl rfl ?_
    refine R_if_eq (pc := 34) (tgt := 41) d_X7_notice_34 (by decide) (fun c => ?_) (fun c => ?_)
    · rw [if_pos c] at h
      refine R_iconst (pc := 41) (v := 0) d_X7_notice_41 (by decide) ?_
      exact WP_sub (B_X7_notice_42 Q 0 (512 + (2 * v1)) (rf v0 1) M5 h) (by decide) (ls_n (ls_n (ls_n ls_0)))
    · rw [if_neg c] at h
      refine R_iconst (pc := 37) (v := 1) d_X7_notice_37 (by decide) ?_
      refine R_goto (pc := 38) (tgt := 42) d_X7_notice_38 (by decide) ?_
      exact WP_sub (B_X7_notice_42 Q 1 (512 + (2 * v1)) (rf v0 1) M5 h) (by decide) (ls_n (ls_n (ls_n ls_0)))
/-! X7_report -/
theorem d_X7_report_0 : decode mX7_report.2.1 0 = .ok (.aload_n 0, 1) := by decide +kernel
theorem d_X7_report_1 : decode mX7_report.2.1 1 = .ok (.iconst 0, 1) := by decide +kernel
theorem d_X7_report_2 : decode mX7_report.2.1 2 = .ok (.putfield 37, 3) := by decide +kernel
theorem d_X7_report_5 : decode mX7_report.2.1 5 = .ok (.iload_n 1, 1) := by decide +kernel
theorem d_X7_report_6 : decode mX7_report.2.1 6 = .ok (.iconst 0, 1) := by decide +kernel
theorem d_X7_report_7 : decode mX7_report.2.1 7 = .ok (.aload_n 0, 1) := by decide +kernel
theorem d_X7_report_8 : decode mX7_report.2.1 8 = .ok (.getfield 191, 3) := by decide +kernel
theorem d_X7_report_11 : decode mX7_report.2.1 11 = .ok (.iconst 1, 1) := by decide +kernel
theorem d_X7_report_12 : decode mX7_report.2.1 12 = .ok (.isub, 1) := by decide +kernel
theorem d_X7_report_13 : decode mX7_report.2.1 13 = .ok (.invokestatic 41, 3) := by decide +kernel
theorem d_X7_report_16 : decode mX7_report.2.1 16 = .ok (.ifCond .ne 9, 3) := by decide +kernel
theorem d_X7_report_19 : decode mX7_report.2.1 19 = .ok (.aload_n 0, 1) := by decide +kernel
theorem d_X7_report_20 : decode mX7_report.2.1 20 = .ok (.iconst 1, 1) := by decide +kernel
theorem d_X7_report_21 : decode mX7_report.2.1 21 = .ok (.invokevirtual 163, 3) := by decide +kernel
theorem d_X7_report_24 : decode mX7_report.2.1 24 = .ok (.ireturn, 1) := by decide +kernel
theorem d_X7_report_25 : decode mX7_report.2.1 25 = .ok (.iload_n 2, 1) := by decide +kernel
theorem d_X7_report_26 : decode mX7_report.2.1 26 = .ok (.ifCond .eq 12, 3) := by decide +kernel
theorem d_X7_report_29 : decode mX7_report.2.1 29 = .ok (.aload_n 0, 1) := by decide +kernel
theorem d_X7_report_30 : decode mX7_report.2.1 30 = .ok (.getfield 28, 3) := by decide +kernel
theorem d_X7_report_33 : decode mX7_report.2.1 33 = .ok (.iload_n 1, 1) := by decide +kernel
theorem d_X7_report_34 : decode mX7_report.2.1 34 = .ok (.iaload, 1) := by decide +kernel
theorem d_X7_report_35 : decode mX7_report.2.1 35 = .ok (.goto 9, 3) := by decide +kernel
theorem d_X7_report_38 : decode mX7_report.2.1 38 = .ok (.aload_n 0, 1) := by decide +kernel
theorem d_X7_report_39 : decode mX7_report.2.1 39 = .ok (.getfield 25, 3) := by decide +kernel
theorem d_X7_report_42 : decode mX7_report.2.1 42 = .ok (.iload_n 1, 1) := by decide +kernel
theorem d_X7_report_43 : decode mX7_report.2.1 43 = .ok (.iaload, 1) := by decide +kernel
theorem d_X7_report_44 : decode mX7_report.2.1 44 = .ok (.ireturn, 1) := by decide +kernel
def T_X7_report_44 (Q : Int32 → Mem → Prop) (s0 : Int32) (M : Mem) : Prop := Q s0 M
set_option maxRecDepth 100000 in
set_option maxHeartbeats 4000000 in
theorem B_X7_report_44 {g : GG} (Q : Int32 → Mem → Prop) (s0 : Int32) (M : Mem) (h : T_X7_report_44 Q s0 M) : WP g 10 mX7_report 44 [none, none, none] [.int s0] M 0 (oI Q noX) := by
  unfold T_X7_report_44 at h
  exact R_retv (pc := 44) d_X7_report_44 h
def T_X7_report (Q : Int32 → Mem → Prop) (v0 : Nat) (v1 : Int32) (v2 : Int32) (M : Mem) : Prop := (kd v0 = 7) ∧ ∀ M2 : Mem, M2 = mset M v0 0 0 → T_X7_in (fun y4 M3 => if y4 = 0 then (T_X7_fails (fun y10 M9 => Q y10 M9)  v0 1 M3) else (if v2 = 0 then ((kd (rf v0 9) = 9) ∧ (vp_in v1 (ln (rf v0 9))) ∧ T_X7_report_44 Q (M3.1 (rf v0 9) (Int32.toNatClampNeg v1)) M3) else ((kd (rf v0 10) = 9) ∧ (vp_in v1 (ln (rf v0 10))) ∧ T_X7_report_44 Q (M3.1 (rf v0 10) (Int32.toNatClampNeg v1)) M3)))  v1 0 ((M2.1 v0 11) - 1) M2
set_option maxRecDepth 100000 in
set_option maxHeartbeats 4000000 in
theorem c_X7_report {g : GG} (v0 : Nat) (v1 : Int32) (v2 : Int32) (M : Mem) (Q : Int32 → Mem → Prop) (h : T_X7_report Q v0 v1 v2 M) : CT g 10 mX7_report [.ref (g.1 + v0), .int v1, .int v2] M 0 (oI Q noX) := by
  refine CT_of (L := [some (.ref (g.1 + v0)), some (.int v1), some (.int v2)]) (by decide) rfl (Nat.le_of_ble_eq_true rfl) (ro_I rfl) rfl ?_
  unfold T_X7_report at h
  refine R_aload_n (pc := 0) d_X7_report_0 rfl rfl ?_
  refine R_iconst (pc := 1) (v := 0) d_X7_report_1 (by decide) ?_
  obtain ⟨k1, h⟩ := h
  refine R_putI (pc := 2) fld_RX7_37 rfl rfl rfl k1 rfl rfl d_X7_report_2 (N_M (fun M2 eM2 => ?_))
  have h := h M2 eM2
  refine R_iload_n (pc := 5) d_X7_report_5 rfl rfl ?_
  refine R_iconst (pc := 6) (v := 0) d_X7_report_6 (by decide) ?_
  refine R_aload_n (pc := 7) d_X7_report_7 rfl rfl ?_
  refine R_getI (pc := 8) fld_RX7_191 rfl rfl k1 d_X7_report_8 ?_
  refine R_iconst (pc := 11) (v := 1) d_X7_report_11 (by decide) ?_
  refine R_isub (pc := 12) d_X7_report_12 ?_
  refine R_callS (pc := 13) (As := [.int v1, .int 0, .int ((M2.1 v0 11) - 1)]) (rest := []) (c_X7_in (g := g) v1 0 ((M2.1 v0 11) - 1) M2 _ h) rfl rfl cal_RX7_41 sta_X7_in (by decide) (by decide) rfl rfl (Nat.le_of_ble_eq_true rfl) d_X7_report_13 (k_Z (fun y4 M3 h => ?_)) (fun _ _ h9 => False.elim h9)
  try dsimp only at h
  refine R_if_ne (pc := 16) (tgt := 25) d_X7_report_16 (by decide) (fun c => ?_) (fun c => ?_)
  · rw [if_neg c] at h
    refine R_iload_n (pc := 25) d_X7_report_25 rfl rfl ?_
    refine R_if_eq (pc := 26) (tgt := 38) d_X7_report_26 (by decide) (fun c => ?_) (fun c => ?_)
    · rw [if_pos c] at h
      refine R_aload_n (pc := 38) d_X7_report_38 rfl rfl ?_
      refine R_getR (pc := 39) fld_RX7_25 rfl rfl k1 d_X7_report_39 ?_
      refine R_iload_n (pc := 42) d_X7_report_42 rfl rfl ?_
      obtain ⟨k5, h⟩ := h
      obtain ⟨k6, h⟩ := h
      refine R_iald (pc := 43) k5 k6 d_X7_report_43 ?_
      exact WP_sub (B_X7_report_44 Q (M3.1 (rf v0 9) (Int32.toNatClampNeg v1)) M3 h) (by decide) (ls_n (ls_n (ls_n ls_0)))
    · rw [if_neg c] at h
      refine R_aload_n (pc := 29) d_X7_report_29 rfl rfl ?_
      refine R_getR (pc := 30) fld_RX7_28 rfl rfl k1 d_X7_report_30 ?_
      refine R_iload_n (pc := 33) d_X7_report_33 rfl rfl ?_
      obtain ⟨k7, h⟩ := h
      obtain ⟨k8, h⟩ := h
      refine R_iald (pc := 34) k7 k8 d_X7_report_34 ?_
      refine R_goto (pc := 35) (tgt := 44) d_X7_report_35 (by decide) ?_
      exact WP_sub (B_X7_report_44 Q (M3.1 (rf v0 10) (Int32.toNatClampNeg v1)) M3 h) (by decide) (ls_n (ls_n (ls_n ls_0)))
  · rw [if_pos c] at h
    refine R_aload_n (pc := 19) d_X7_report_19 rfl rfl ?_
    refine R_iconst (pc := 20) (v := 1) d_X7_report_20 (by decide) ?_
    refine R_callV (pc := 21) (As := [.int 1]) (rest := []) (c_X7_fails (g := g) v0 1 M3 _ h) rfl rfl cal_RX7_163 ins_X7_fails sel_X7_fails (cls_at k1 clsOK7) (by decide) (by decide) rfl rfl (Nat.le_of_ble_eq_true rfl) d_X7_report_21 (k_I (fun y10 M9 h => ?_)) (fun _ _ h9 => False.elim h9)
    try dsimp only at h
    exact R_retv (pc := 24) d_X7_report_24 h
/-! X7_inState -/
theorem d_X7_inState_0 : decode mX7_inState.2.1 0 = .ok (.iconst 0, 1) := by decide +kernel
theorem d_X7_inState_1 : decode mX7_inState.2.1 1 = .ok (.istore_n 2, 1) := by decide +kernel
theorem d_X7_inState_2 : decode mX7_inState.2.1 2 = .ok (.iconst 0, 1) := by decide +kernel
theorem d_X7_inState_3 : decode mX7_inState.2.1 3 = .ok (.istore_n 3, 1) := by decide +kernel
theorem d_X7_inState_4 : decode mX7_inState.2.1 4 = .ok (.iload_n 3, 1) := by decide +kernel
theorem d_X7_inState_5 : decode mX7_inState.2.1 5 = .ok (.aload_n 0, 1) := by decide +kernel
theorem d_X7_inState_6 : decode mX7_inState.2.1 6 = .ok (.getfield 7, 3) := by decide +kernel
theorem d_X7_inState_9 : decode mX7_inState.2.1 9 = .ok (.iconst 4, 1) := by decide +kernel
theorem d_X7_inState_10 : decode mX7_inState.2.1 10 = .ok (.iaload, 1) := by decide +kernel
theorem d_X7_inState_11 : decode mX7_inState.2.1 11 = .ok (.if_icmp .ge 27, 3) := by decide +kernel
theorem d_X7_inState_14 : decode mX7_inState.2.1 14 = .ok (.iload_n 2, 1) := by decide +kernel
theorem d_X7_inState_15 : decode mX7_inState.2.1 15 = .ok (.aload_n 0, 1) := by decide +kernel
theorem d_X7_inState_16 : decode mX7_inState.2.1 16 = .ok (.iload_n 3, 1) := by decide +kernel
theorem d_X7_inState_17 : decode mX7_inState.2.1 17 = .ok (.iconst 5, 1) := by decide +kernel
theorem d_X7_inState_18 : decode mX7_inState.2.1 18 = .ok (.invokevirtual 45, 3) := by decide +kernel
theorem d_X7_inState_21 : decode mX7_inState.2.1 21 = .ok (.iload_n 1, 1) := by decide +kernel
theorem d_X7_inState_22 : decode mX7_inState.2.1 22 = .ok (.if_icmp .ne 7, 3) := by decide +kernel
theorem d_X7_inState_25 : decode mX7_inState.2.1 25 = .ok (.iconst 1, 1) := by decide +kernel
theorem d_X7_inState_26 : decode mX7_inState.2.1 26 = .ok (.goto 4, 3) := by decide +kernel
theorem d_X7_inState_29 : decode mX7_inState.2.1 29 = .ok (.iconst 0, 1) := by decide +kernel
theorem d_X7_inState_30 : decode mX7_inState.2.1 30 = .ok (.iadd, 1) := by decide +kernel
theorem d_X7_inState_31 : decode mX7_inState.2.1 31 = .ok (.istore_n 2, 1) := by decide +kernel
theorem d_X7_inState_32 : decode mX7_inState.2.1 32 = .ok (.iinc 3 1, 3) := by decide +kernel
theorem d_X7_inState_35 : decode mX7_inState.2.1 35 = .ok (.goto (-31), 3) := by decide +kernel
theorem d_X7_inState_38 : decode mX7_inState.2.1 38 = .ok (.iload_n 2, 1) := by decide +kernel
theorem d_X7_inState_39 : decode mX7_inState.2.1 39 = .ok (.ireturn, 1) := by decide +kernel
def T_X7_inState_30 (κ4 : Nat → Int32 → Int32 → Int32 → Mem → Prop) (Q : Int32 → Mem → Prop) (v0 : Nat) (v1 : Int32) (v3 : Int32) (s0 : Int32) (s1 : Int32) (M : Mem) : Prop := ∀ x1 : Int32, x1 = s1 + s0 → ∀ x2 : Int32, x2 = v3 + 1 → κ4 v0 v1 x1 x2 M
set_option maxRecDepth 100000 in
set_option maxHeartbeats 4000000 in
theorem B_X7_inState_30 {g : GG} (Q : Int32 → Mem → Prop) (κ4 : Nat → Int32 → Int32 → Int32 → Mem → Prop) (hκ4 : ∀ (v0 : Nat) (v1 : Int32) (v2 : Int32) (v3 : Int32) (M : Mem), κ4 v0 v1 v2 v3 M → WP g 10 mX7_inState 4 [some (.ref (g.1 + v0)), some (.int v1), some (.int v2), some (.int v3)] [] M 0 (oI Q noX)) (v0 : Nat) (v1 : Int32) (v3 : Int32) (s0 : Int32) (s1 : Int32) (M : Mem) (h : T_X7_inState_30 κ4 Q v0 v1 v3 s0 s1 M) : WP g 10 mX7_inState 30 [some (.ref (g.1 + v0)), some (.int v1), none, some (.int v3)] [.int s0, .int s1] M 0 (oI Q noX) := by
  unfold T_X7_inState_30 at h
  refine R_iadd (pc := 30) d_X7_inState_30 ?_
  refine N_i (fun x1 ex1 => ?_)
  have h := h x1 ex1
  refine R_istore_n (pc := 31) (L' := [some (.ref (g.1 + v0)), some (.int v1), some (.int x1), some (.int v3)]) d_X7_inState_31 rfl (by decide) rfl ?_
  obtain ⟨x2, ex2⟩ : ∃ z : Int32, z = v3 + 1 := ⟨_, rfl⟩
  have h := h x2 ex2
  refine R_iinc (pc := 32) (v := x2) (L' := [some (.ref (g.1 + v0)), some (.int v1), some (.int x1), some (.int x2)]) d_X7_inState_32 rfl (by rw [ex2]; rfl) (by decide) rfl ?_
  refine R_goto (pc := 35) (tgt := 4) d_X7_inState_35 (by decide) ?_
  exact WP_sub (hκ4 v0 v1 x1 x2 M h) (by decide) (ls_s (ls_s (ls_s (ls_s ls_0))))
def T_X7_inState_4 (Q : Int32 → Mem → Prop) : Nat → Nat → Int32 → Int32 → Int32 → Mem → Prop
  | 0, _, _, _, _, _ => False
  | n + 1, v0, v1, v2, v3, M => (kd v0 = 7) ∧ (kd (rf v0 1) = 9) ∧ (vp_in 4 (ln (rf v0 1))) ∧ if (M.1 (rf v0 1) (Int32.toNatClampNeg 4)) ≤ v3 then (Q v2 M) else (T_X7_of (fun y5 M4 => if y5 = v1 then (T_X7_inState_30 (T_X7_inState_4 Q n) Q v0 v1 v3 1 v2 M4) else (T_X7_inState_30 (T_X7_inState_4 Q n) Q v0 v1 v3 0 v2 M4))  v0 v3 5 M)
set_option maxRecDepth 100000 in
set_option maxHeartbeats 4000000 in
theorem B_X7_inState_4 {g : GG} (Q : Int32 → Mem → Prop) : ∀ (n : Nat) (v0 : Nat) (v1 : Int32) (v2 : Int32) (v3 : Int32) (M : Mem), T_X7_inState_4 Q n v0 v1 v2 v3 M → WP g 10 mX7_inState 4 [some (.ref (g.1 + v0)), some (.int v1), some (.int v2), some (.int v3)] [] M 0 (oI Q noX) := by
  intro n
  induction n with
  | zero => intro v0 v1 v2 v3 M h; exact h.elim
  | succ n hκ4 =>
    intro v0 v1 v2 v3 M h
    unfold T_X7_inState_4 at h
    refine R_iload_n (pc := 4) d_X7_inState_4 rfl rfl ?_
    refine R_aload_n (pc := 5) d_X7_inState_5 rfl rfl ?_
    obtain ⟨k1, h⟩ := h
    refine R_getR (pc := 6) fld_RX7_7 rfl rfl k1 d_X7_inState_6 ?_
    refine R_iconst (pc := 9) (v := 4) d_X7_inState_9 (by decide) ?_
    obtain ⟨k2, h⟩ := h
    obtain ⟨k3, h⟩ := h
    refine R_iald (pc := 10) k2 k3 d_X7_inState_10 ?_
    refine R_icmp_ge (pc := 11) (tgt := 38) d_X7_inState_11 (by decide) (fun c => ?_) (fun c => ?_)
    · rw [if_pos c] at h
      refine R_iload_n (pc := 38) d_X7_inState_38 rfl rfl ?_
      exact R_retv (pc := 39) d_X7_inState_39 h
    · rw [if_neg c] at h
      refine R_iload_n (pc := 14) d_X7_inState_14 rfl rfl ?_
      refine R_aload_n (pc := 15) d_X7_inState_15 rfl rfl ?_
      refine R_iload_n (pc := 16) d_X7_inState_16 rfl rfl ?_
      refine R_iconst (pc := 17) (v := 5) d_X7_inState_17 (by decide) ?_
      refine R_callV (pc := 18) (As := [.int v3, .int 5]) (rest := [.int v2]) (c_X7_of (g := g) v0 v3 5 M _ h) rfl rfl cal_RX7_45 ins_X7_of sel_X7_of (cls_at k1 clsOK7) (by decide) (by decide) rfl rfl (Nat.le_of_ble_eq_true rfl) d_X7_inState_18 (k_I (fun y5 M4 h => ?_)) (fun _ _ h9 => False.elim h9)
      try dsimp only at h
      refine R_iload_n (pc := 21) d_X7_inState_21 rfl rfl ?_
      refine R_icmp_ne (pc := 22) (tgt := 29) d_X7_inState_22 (by decide) (fun c => ?_) (fun c => ?_)
      · rw [if_neg c] at h
        refine R_iconst (pc := 29) (v := 0) d_X7_inState_29 (by decide) ?_
        exact WP_sub (B_X7_inState_30 Q (T_X7_inState_4 Q n) hκ4 v0 v1 v3 0 v2 M4 h) (by decide) (ls_s (ls_s (ls_n (ls_s ls_0))))
      · rw [if_pos c] at h
        refine R_iconst (pc := 25) (v := 1) d_X7_inState_25 (by decide) ?_
        refine R_goto (pc := 26) (tgt := 30) d_X7_inState_26 (by decide) ?_
        exact WP_sub (B_X7_inState_30 Q (T_X7_inState_4 Q n) hκ4 v0 v1 v3 1 v2 M4 h) (by decide) (ls_s (ls_s (ls_n (ls_s ls_0))))
def T_X7_inState (Q : Int32 → Mem → Prop) (v0 : Nat) (v1 : Int32) (M : Mem) : Prop := (∃ N : Nat, T_X7_inState_4 Q N v0 v1 0 0 M)
set_option maxRecDepth 100000 in
set_option maxHeartbeats 4000000 in
theorem c_X7_inState {g : GG} (v0 : Nat) (v1 : Int32) (M : Mem) (Q : Int32 → Mem → Prop) (h : T_X7_inState Q v0 v1 M) : CT g 10 mX7_inState [.ref (g.1 + v0), .int v1] M 0 (oI Q noX) := by
  refine CT_of (L := [some (.ref (g.1 + v0)), some (.int v1), none, none]) (by decide) rfl (Nat.le_of_ble_eq_true rfl) (ro_I rfl) rfl ?_
  unfold T_X7_inState at h
  refine R_iconst (pc := 0) (v := 0) d_X7_inState_0 (by decide) ?_
  refine R_istore_n (pc := 1) (L' := [some (.ref (g.1 + v0)), some (.int v1), some (.int 0), none]) d_X7_inState_1 rfl (by decide) rfl ?_
  refine R_iconst (pc := 2) (v := 0) d_X7_inState_2 (by decide) ?_
  refine R_istore_n (pc := 3) (L' := [some (.ref (g.1 + v0)), some (.int v1), some (.int 0), some (.int 0)]) d_X7_inState_3 rfl (by decide) rfl ?_
  obtain ⟨N, h⟩ := h
  exact WP_sub (B_X7_inState_4 Q N v0 v1 0 0 M h) (by decide) (ls_s (ls_s (ls_s (ls_s ls_0))))
/-! X7_together -/
theorem d_X7_together_0 : decode mX7_together.2.1 0 = .ok (.iconst 0, 1) := by decide +kernel
theorem d_X7_together_1 : decode mX7_together.2.1 1 = .ok (.istore_n 2, 1) := by decide +kernel
theorem d_X7_together_2 : decode mX7_together.2.1 2 = .ok (.iconst 0, 1) := by decide +kernel
theorem d_X7_together_3 : decode mX7_together.2.1 3 = .ok (.istore_n 3, 1) := by decide +kernel
theorem d_X7_together_4 : decode mX7_together.2.1 4 = .ok (.iload_n 3, 1) := by decide +kernel
theorem d_X7_together_5 : decode mX7_together.2.1 5 = .ok (.aload_n 0, 1) := by decide +kernel
theorem d_X7_together_6 : decode mX7_together.2.1 6 = .ok (.getfield 7, 3) := by decide +kernel
theorem d_X7_together_9 : decode mX7_together.2.1 9 = .ok (.iconst 4, 1) := by decide +kernel
theorem d_X7_together_10 : decode mX7_together.2.1 10 = .ok (.iaload, 1) := by decide +kernel
theorem d_X7_together_11 : decode mX7_together.2.1 11 = .ok (.if_icmp .ge 64, 3) := by decide +kernel
theorem d_X7_together_14 : decode mX7_together.2.1 14 = .ok (.iload_n 1, 1) := by decide +kernel
theorem d_X7_together_15 : decode mX7_together.2.1 15 = .ok (.ifCond .eq 11, 3) := by decide +kernel
theorem d_X7_together_18 : decode mX7_together.2.1 18 = .ok (.aload_n 0, 1) := by decide +kernel
theorem d_X7_together_19 : decode mX7_together.2.1 19 = .ok (.iload_n 3, 1) := by decide +kernel
theorem d_X7_together_20 : decode mX7_together.2.1 20 = .ok (.invokevirtual 75, 3) := by decide +kernel
theorem d_X7_together_23 : decode mX7_together.2.1 23 = .ok (.goto 27, 3) := by decide +kernel
theorem d_X7_together_26 : decode mX7_together.2.1 26 = .ok (.aload_n 0, 1) := by decide +kernel
theorem d_X7_together_27 : decode mX7_together.2.1 27 = .ok (.aload_n 0, 1) := by decide +kernel
theorem d_X7_together_28 : decode mX7_together.2.1 28 = .ok (.iload_n 3, 1) := by decide +kernel
theorem d_X7_together_29 : decode mX7_together.2.1 29 = .ok (.iconst 4, 1) := by decide +kernel
theorem d_X7_together_30 : decode mX7_together.2.1 30 = .ok (.invokevirtual 45, 3) := by decide +kernel
theorem d_X7_together_33 : decode mX7_together.2.1 33 = .ok (.aload_n 0, 1) := by decide +kernel
theorem d_X7_together_34 : decode mX7_together.2.1 34 = .ok (.getfield 7, 3) := by decide +kernel
theorem d_X7_together_37 : decode mX7_together.2.1 37 = .ok (.bipush 12, 2) := by decide +kernel
theorem d_X7_together_39 : decode mX7_together.2.1 39 = .ok (.aload_n 0, 1) := by decide +kernel
theorem d_X7_together_40 : decode mX7_together.2.1 40 = .ok (.iload_n 3, 1) := by decide +kernel
theorem d_X7_together_41 : decode mX7_together.2.1 41 = .ok (.iconst 0, 1) := by decide +kernel
theorem d_X7_together_42 : decode mX7_together.2.1 42 = .ok (.invokevirtual 45, 3) := by decide +kernel
theorem d_X7_together_45 : decode mX7_together.2.1 45 = .ok (.iadd, 1) := by decide +kernel
theorem d_X7_together_46 : decode mX7_together.2.1 46 = .ok (.iaload, 1) := by decide +kernel
theorem d_X7_together_47 : decode mX7_together.2.1 47 = .ok (.invokevirtual 63, 3) := by decide +kernel
theorem d_X7_together_50 : decode mX7_together.2.1 50 = .ok (.istore 4, 2) := by decide +kernel
theorem d_X7_together_52 : decode mX7_together.2.1 52 = .ok (.iload_n 2, 1) := by decide +kernel
theorem d_X7_together_53 : decode mX7_together.2.1 53 = .ok (.aload_n 0, 1) := by decide +kernel
theorem d_X7_together_54 : decode mX7_together.2.1 54 = .ok (.iload_n 3, 1) := by decide +kernel
theorem d_X7_together_55 : decode mX7_together.2.1 55 = .ok (.invokevirtual 49, 3) := by decide +kernel
theorem d_X7_together_58 : decode mX7_together.2.1 58 = .ok (.ifCond .eq 8, 3) := by decide +kernel
theorem d_X7_together_61 : decode mX7_together.2.1 61 = .ok (.iload 4, 2) := by decide +kernel
theorem d_X7_together_63 : decode mX7_together.2.1 63 = .ok (.goto 4, 3) := by decide +kernel
theorem d_X7_together_66 : decode mX7_together.2.1 66 = .ok (.iconst 0, 1) := by decide +kernel
theorem d_X7_together_67 : decode mX7_together.2.1 67 = .ok (.iadd, 1) := by decide +kernel
theorem d_X7_together_68 : decode mX7_together.2.1 68 = .ok (.istore_n 2, 1) := by decide +kernel
theorem d_X7_together_69 : decode mX7_together.2.1 69 = .ok (.iinc 3 1, 3) := by decide +kernel
theorem d_X7_together_72 : decode mX7_together.2.1 72 = .ok (.goto (-68), 3) := by decide +kernel
theorem d_X7_together_75 : decode mX7_together.2.1 75 = .ok (.iload_n 2, 1) := by decide +kernel
theorem d_X7_together_76 : decode mX7_together.2.1 76 = .ok (.ireturn, 1) := by decide +kernel
def T_X7_together_67 (κ4 : Nat → Int32 → Int32 → Int32 → Mem → Prop) (Q : Int32 → Mem → Prop) (v0 : Nat) (v1 : Int32) (v3 : Int32) (s0 : Int32) (s1 : Int32) (M : Mem) : Prop := ∀ x1 : Int32, x1 = s1 + s0 → ∀ x2 : Int32, x2 = v3 + 1 → κ4 v0 v1 x1 x2 M
set_option maxRecDepth 100000 in
set_option maxHeartbeats 4000000 in
theorem B_X7_together_67 {g : GG} (Q : Int32 → Mem → Prop) (κ4 : Nat → Int32 → Int32 → Int32 → Mem → Prop) (hκ4 : ∀ (v0 : Nat) (v1 : Int32) (v2 : Int32) (v3 : Int32) (M : Mem), κ4 v0 v1 v2 v3 M → WP g 11 mX7_together 4 [some (.ref (g.1 + v0)), some (.int v1), some (.int v2), some (.int v3), none] [] M 0 (oI Q noX)) (v0 : Nat) (v1 : Int32) (v3 : Int32) (s0 : Int32) (s1 : Int32) (M : Mem) (h : T_X7_together_67 κ4 Q v0 v1 v3 s0 s1 M) : WP g 11 mX7_together 67 [some (.ref (g.1 + v0)), some (.int v1), none, some (.int v3), none] [.int s0, .int s1] M 0 (oI Q noX) := by
  unfold T_X7_together_67 at h
  refine R_iadd (pc := 67) d_X7_together_67 ?_
  refine N_i (fun x1 ex1 => ?_)
  have h := h x1 ex1
  refine R_istore_n (pc := 68) (L' := [some (.ref (g.1 + v0)), some (.int v1), some (.int x1), some (.int v3), none]) d_X7_together_68 rfl (by decide) rfl ?_
  obtain ⟨x2, ex2⟩ : ∃ z : Int32, z = v3 + 1 := ⟨_, rfl⟩
  have h := h x2 ex2
  refine R_iinc (pc := 69) (v := x2) (L' := [some (.ref (g.1 + v0)), some (.int v1), some (.int x1), some (.int x2), none]) d_X7_together_69 rfl (by rw [ex2]; rfl) (by decide) rfl ?_
  refine R_goto (pc := 72) (tgt := 4) d_X7_together_72 (by decide) ?_
  exact WP_sub (hκ4 v0 v1 x1 x2 M h) (by decide) (ls_s (ls_s (ls_s (ls_s (ls_n ls_0)))))
def T_X7_together_50 (κ4 : Nat → Int32 → Int32 → Int32 → Mem → Prop) (Q : Int32 → Mem → Prop) (v0 : Nat) (v1 : Int32) (v2 : Int32) (v3 : Int32) (s0 : Int32) (M : Mem) : Prop := (kd v0 = 7) ∧ T_X7_isBooked (fun y3 M2 => if y3 = 0 then (T_X7_together_67 κ4 Q v0 v1 v3 0 v2 M2) else (T_X7_together_67 κ4 Q v0 v1 v3 s0 v2 M2))  v0 v3 M
set_option maxRecDepth 100000 in
set_option maxHeartbeats 4000000 in
theorem B_X7_together_50 {g : GG} (Q : Int32 → Mem → Prop) (κ4 : Nat → Int32 → Int32 → Int32 → Mem → Prop) (hκ4 : ∀ (v0 : Nat) (v1 : Int32) (v2 : Int32) (v3 : Int32) (M : Mem), κ4 v0 v1 v2 v3 M → WP g 11 mX7_together 4 [some (.ref (g.1 + v0)), some (.int v1), some (.int v2), some (.int v3), none] [] M 0 (oI Q noX)) (v0 : Nat) (v1 : Int32) (v2 : Int32) (v3 : Int32) (s0 : Int32) (M : Mem) (h : T_X7_together_50 κ4 Q v0 v1 v2 v3 s0 M) : WP g 11 mX7_together 50 [some (.ref (g.1 + v0)), some (.int v1), some (.int v2), some (.int v3), none] [.int s0] M 0 (oI Q noX) := by
  unfold T_X7_together_50 at h
  refine R_istore (pc := 50) (L' := [some (.ref (g.1 + v0)), some (.int v1), some (.int v2), some (.int v3), some (.int s0)]) d_X7_together_50 (by decide) rfl ?_
  refine R_iload_n (pc := 52) d_X7_together_52 rfl rfl ?_
  refine R_aload_n (pc := 53) d_X7_together_53 rfl rfl ?_
  refine R_iload_n (pc := 54) d_X7_together_54 rfl rfl ?_
  obtain ⟨k1, h⟩ := h
  refine R_callV (pc := 55) (As := [.int v3]) (rest := [.int v2]) (c_X7_isBooked (g := g) v0 v3 M _ h) rfl rfl cal_RX7_49 ins_X7_isBooked sel_X7_isBooked (cls_at k1 clsOK7) (by decide) (by decide) rfl rfl (Nat.le_of_ble_eq_true rfl) d_X7_together_55 (k_Z (fun y3 M2 h => ?_)) (fun _ _ h9 => False.elim h9)
  try dsimp only at h
  refine R_if_eq (pc := 58) (tgt := 66) d_X7_together_58 (by decide) (fun c => ?_) (fun c => ?_)
  · rw [if_pos c] at h
    refine R_iconst (pc := 66) (v := 0) d_X7_together_66 (by decide) ?_
    exact WP_sub (B_X7_together_67 Q κ4 hκ4 v0 v1 v3 0 v2 M2 h) (by decide) (ls_s (ls_s (ls_n (ls_s (ls_n ls_0)))))
  · rw [if_neg c] at h
    refine R_iload (pc := 61) d_X7_together_61 rfl ?_
    refine R_goto (pc := 63) (tgt := 67) d_X7_together_63 (by decide) ?_
    exact WP_sub (B_X7_together_67 Q κ4 hκ4 v0 v1 v3 s0 v2 M2 h) (by decide) (ls_s (ls_s (ls_n (ls_s (ls_n ls_0)))))
def T_X7_together_4 (Q : Int32 → Mem → Prop) : Nat → Nat → Int32 → Int32 → Int32 → Mem → Prop
  | 0, _, _, _, _, _ => False
  | n + 1, v0, v1, v2, v3, M => (kd v0 = 7) ∧ (kd (rf v0 1) = 9) ∧ (vp_in 4 (ln (rf v0 1))) ∧ if (M.1 (rf v0 1) (Int32.toNatClampNeg 4)) ≤ v3 then (Q v2 M) else (if v1 = 0 then (T_X7_of (fun y5 M4 => T_X7_of (fun y7 M6 => (vp_in (12 + y7) (ln (rf v0 1))) ∧ T_X7_far (fun y10 M9 => T_X7_together_50 (T_X7_together_4 Q n) Q v0 v1 v2 v3 y10 M9)  v0 y5 (M6.1 (rf v0 1) (Int32.toNatClampNeg (12 + y7))) M6)  v0 v3 0 M4)  v0 v3 4 M) else (T_X7_searchesOf (fun y12 M11 => T_X7_together_50 (T_X7_together_4 Q n) Q v0 v1 v2 v3 y12 M11)  v0 v3 M))
set_option maxRecDepth 100000 in
set_option maxHeartbeats 4000000 in
theorem B_X7_together_4 {g : GG} (Q : Int32 → Mem → Prop) : ∀ (n : Nat) (v0 : Nat) (v1 : Int32) (v2 : Int32) (v3 : Int32) (M : Mem), T_X7_together_4 Q n v0 v1 v2 v3 M → WP g 11 mX7_together 4 [some (.ref (g.1 + v0)), some (.int v1), some (.int v2), some (.int v3), none] [] M 0 (oI Q noX) := by
  intro n
  induction n with
  | zero => intro v0 v1 v2 v3 M h; exact h.elim
  | succ n hκ4 =>
    intro v0 v1 v2 v3 M h
    unfold T_X7_together_4 at h
    refine R_iload_n (pc := 4) d_X7_together_4 rfl rfl ?_
    refine R_aload_n (pc := 5) d_X7_together_5 rfl rfl ?_
    obtain ⟨k1, h⟩ := h
    refine R_getR (pc := 6) fld_RX7_7 rfl rfl k1 d_X7_together_6 ?_
    refine R_iconst (pc := 9) (v := 4) d_X7_together_9 (by decide) ?_
    obtain ⟨k2, h⟩ := h
    obtain ⟨k3, h⟩ := h
    refine R_iald (pc := 10) k2 k3 d_X7_together_10 ?_
    refine R_icmp_ge (pc := 11) (tgt := 75) d_X7_together_11 (by decide) (fun c => ?_) (fun c => ?_)
    · rw [if_pos c] at h
      refine R_iload_n (pc := 75) d_X7_together_75 rfl rfl ?_
      exact R_retv (pc := 76) d_X7_together_76 h
    · rw [if_neg c] at h
      refine R_iload_n (pc := 14) d_X7_together_14 rfl rfl ?_
      refine R_if_eq (pc := 15) (tgt := 26) d_X7_together_15 (by decide) (fun c => ?_) (fun c => ?_)
      · rw [if_pos c] at h
        refine R_aload_n (pc := 26) d_X7_together_26 rfl rfl ?_
        refine R_aload_n (pc := 27) d_X7_together_27 rfl rfl ?_
        refine R_iload_n (pc := 28) d_X7_together_28 rfl rfl ?_
        refine R_iconst (pc := 29) (v := 4) d_X7_together_29 (by decide) ?_
        refine R_callV (pc := 30) (As := [.int v3, .int 4]) (rest := [.ref (g.1 + v0)]) (c_X7_of (g := g) v0 v3 4 M _ h) rfl rfl cal_RX7_45 ins_X7_of sel_X7_of (cls_at k1 clsOK7) (by decide) (by decide) rfl rfl (Nat.le_of_ble_eq_true rfl) d_X7_together_30 (k_I (fun y5 M4 h => ?_)) (fun _ _ h9 => False.elim h9)
        try dsimp only at h
        refine R_aload_n (pc := 33) d_X7_together_33 rfl rfl ?_
        refine R_getR (pc := 34) fld_RX7_7 rfl rfl k1 d_X7_together_34 ?_
        refine R_bipush (pc := 37) (v := 12) d_X7_together_37 (by decide) ?_
        refine R_aload_n (pc := 39) d_X7_together_39 rfl rfl ?_
        refine R_iload_n (pc := 40) d_X7_together_40 rfl rfl ?_
        refine R_iconst (pc := 41) (v := 0) d_X7_together_41 (by decide) ?_
        refine R_callV (pc := 42) (As := [.int v3, .int 0]) (rest := [.int 12, .ref (g.1 + (rf v0 1)), .int y5, .ref (g.1 + v0)]) (c_X7_of (g := g) v0 v3 0 M4 _ h) rfl rfl cal_RX7_45 ins_X7_of sel_X7_of (cls_at k1 clsOK7) (by decide) (by decide) rfl rfl (Nat.le_of_ble_eq_true rfl) d_X7_together_42 (k_I (fun y7 M6 h => ?_)) (fun _ _ h9 => False.elim h9)
        try dsimp only at h
        refine R_iadd (pc := 45) d_X7_together_45 ?_
        obtain ⟨k8, h⟩ := h
        refine R_iald (pc := 46) k2 k8 d_X7_together_46 ?_
        refine R_callV (pc := 47) (As := [.int y5, .int (M6.1 (rf v0 1) (Int32.toNatClampNeg (12 + y7)))]) (rest := []) (c_X7_far (g := g) v0 y5 (M6.1 (rf v0 1) (Int32.toNatClampNeg (12 + y7))) M6 _ h) rfl rfl cal_RX7_63 ins_X7_far sel_X7_far (cls_at k1 clsOK7) (by decide) (by decide) rfl rfl (Nat.le_of_ble_eq_true rfl) d_X7_together_47 (k_I (fun y10 M9 h => ?_)) (fun _ _ h9 => False.elim h9)
        try dsimp only at h
        exact WP_sub (B_X7_together_50 Q (T_X7_together_4 Q n) hκ4 v0 v1 v2 v3 y10 M9 h) (by decide) (ls_s (ls_s (ls_s (ls_s (ls_n ls_0)))))
      · rw [if_neg c] at h
        refine R_aload_n (pc := 18) d_X7_together_18 rfl rfl ?_
        refine R_iload_n (pc := 19) d_X7_together_19 rfl rfl ?_
        refine R_callV (pc := 20) (As := [.int v3]) (rest := []) (c_X7_searchesOf (g := g) v0 v3 M _ h) rfl rfl cal_RX7_75 ins_X7_searchesOf sel_X7_searchesOf (cls_at k1 clsOK7) (by decide) (by decide) rfl rfl (Nat.le_of_ble_eq_true rfl) d_X7_together_20 (k_I (fun y12 M11 h => ?_)) (fun _ _ h9 => False.elim h9)
        try dsimp only at h
        refine R_goto (pc := 23) (tgt := 50) d_X7_together_23 (by decide) ?_
        exact WP_sub (B_X7_together_50 Q (T_X7_together_4 Q n) hκ4 v0 v1 v2 v3 y12 M11 h) (by decide) (ls_s (ls_s (ls_s (ls_s (ls_n ls_0)))))
def T_X7_together (Q : Int32 → Mem → Prop) (v0 : Nat) (v1 : Int32) (M : Mem) : Prop := (∃ N : Nat, T_X7_together_4 Q N v0 v1 0 0 M)
set_option maxRecDepth 100000 in
set_option maxHeartbeats 4000000 in
theorem c_X7_together {g : GG} (v0 : Nat) (v1 : Int32) (M : Mem) (Q : Int32 → Mem → Prop) (h : T_X7_together Q v0 v1 M) : CT g 11 mX7_together [.ref (g.1 + v0), .int v1] M 0 (oI Q noX) := by
  refine CT_of (L := [some (.ref (g.1 + v0)), some (.int v1), none, none, none]) (by decide) rfl (Nat.le_of_ble_eq_true rfl) (ro_I rfl) rfl ?_
  unfold T_X7_together at h
  refine R_iconst (pc := 0) (v := 0) d_X7_together_0 (by decide) ?_
  refine R_istore_n (pc := 1) (L' := [some (.ref (g.1 + v0)), some (.int v1), some (.int 0), none, none]) d_X7_together_1 rfl (by decide) rfl ?_
  refine R_iconst (pc := 2) (v := 0) d_X7_together_2 (by decide) ?_
  refine R_istore_n (pc := 3) (L' := [some (.ref (g.1 + v0)), some (.int v1), some (.int 0), some (.int 0), none]) d_X7_together_3 rfl (by decide) rfl ?_
  obtain ⟨N, h⟩ := h
  exact WP_sub (B_X7_together_4 Q N v0 v1 0 0 M h) (by decide) (ls_s (ls_s (ls_s (ls_s (ls_n ls_0)))))
/-! X7_account -/
theorem d_X7_account_0 : decode mX7_account.2.1 0 = .ok (.aload_n 0, 1) := by decide +kernel
theorem d_X7_account_1 : decode mX7_account.2.1 1 = .ok (.iconst 0, 1) := by decide +kernel
theorem d_X7_account_2 : decode mX7_account.2.1 2 = .ok (.putfield 37, 3) := by decide +kernel
theorem d_X7_account_5 : decode mX7_account.2.1 5 = .ok (.iload_n 1, 1) := by decide +kernel
theorem d_X7_account_6 : decode mX7_account.2.1 6 = .ok (.tableswitch 154 0 12 #[66, 73, 80, 86, 92, 98, 105, 112, 119, 126, 134, 142, 148], 66) := by decide +kernel
theorem d_X7_account_72 : decode mX7_account.2.1 72 = .ok (.aload_n 0, 1) := by decide +kernel
theorem d_X7_account_73 : decode mX7_account.2.1 73 = .ok (.getfield 7, 3) := by decide +kernel
theorem d_X7_account_76 : decode mX7_account.2.1 76 = .ok (.iconst 0, 1) := by decide +kernel
theorem d_X7_account_77 : decode mX7_account.2.1 77 = .ok (.iaload, 1) := by decide +kernel
theorem d_X7_account_78 : decode mX7_account.2.1 78 = .ok (.ireturn, 1) := by decide +kernel
theorem d_X7_account_79 : decode mX7_account.2.1 79 = .ok (.aload_n 0, 1) := by decide +kernel
theorem d_X7_account_80 : decode mX7_account.2.1 80 = .ok (.getfield 7, 3) := by decide +kernel
theorem d_X7_account_83 : decode mX7_account.2.1 83 = .ok (.iconst 4, 1) := by decide +kernel
theorem d_X7_account_84 : decode mX7_account.2.1 84 = .ok (.iaload, 1) := by decide +kernel
theorem d_X7_account_85 : decode mX7_account.2.1 85 = .ok (.ireturn, 1) := by decide +kernel
theorem d_X7_account_86 : decode mX7_account.2.1 86 = .ok (.aload_n 0, 1) := by decide +kernel
theorem d_X7_account_87 : decode mX7_account.2.1 87 = .ok (.iconst 0, 1) := by decide +kernel
theorem d_X7_account_88 : decode mX7_account.2.1 88 = .ok (.invokevirtual 226, 3) := by decide +kernel
theorem d_X7_account_91 : decode mX7_account.2.1 91 = .ok (.ireturn, 1) := by decide +kernel
theorem d_X7_account_92 : decode mX7_account.2.1 92 = .ok (.aload_n 0, 1) := by decide +kernel
theorem d_X7_account_93 : decode mX7_account.2.1 93 = .ok (.iconst 1, 1) := by decide +kernel
theorem d_X7_account_94 : decode mX7_account.2.1 94 = .ok (.invokevirtual 226, 3) := by decide +kernel
theorem d_X7_account_97 : decode mX7_account.2.1 97 = .ok (.ireturn, 1) := by decide +kernel
theorem d_X7_account_98 : decode mX7_account.2.1 98 = .ok (.aload_n 0, 1) := by decide +kernel
theorem d_X7_account_99 : decode mX7_account.2.1 99 = .ok (.iconst 2, 1) := by decide +kernel
theorem d_X7_account_100 : decode mX7_account.2.1 100 = .ok (.invokevirtual 226, 3) := by decide +kernel
theorem d_X7_account_103 : decode mX7_account.2.1 103 = .ok (.ireturn, 1) := by decide +kernel
theorem d_X7_account_104 : decode mX7_account.2.1 104 = .ok (.aload_n 0, 1) := by decide +kernel
theorem d_X7_account_105 : decode mX7_account.2.1 105 = .ok (.getfield 7, 3) := by decide +kernel
theorem d_X7_account_108 : decode mX7_account.2.1 108 = .ok (.iconst 1, 1) := by decide +kernel
theorem d_X7_account_109 : decode mX7_account.2.1 109 = .ok (.iaload, 1) := by decide +kernel
theorem d_X7_account_110 : decode mX7_account.2.1 110 = .ok (.ireturn, 1) := by decide +kernel
theorem d_X7_account_111 : decode mX7_account.2.1 111 = .ok (.aload_n 0, 1) := by decide +kernel
theorem d_X7_account_112 : decode mX7_account.2.1 112 = .ok (.getfield 7, 3) := by decide +kernel
theorem d_X7_account_115 : decode mX7_account.2.1 115 = .ok (.iconst 2, 1) := by decide +kernel
theorem d_X7_account_116 : decode mX7_account.2.1 116 = .ok (.iaload, 1) := by decide +kernel
theorem d_X7_account_117 : decode mX7_account.2.1 117 = .ok (.ireturn, 1) := by decide +kernel
theorem d_X7_account_118 : decode mX7_account.2.1 118 = .ok (.aload_n 0, 1) := by decide +kernel
theorem d_X7_account_119 : decode mX7_account.2.1 119 = .ok (.getfield 7, 3) := by decide +kernel
theorem d_X7_account_122 : decode mX7_account.2.1 122 = .ok (.iconst 3, 1) := by decide +kernel
theorem d_X7_account_123 : decode mX7_account.2.1 123 = .ok (.iaload, 1) := by decide +kernel
theorem d_X7_account_124 : decode mX7_account.2.1 124 = .ok (.ireturn, 1) := by decide +kernel
theorem d_X7_account_125 : decode mX7_account.2.1 125 = .ok (.aload_n 0, 1) := by decide +kernel
theorem d_X7_account_126 : decode mX7_account.2.1 126 = .ok (.getfield 7, 3) := by decide +kernel
theorem d_X7_account_129 : decode mX7_account.2.1 129 = .ok (.iconst 5, 1) := by decide +kernel
theorem d_X7_account_130 : decode mX7_account.2.1 130 = .ok (.iaload, 1) := by decide +kernel
theorem d_X7_account_131 : decode mX7_account.2.1 131 = .ok (.ireturn, 1) := by decide +kernel
theorem d_X7_account_132 : decode mX7_account.2.1 132 = .ok (.aload_n 0, 1) := by decide +kernel
theorem d_X7_account_133 : decode mX7_account.2.1 133 = .ok (.getfield 7, 3) := by decide +kernel
theorem d_X7_account_136 : decode mX7_account.2.1 136 = .ok (.bipush 6, 2) := by decide +kernel
theorem d_X7_account_138 : decode mX7_account.2.1 138 = .ok (.iaload, 1) := by decide +kernel
theorem d_X7_account_139 : decode mX7_account.2.1 139 = .ok (.ireturn, 1) := by decide +kernel
theorem d_X7_account_140 : decode mX7_account.2.1 140 = .ok (.aload_n 0, 1) := by decide +kernel
theorem d_X7_account_141 : decode mX7_account.2.1 141 = .ok (.getfield 7, 3) := by decide +kernel
theorem d_X7_account_144 : decode mX7_account.2.1 144 = .ok (.bipush 7, 2) := by decide +kernel
theorem d_X7_account_146 : decode mX7_account.2.1 146 = .ok (.iaload, 1) := by decide +kernel
theorem d_X7_account_147 : decode mX7_account.2.1 147 = .ok (.ireturn, 1) := by decide +kernel
theorem d_X7_account_148 : decode mX7_account.2.1 148 = .ok (.aload_n 0, 1) := by decide +kernel
theorem d_X7_account_149 : decode mX7_account.2.1 149 = .ok (.iconst 1, 1) := by decide +kernel
theorem d_X7_account_150 : decode mX7_account.2.1 150 = .ok (.invokevirtual 229, 3) := by decide +kernel
theorem d_X7_account_153 : decode mX7_account.2.1 153 = .ok (.ireturn, 1) := by decide +kernel
theorem d_X7_account_154 : decode mX7_account.2.1 154 = .ok (.aload_n 0, 1) := by decide +kernel
theorem d_X7_account_155 : decode mX7_account.2.1 155 = .ok (.iconst 0, 1) := by decide +kernel
theorem d_X7_account_156 : decode mX7_account.2.1 156 = .ok (.invokevirtual 229, 3) := by decide +kernel
theorem d_X7_account_159 : decode mX7_account.2.1 159 = .ok (.ireturn, 1) := by decide +kernel
theorem d_X7_account_160 : decode mX7_account.2.1 160 = .ok (.aload_n 0, 1) := by decide +kernel
theorem d_X7_account_161 : decode mX7_account.2.1 161 = .ok (.iconst 1, 1) := by decide +kernel
theorem d_X7_account_162 : decode mX7_account.2.1 162 = .ok (.invokevirtual 163, 3) := by decide +kernel
theorem d_X7_account_165 : decode mX7_account.2.1 165 = .ok (.ireturn, 1) := by decide +kernel
def T_X7_account (Q : Int32 → Mem → Prop) (v0 : Nat) (v1 : Int32) (M : Mem) : Prop := (kd v0 = 7) ∧ ∀ M2 : Mem, M2 = mset M v0 0 0 → if v1 = 0 then ((kd (rf v0 1) = 9) ∧ (vp_in 0 (ln (rf v0 1))) ∧ Q (M2.1 (rf v0 1) (Int32.toNatClampNeg 0)) M2) else if v1 = 1 then ((kd (rf v0 1) = 9) ∧ (vp_in 4 (ln (rf v0 1))) ∧ Q (M2.1 (rf v0 1) (Int32.toNatClampNeg 4)) M2) else if v1 = 2 then (T_X7_inState (fun y8 M7 => Q y8 M7)  v0 0 M2) else if v1 = 3 then (T_X7_inState (fun y10 M9 => Q y10 M9)  v0 1 M2) else if v1 = 4 then (T_X7_inState (fun y12 M11 => Q y12 M11)  v0 2 M2) else if v1 = 5 then ((kd (rf v0 1) = 9) ∧ (vp_in 1 (ln (rf v0 1))) ∧ Q (M2.1 (rf v0 1) (Int32.toNatClampNeg 1)) M2) else if v1 = 6 then ((kd (rf v0 1) = 9) ∧ (vp_in 2 (ln (rf v0 1))) ∧ Q (M2.1 (rf v0 1) (Int32.toNatClampNeg 2)) M2) else if v1 = 7 then ((kd (rf v0 1) = 9) ∧ (vp_in 3 (ln (rf v0 1))) ∧ Q (M2.1 (rf v0 1) (Int32.toNatClampNeg 3)) M2) else if v1 = 8 then ((kd (rf v0 1) = 9) ∧ (vp_in 5 (ln (rf v0 1))) ∧ Q (M2.1 (rf v0 1) (Int32.toNatClampNeg 5)) M2) else if v1 = 9 then ((kd (rf v0 1) = 9) ∧ (vp_in 6 (ln (rf v0 1))) ∧ Q (M2.1 (rf v0 1) (Int32.toNatClampNeg 6)) M2) else if v1 = 10 then ((kd (rf v0 1) = 9) ∧ (vp_in 7 (ln (rf v0 1))) ∧ Q (M2.1 (rf v0 1) (Int32.toNatClampNeg 7)) M2) else if v1 = 11 then (T_X7_together (fun y26 M25 => Q y26 M25)  v0 1 M2) else if v1 = 12 then (T_X7_together (fun y28 M27 => Q y28 M27)  v0 0 M2) else (T_X7_fails (fun y30 M29 => Q y30 M29)  v0 1 M2)
set_option maxRecDepth 100000 in
set_option maxHeartbeats 4000000 in
theorem c_X7_account {g : GG} (v0 : Nat) (v1 : Int32) (M : Mem) (Q : Int32 → Mem → Prop) (h : T_X7_account Q v0 v1 M) : CT g 12 mX7_account [.ref (g.1 + v0), .int v1] M 0 (oI Q noX) := by
  refine CT_of (L := [some (.ref (g.1 + v0)), some (.int v1)]) (by decide) rfl (Nat.le_of_ble_eq_true rfl) (ro_I rfl) rfl ?_
  unfold T_X7_account at h
  refine R_aload_n (pc := 0) d_X7_account_0 rfl rfl ?_
  refine R_iconst (pc := 1) (v := 0) d_X7_account_1 (by decide) ?_
  obtain ⟨k1, h⟩ := h
  refine R_putI (pc := 2) fld_RX7_37 rfl rfl rfl k1 rfl rfl d_X7_account_2 (N_M (fun M2 eM2 => ?_))
  have h := h M2 eM2
  refine R_iload_n (pc := 5) d_X7_account_5 rfl rfl ?_
  by_cases c0 : v1 = 0
  · rw [if_pos c0] at h
    rw [c0]
    refine R_tsIn (pc := 6) (off := 66) (tgt := 72) d_X7_account_6 (by decide) (by decide) (by decide) (by decide) ?_
    refine R_aload_n (pc := 72) d_X7_account_72 rfl rfl ?_
    refine R_getR (pc := 73) fld_RX7_7 rfl rfl k1 d_X7_account_73 ?_
    refine R_iconst (pc := 76) (v := 0) d_X7_account_76 (by decide) ?_
    obtain ⟨k3, h⟩ := h
    obtain ⟨k4, h⟩ := h
    refine R_iald (pc := 77) k3 k4 d_X7_account_77 ?_
    exact R_retv (pc := 78) d_X7_account_78 h
  rw [if_neg c0] at h
  by_cases c1 : v1 = 1
  · rw [if_pos c1] at h
    rw [c1]
    refine R_tsIn (pc := 6) (off := 73) (tgt := 79) d_X7_account_6 (by decide) (by decide) (by decide) (by decide) ?_
    refine R_aload_n (pc := 79) d_X7_account_79 rfl rfl ?_
    refine R_getR (pc := 80) fld_RX7_7 rfl rfl k1 d_X7_account_80 ?_
    refine R_iconst (pc := 83) (v := 4) d_X7_account_83 (by decide) ?_
    obtain ⟨k5, h⟩ := h
    obtain ⟨k6, h⟩ := h
    refine R_iald (pc := 84) k5 k6 d_X7_account_84 ?_
    exact R_retv (pc := 85) d_X7_account_85 h
  rw [if_neg c1] at h
  by_cases c2 : v1 = 2
  · rw [if_pos c2] at h
    rw [c2]
    refine R_tsIn (pc := 6) (off := 80) (tgt := 86) d_X7_account_6 (by decide) (by decide) (by decide) (by decide) ?_
    refine R_aload_n (pc := 86) d_X7_account_86 rfl rfl ?_
    refine R_iconst (pc := 87) (v := 0) d_X7_account_87 (by decide) ?_
    refine R_callV (pc := 88) (As := [.int 0]) (rest := []) (c_X7_inState (g := g) v0 0 M2 _ h) rfl rfl cal_RX7_226 ins_X7_inState sel_X7_inState (cls_at k1 clsOK7) (by decide) (by decide) rfl rfl (Nat.le_of_ble_eq_true rfl) d_X7_account_88 (k_I (fun y8 M7 h => ?_)) (fun _ _ h9 => False.elim h9)
    try dsimp only at h
    exact R_retv (pc := 91) d_X7_account_91 h
  rw [if_neg c2] at h
  by_cases c3 : v1 = 3
  · rw [if_pos c3] at h
    rw [c3]
    refine R_tsIn (pc := 6) (off := 86) (tgt := 92) d_X7_account_6 (by decide) (by decide) (by decide) (by decide) ?_
    refine R_aload_n (pc := 92) d_X7_account_92 rfl rfl ?_
    refine R_iconst (pc := 93) (v := 1) d_X7_account_93 (by decide) ?_
    refine R_callV (pc := 94) (As := [.int 1]) (rest := []) (c_X7_inState (g := g) v0 1 M2 _ h) rfl rfl cal_RX7_226 ins_X7_inState sel_X7_inState (cls_at k1 clsOK7) (by decide) (by decide) rfl rfl (Nat.le_of_ble_eq_true rfl) d_X7_account_94 (k_I (fun y10 M9 h => ?_)) (fun _ _ h9 => False.elim h9)
    try dsimp only at h
    exact R_retv (pc := 97) d_X7_account_97 h
  rw [if_neg c3] at h
  by_cases c4 : v1 = 4
  · rw [if_pos c4] at h
    rw [c4]
    refine R_tsIn (pc := 6) (off := 92) (tgt := 98) d_X7_account_6 (by decide) (by decide) (by decide) (by decide) ?_
    refine R_aload_n (pc := 98) d_X7_account_98 rfl rfl ?_
    refine R_iconst (pc := 99) (v := 2) d_X7_account_99 (by decide) ?_
    refine R_callV (pc := 100) (As := [.int 2]) (rest := []) (c_X7_inState (g := g) v0 2 M2 _ h) rfl rfl cal_RX7_226 ins_X7_inState sel_X7_inState (cls_at k1 clsOK7) (by decide) (by decide) rfl rfl (Nat.le_of_ble_eq_true rfl) d_X7_account_100 (k_I (fun y12 M11 h => ?_)) (fun _ _ h9 => False.elim h9)
    try dsimp only at h
    exact R_retv (pc := 103) d_X7_account_103 h
  rw [if_neg c4] at h
  by_cases c5 : v1 = 5
  · rw [if_pos c5] at h
    rw [c5]
    refine R_tsIn (pc := 6) (off := 98) (tgt := 104) d_X7_account_6 (by decide) (by decide) (by decide) (by decide) ?_
    refine R_aload_n (pc := 104) d_X7_account_104 rfl rfl ?_
    refine R_getR (pc := 105) fld_RX7_7 rfl rfl k1 d_X7_account_105 ?_
    refine R_iconst (pc := 108) (v := 1) d_X7_account_108 (by decide) ?_
    obtain ⟨k13, h⟩ := h
    obtain ⟨k14, h⟩ := h
    refine R_iald (pc := 109) k13 k14 d_X7_account_109 ?_
    exact R_retv (pc := 110) d_X7_account_110 h
  rw [if_neg c5] at h
  by_cases c6 : v1 = 6
  · rw [if_pos c6] at h
    rw [c6]
    refine R_tsIn (pc := 6) (off := 105) (tgt := 111) d_X7_account_6 (by decide) (by decide) (by decide) (by decide) ?_
    refine R_aload_n (pc := 111) d_X7_account_111 rfl rfl ?_
    refine R_getR (pc := 112) fld_RX7_7 rfl rfl k1 d_X7_account_112 ?_
    refine R_iconst (pc := 115) (v := 2) d_X7_account_115 (by decide) ?_
    obtain ⟨k15, h⟩ := h
    obtain ⟨k16, h⟩ := h
    refine R_iald (pc := 116) k15 k16 d_X7_account_116 ?_
    exact R_retv (pc := 117) d_X7_account_117 h
  rw [if_neg c6] at h
  by_cases c7 : v1 = 7
  · rw [if_pos c7] at h
    rw [c7]
    refine R_tsIn (pc := 6) (off := 112) (tgt := 118) d_X7_account_6 (by decide) (by decide) (by decide) (by decide) ?_
    refine R_aload_n (pc := 118) d_X7_account_118 rfl rfl ?_
    refine R_getR (pc := 119) fld_RX7_7 rfl rfl k1 d_X7_account_119 ?_
    refine R_iconst (pc := 122) (v := 3) d_X7_account_122 (by decide) ?_
    obtain ⟨k17, h⟩ := h
    obtain ⟨k18, h⟩ := h
    refine R_iald (pc := 123) k17 k18 d_X7_account_123 ?_
    exact R_retv (pc := 124) d_X7_account_124 h
  rw [if_neg c7] at h
  by_cases c8 : v1 = 8
  · rw [if_pos c8] at h
    rw [c8]
    refine R_tsIn (pc := 6) (off := 119) (tgt := 125) d_X7_account_6 (by decide) (by decide) (by decide) (by decide) ?_
    refine R_aload_n (pc := 125) d_X7_account_125 rfl rfl ?_
    refine R_getR (pc := 126) fld_RX7_7 rfl rfl k1 d_X7_account_126 ?_
    refine R_iconst (pc := 129) (v := 5) d_X7_account_129 (by decide) ?_
    obtain ⟨k19, h⟩ := h
    obtain ⟨k20, h⟩ := h
    refine R_iald (pc := 130) k19 k20 d_X7_account_130 ?_
    exact R_retv (pc := 131) d_X7_account_131 h
  rw [if_neg c8] at h
  by_cases c9 : v1 = 9
  · rw [if_pos c9] at h
    rw [c9]
    refine R_tsIn (pc := 6) (off := 126) (tgt := 132) d_X7_account_6 (by decide) (by decide) (by decide) (by decide) ?_
    refine R_aload_n (pc := 132) d_X7_account_132 rfl rfl ?_
    refine R_getR (pc := 133) fld_RX7_7 rfl rfl k1 d_X7_account_133 ?_
    refine R_bipush (pc := 136) (v := 6) d_X7_account_136 (by decide) ?_
    obtain ⟨k21, h⟩ := h
    obtain ⟨k22, h⟩ := h
    refine R_iald (pc := 138) k21 k22 d_X7_account_138 ?_
    exact R_retv (pc := 139) d_X7_account_139 h
  rw [if_neg c9] at h
  by_cases c10 : v1 = 10
  · rw [if_pos c10] at h
    rw [c10]
    refine R_tsIn (pc := 6) (off := 134) (tgt := 140) d_X7_account_6 (by decide) (by decide) (by decide) (by decide) ?_
    refine R_aload_n (pc := 140) d_X7_account_140 rfl rfl ?_
    refine R_getR (pc := 141) fld_RX7_7 rfl rfl k1 d_X7_account_141 ?_
    refine R_bipush (pc := 144) (v := 7) d_X7_account_144 (by decide) ?_
    obtain ⟨k23, h⟩ := h
    obtain ⟨k24, h⟩ := h
    refine R_iald (pc := 146) k23 k24 d_X7_account_146 ?_
    exact R_retv (pc := 147) d_X7_account_147 h
  rw [if_neg c10] at h
  by_cases c11 : v1 = 11
  · rw [if_pos c11] at h
    rw [c11]
    refine R_tsIn (pc := 6) (off := 142) (tgt := 148) d_X7_account_6 (by decide) (by decide) (by decide) (by decide) ?_
    refine R_aload_n (pc := 148) d_X7_account_148 rfl rfl ?_
    refine R_iconst (pc := 149) (v := 1) d_X7_account_149 (by decide) ?_
    refine R_callV (pc := 150) (As := [.int 1]) (rest := []) (c_X7_together (g := g) v0 1 M2 _ h) rfl rfl cal_RX7_229 ins_X7_together sel_X7_together (cls_at k1 clsOK7) (by decide) (by decide) rfl rfl (Nat.le_of_ble_eq_true rfl) d_X7_account_150 (k_I (fun y26 M25 h => ?_)) (fun _ _ h9 => False.elim h9)
    try dsimp only at h
    exact R_retv (pc := 153) d_X7_account_153 h
  rw [if_neg c11] at h
  by_cases c12 : v1 = 12
  · rw [if_pos c12] at h
    rw [c12]
    refine R_tsIn (pc := 6) (off := 148) (tgt := 154) d_X7_account_6 (by decide) (by decide) (by decide) (by decide) ?_
    refine R_aload_n (pc := 154) d_X7_account_154 rfl rfl ?_
    refine R_iconst (pc := 155) (v := 0) d_X7_account_155 (by decide) ?_
    refine R_callV (pc := 156) (As := [.int 0]) (rest := []) (c_X7_together (g := g) v0 0 M2 _ h) rfl rfl cal_RX7_229 ins_X7_together sel_X7_together (cls_at k1 clsOK7) (by decide) (by decide) rfl rfl (Nat.le_of_ble_eq_true rfl) d_X7_account_156 (k_I (fun y28 M27 h => ?_)) (fun _ _ h9 => False.elim h9)
    try dsimp only at h
    exact R_retv (pc := 159) d_X7_account_159 h
  rw [if_neg c12] at h
  have o9 : v1.toInt < 0 ∨ 12 < v1.toInt := by
    have n0 := ne_toInt c0
    rw [show Int32.toInt (0 : Int32) = 0 by decide] at n0
    have n1 := ne_toInt c1
    rw [show Int32.toInt (1 : Int32) = 1 by decide] at n1
    have n2 := ne_toInt c2
    rw [show Int32.toInt (2 : Int32) = 2 by decide] at n2
    have n3 := ne_toInt c3
    rw [show Int32.toInt (3 : Int32) = 3 by decide] at n3
    have n4 := ne_toInt c4
    rw [show Int32.toInt (4 : Int32) = 4 by decide] at n4
    have n5 := ne_toInt c5
    rw [show Int32.toInt (5 : Int32) = 5 by decide] at n5
    have n6 := ne_toInt c6
    rw [show Int32.toInt (6 : Int32) = 6 by decide] at n6
    have n7 := ne_toInt c7
    rw [show Int32.toInt (7 : Int32) = 7 by decide] at n7
    have n8 := ne_toInt c8
    rw [show Int32.toInt (8 : Int32) = 8 by decide] at n8
    have n9 := ne_toInt c9
    rw [show Int32.toInt (9 : Int32) = 9 by decide] at n9
    have n10 := ne_toInt c10
    rw [show Int32.toInt (10 : Int32) = 10 by decide] at n10
    have n11 := ne_toInt c11
    rw [show Int32.toInt (11 : Int32) = 11 by decide] at n11
    have n12 := ne_toInt c12
    rw [show Int32.toInt (12 : Int32) = 12 by decide] at n12
    omega
  refine R_tsOut (pc := 6) (tgt := 160) d_X7_account_6 o9 (by decide) ?_
  refine R_aload_n (pc := 160) d_X7_account_160 rfl rfl ?_
  refine R_iconst (pc := 161) (v := 1) d_X7_account_161 (by decide) ?_
  refine R_callV (pc := 162) (As := [.int 1]) (rest := []) (c_X7_fails (g := g) v0 1 M2 _ h) rfl rfl cal_RX7_163 ins_X7_fails sel_X7_fails (cls_at k1 clsOK7) (by decide) (by decide) rfl rfl (Nat.le_of_ble_eq_true rfl) d_X7_account_162 (k_I (fun y30 M29 h => ?_)) (fun _ _ h9 => False.elim h9)
  try dsimp only at h
  exact R_retv (pc := 165) d_X7_account_165 h
/-! X7_meanDistance -/
theorem d_X7_meanDistance_0 : decode mX7_meanDistance.2.1 0 = .ok (.aload_n 0, 1) := by decide +kernel
theorem d_X7_meanDistance_1 : decode mX7_meanDistance.2.1 1 = .ok (.aload_n 0, 1) := by decide +kernel
theorem d_X7_meanDistance_2 : decode mX7_meanDistance.2.1 2 = .ok (.iconst 0, 1) := by decide +kernel
theorem d_X7_meanDistance_3 : decode mX7_meanDistance.2.1 3 = .ok (.invokevirtual 226, 3) := by decide +kernel
theorem d_X7_meanDistance_6 : decode mX7_meanDistance.2.1 6 = .ok (.ifCond .ne 7, 3) := by decide +kernel
theorem d_X7_meanDistance_9 : decode mX7_meanDistance.2.1 9 = .ok (.iconst 1, 1) := by decide +kernel
theorem d_X7_meanDistance_10 : decode mX7_meanDistance.2.1 10 = .ok (.goto 4, 3) := by decide +kernel
theorem d_X7_meanDistance_13 : decode mX7_meanDistance.2.1 13 = .ok (.iconst 0, 1) := by decide +kernel
theorem d_X7_meanDistance_14 : decode mX7_meanDistance.2.1 14 = .ok (.putfield 37, 3) := by decide +kernel
theorem d_X7_meanDistance_17 : decode mX7_meanDistance.2.1 17 = .ok (.aload_n 0, 1) := by decide +kernel
theorem d_X7_meanDistance_18 : decode mX7_meanDistance.2.1 18 = .ok (.getfield 37, 3) := by decide +kernel
theorem d_X7_meanDistance_21 : decode mX7_meanDistance.2.1 21 = .ok (.ifCond .le 7, 3) := by decide +kernel
theorem d_X7_meanDistance_24 : decode mX7_meanDistance.2.1 24 = .ok (.dconst 0, 1) := by decide +kernel
theorem d_X7_meanDistance_25 : decode mX7_meanDistance.2.1 25 = .ok (.goto 16, 3) := by decide +kernel
theorem d_X7_meanDistance_28 : decode mX7_meanDistance.2.1 28 = .ok (.aload_n 0, 1) := by decide +kernel
theorem d_X7_meanDistance_29 : decode mX7_meanDistance.2.1 29 = .ok (.iconst 0, 1) := by decide +kernel
theorem d_X7_meanDistance_30 : decode mX7_meanDistance.2.1 30 = .ok (.invokevirtual 229, 3) := by decide +kernel
theorem d_X7_meanDistance_33 : decode mX7_meanDistance.2.1 33 = .ok (.i2d, 1) := by decide +kernel
theorem d_X7_meanDistance_34 : decode mX7_meanDistance.2.1 34 = .ok (.aload_n 0, 1) := by decide +kernel
theorem d_X7_meanDistance_35 : decode mX7_meanDistance.2.1 35 = .ok (.iconst 0, 1) := by decide +kernel
theorem d_X7_meanDistance_36 : decode mX7_meanDistance.2.1 36 = .ok (.invokevirtual 226, 3) := by decide +kernel
theorem d_X7_meanDistance_39 : decode mX7_meanDistance.2.1 39 = .ok (.i2d, 1) := by decide +kernel
theorem d_X7_meanDistance_40 : decode mX7_meanDistance.2.1 40 = .ok (.ddiv, 1) := by decide +kernel
theorem d_X7_meanDistance_41 : decode mX7_meanDistance.2.1 41 = .ok (.dreturn, 1) := by decide +kernel
def T_X7_meanDistance_41 (Q : UInt64 → Mem → Prop) (s0 : UInt64) (M : Mem) : Prop := Q s0 M
set_option maxRecDepth 100000 in
set_option maxHeartbeats 4000000 in
theorem B_X7_meanDistance_41 {g : GG} (Q : UInt64 → Mem → Prop) (s0 : UInt64) (M : Mem) (h : T_X7_meanDistance_41 Q s0 M) : WP g 12 mX7_meanDistance 41 [none] [.double s0] M 0 (oD Q noX) := by
  unfold T_X7_meanDistance_41 at h
  exact R_retv (pc := 41) d_X7_meanDistance_41 h
def T_X7_meanDistance_14 (Q : UInt64 → Mem → Prop) (v0 : Nat) (s0 : Int32) (s1 : Nat) (M : Mem) : Prop := (kd s1 = 7) ∧ ∀ M2 : Mem, M2 = mset M s1 0 s0 → (kd v0 = 7) ∧ if (M2.1 v0 0) ≤ 0 then (T_X7_together (fun y5 M4 => T_X7_inState (fun y7 M6 => (vf_n64 (FP.ddiv (FP.i2d y5) (FP.i2d y7))) ∧ T_X7_meanDistance_41 Q (FP.ddiv (FP.i2d y5) (FP.i2d y7)) M6)  v0 0 M4)  v0 0 M2) else (T_X7_meanDistance_41 Q FP.dconst0 M2)
set_option maxRecDepth 100000 in
set_option maxHeartbeats 4000000 in
theorem B_X7_meanDistance_14 {g : GG} (Q : UInt64 → Mem → Prop) (v0 : Nat) (s0 : Int32) (s1 : Nat) (M : Mem) (h : T_X7_meanDistance_14 Q v0 s0 s1 M) : WP g 12 mX7_meanDistance 14 [some (.ref (g.1 + v0))] [.int s0, .ref (g.1 + s1)] M 0 (oD Q noX) := by
  unfold T_X7_meanDistance_14 at h
  obtain ⟨k1, h⟩ := h
  refine R_putI (pc := 14) fld_RX7_37 rfl rfl rfl k1 rfl rfl d_X7_meanDistance_14 (N_M (fun M2 eM2 => ?_))
  have h := h M2 eM2
  refine R_aload_n (pc := 17) d_X7_meanDistance_17 rfl rfl ?_
  obtain ⟨k3, h⟩ := h
  refine R_getI (pc := 18) fld_RX7_37 rfl rfl k3 d_X7_meanDistance_18 ?_
  refine R_if_le (pc := 21) (tgt := 28) d_X7_meanDistance_21 (by decide) (fun c => ?_) (fun c => ?_)
  · rw [if_pos c] at h
    refine R_aload_n (pc := 28) d_X7_meanDistance_28 rfl rfl ?_
    refine R_iconst (pc := 29) (v := 0) d_X7_meanDistance_29 (by decide) ?_
    refine R_callV (pc := 30) (As := [.int 0]) (rest := []) (c_X7_together (g := g) v0 0 M2 _ h) rfl rfl cal_RX7_229 ins_X7_together sel_X7_together (cls_at k3 clsOK7) (by decide) (by decide) rfl rfl (Nat.le_of_ble_eq_true rfl) d_X7_meanDistance_30 (k_I (fun y5 M4 h => ?_)) (fun _ _ h9 => False.elim h9)
    try dsimp only at h
    refine R_i2d (pc := 33) d_X7_meanDistance_33 ?_
    refine R_aload_n (pc := 34) d_X7_meanDistance_34 rfl rfl ?_
    refine R_iconst (pc := 35) (v := 0) d_X7_meanDistance_35 (by decide) ?_
    refine R_callV (pc := 36) (As := [.int 0]) (rest := [.double (FP.i2d y5)]) (c_X7_inState (g := g) v0 0 M4 _ h) rfl rfl cal_RX7_226 ins_X7_inState sel_X7_inState (cls_at k3 clsOK7) (by decide) (by decide) rfl rfl (Nat.le_of_ble_eq_true rfl) d_X7_meanDistance_36 (k_I (fun y7 M6 h => ?_)) (fun _ _ h9 => False.elim h9)
    try dsimp only at h
    refine R_i2d (pc := 39) d_X7_meanDistance_39 ?_
    obtain ⟨k8, h⟩ := h
    refine R_ddiv (pc := 40) d_X7_meanDistance_40 k8 ?_
    exact WP_sub (B_X7_meanDistance_41 Q (FP.ddiv (FP.i2d y5) (FP.i2d y7)) M6 h) (by decide) (ls_n ls_0)
  · rw [if_neg c] at h
    refine R_dconst0 (pc := 24) d_X7_meanDistance_24 ?_
    refine R_goto (pc := 25) (tgt := 41) d_X7_meanDistance_25 (by decide) ?_
    exact WP_sub (B_X7_meanDistance_41 Q FP.dconst0 M2 h) (by decide) (ls_n ls_0)
def T_X7_meanDistance (Q : UInt64 → Mem → Prop) (v0 : Nat) (M : Mem) : Prop := (kd v0 = 7) ∧ T_X7_inState (fun y3 M2 => if y3 = 0 then (T_X7_meanDistance_14 Q v0 1 v0 M2) else (T_X7_meanDistance_14 Q v0 0 v0 M2))  v0 0 M
set_option maxRecDepth 100000 in
set_option maxHeartbeats 4000000 in
theorem c_X7_meanDistance {g : GG} (v0 : Nat) (M : Mem) (Q : UInt64 → Mem → Prop) (h : T_X7_meanDistance Q v0 M) : CT g 12 mX7_meanDistance [.ref (g.1 + v0)] M 0 (oD Q noX) := by
  refine CT_of (L := [some (.ref (g.1 + v0))]) (by decide) rfl (Nat.le_of_ble_eq_true rfl) (ro_D rfl) rfl ?_
  unfold T_X7_meanDistance at h
  refine R_aload_n (pc := 0) d_X7_meanDistance_0 rfl rfl ?_
  refine R_aload_n (pc := 1) d_X7_meanDistance_1 rfl rfl ?_
  refine R_iconst (pc := 2) (v := 0) d_X7_meanDistance_2 (by decide) ?_
  obtain ⟨k1, h⟩ := h
  refine R_callV (pc := 3) (As := [.int 0]) (rest := [.ref (g.1 + v0)]) (c_X7_inState (g := g) v0 0 M _ h) rfl rfl cal_RX7_226 ins_X7_inState sel_X7_inState (cls_at k1 clsOK7) (by decide) (by decide) rfl rfl (Nat.le_of_ble_eq_true rfl) d_X7_meanDistance_3 (k_I (fun y3 M2 h => ?_)) (fun _ _ h9 => False.elim h9)
  try dsimp only at h
  refine R_if_ne (pc := 6) (tgt := 13) d_X7_meanDistance_6 (by decide) (fun c => ?_) (fun c => ?_)
  · rw [if_neg c] at h
    refine R_iconst (pc := 13) (v := 0) d_X7_meanDistance_13 (by decide) ?_
    exact WP_sub (B_X7_meanDistance_14 Q v0 0 v0 M2 h) (by decide) (ls_s ls_0)
  · rw [if_pos c] at h
    refine R_iconst (pc := 9) (v := 1) d_X7_meanDistance_9 (by decide) ?_
    refine R_goto (pc := 10) (tgt := 14) d_X7_meanDistance_10 (by decide) ?_
    exact WP_sub (B_X7_meanDistance_14 Q v0 1 v0 M2 h) (by decide) (ls_s ls_0)
/-! X7_use -/
theorem d_X7_use_0 : decode mX7_use.2.1 0 = .ok (.iconst 0, 1) := by decide +kernel
theorem d_X7_use_1 : decode mX7_use.2.1 1 = .ok (.istore_n 2, 1) := by decide +kernel
theorem d_X7_use_2 : decode mX7_use.2.1 2 = .ok (.iconst 0, 1) := by decide +kernel
theorem d_X7_use_3 : decode mX7_use.2.1 3 = .ok (.istore_n 3, 1) := by decide +kernel
theorem d_X7_use_4 : decode mX7_use.2.1 4 = .ok (.iconst 0, 1) := by decide +kernel
theorem d_X7_use_5 : decode mX7_use.2.1 5 = .ok (.istore 4, 2) := by decide +kernel
theorem d_X7_use_7 : decode mX7_use.2.1 7 = .ok (.iload 4, 2) := by decide +kernel
theorem d_X7_use_9 : decode mX7_use.2.1 9 = .ok (.aload_n 0, 1) := by decide +kernel
theorem d_X7_use_10 : decode mX7_use.2.1 10 = .ok (.getfield 7, 3) := by decide +kernel
theorem d_X7_use_13 : decode mX7_use.2.1 13 = .ok (.iconst 1, 1) := by decide +kernel
theorem d_X7_use_14 : decode mX7_use.2.1 14 = .ok (.iaload, 1) := by decide +kernel
theorem d_X7_use_15 : decode mX7_use.2.1 15 = .ok (.if_icmp .ge 42, 3) := by decide +kernel
theorem d_X7_use_18 : decode mX7_use.2.1 18 = .ok (.iload_n 2, 1) := by decide +kernel
theorem d_X7_use_19 : decode mX7_use.2.1 19 = .ok (.aload_n 0, 1) := by decide +kernel
theorem d_X7_use_20 : decode mX7_use.2.1 20 = .ok (.iload 4, 2) := by decide +kernel
theorem d_X7_use_22 : decode mX7_use.2.1 22 = .ok (.invokevirtual 114, 3) := by decide +kernel
theorem d_X7_use_25 : decode mX7_use.2.1 25 = .ok (.iadd, 1) := by decide +kernel
theorem d_X7_use_26 : decode mX7_use.2.1 26 = .ok (.istore_n 2, 1) := by decide +kernel
theorem d_X7_use_27 : decode mX7_use.2.1 27 = .ok (.iload_n 3, 1) := by decide +kernel
theorem d_X7_use_28 : decode mX7_use.2.1 28 = .ok (.iload_n 1, 1) := by decide +kernel
theorem d_X7_use_29 : decode mX7_use.2.1 29 = .ok (.iconst 0, 1) := by decide +kernel
theorem d_X7_use_30 : decode mX7_use.2.1 30 = .ok (.bipush 7, 2) := by decide +kernel
theorem d_X7_use_32 : decode mX7_use.2.1 32 = .ok (.invokestatic 41, 3) := by decide +kernel
theorem d_X7_use_35 : decode mX7_use.2.1 35 = .ok (.ifCond .eq 13, 3) := by decide +kernel
theorem d_X7_use_38 : decode mX7_use.2.1 38 = .ok (.aload_n 0, 1) := by decide +kernel
theorem d_X7_use_39 : decode mX7_use.2.1 39 = .ok (.iload 4, 2) := by decide +kernel
theorem d_X7_use_41 : decode mX7_use.2.1 41 = .ok (.iload_n 1, 1) := by decide +kernel
theorem d_X7_use_42 : decode mX7_use.2.1 42 = .ok (.invokevirtual 111, 3) := by decide +kernel
theorem d_X7_use_45 : decode mX7_use.2.1 45 = .ok (.goto 4, 3) := by decide +kernel
theorem d_X7_use_48 : decode mX7_use.2.1 48 = .ok (.iconst 0, 1) := by decide +kernel
theorem d_X7_use_49 : decode mX7_use.2.1 49 = .ok (.iadd, 1) := by decide +kernel
theorem d_X7_use_50 : decode mX7_use.2.1 50 = .ok (.istore_n 3, 1) := by decide +kernel
theorem d_X7_use_51 : decode mX7_use.2.1 51 = .ok (.iinc 4 1, 3) := by decide +kernel
theorem d_X7_use_54 : decode mX7_use.2.1 54 = .ok (.goto (-47), 3) := by decide +kernel
theorem d_X7_use_57 : decode mX7_use.2.1 57 = .ok (.aload_n 0, 1) := by decide +kernel
theorem d_X7_use_58 : decode mX7_use.2.1 58 = .ok (.iload_n 1, 1) := by decide +kernel
theorem d_X7_use_59 : decode mX7_use.2.1 59 = .ok (.iconst 0, 1) := by decide +kernel
theorem d_X7_use_60 : decode mX7_use.2.1 60 = .ok (.bipush 7, 2) := by decide +kernel
theorem d_X7_use_62 : decode mX7_use.2.1 62 = .ok (.invokestatic 41, 3) := by decide +kernel
theorem d_X7_use_65 : decode mX7_use.2.1 65 = .ok (.ifCond .ne 7, 3) := by decide +kernel
theorem d_X7_use_68 : decode mX7_use.2.1 68 = .ok (.iconst 1, 1) := by decide +kernel
theorem d_X7_use_69 : decode mX7_use.2.1 69 = .ok (.goto 12, 3) := by decide +kernel
theorem d_X7_use_72 : decode mX7_use.2.1 72 = .ok (.iload_n 2, 1) := by decide +kernel
theorem d_X7_use_73 : decode mX7_use.2.1 73 = .ok (.ifCond .ne 7, 3) := by decide +kernel
theorem d_X7_use_76 : decode mX7_use.2.1 76 = .ok (.iconst 2, 1) := by decide +kernel
theorem d_X7_use_77 : decode mX7_use.2.1 77 = .ok (.goto 4, 3) := by decide +kernel
theorem d_X7_use_80 : decode mX7_use.2.1 80 = .ok (.iconst 0, 1) := by decide +kernel
theorem d_X7_use_81 : decode mX7_use.2.1 81 = .ok (.putfield 37, 3) := by decide +kernel
theorem d_X7_use_84 : decode mX7_use.2.1 84 = .ok (.aload_n 0, 1) := by decide +kernel
theorem d_X7_use_85 : decode mX7_use.2.1 85 = .ok (.getfield 37, 3) := by decide +kernel
theorem d_X7_use_88 : decode mX7_use.2.1 88 = .ok (.ifCond .le 7, 3) := by decide +kernel
theorem d_X7_use_91 : decode mX7_use.2.1 91 = .ok (.fconst 0, 1) := by decide +kernel
theorem d_X7_use_92 : decode mX7_use.2.1 92 = .ok (.goto 8, 3) := by decide +kernel
theorem d_X7_use_95 : decode mX7_use.2.1 95 = .ok (.iload_n 3, 1) := by decide +kernel
theorem d_X7_use_96 : decode mX7_use.2.1 96 = .ok (.i2f, 1) := by decide +kernel
theorem d_X7_use_97 : decode mX7_use.2.1 97 = .ok (.iload_n 2, 1) := by decide +kernel
theorem d_X7_use_98 : decode mX7_use.2.1 98 = .ok (.i2f, 1) := by decide +kernel
theorem d_X7_use_99 : decode mX7_use.2.1 99 = .ok (.fdiv, 1) := by decide +kernel
theorem d_X7_use_100 : decode mX7_use.2.1 100 = .ok (.freturn, 1) := by decide +kernel
def T_X7_use_100 (Q : UInt32 → Mem → Prop) (s0 : UInt32) (M : Mem) : Prop := Q s0 M
set_option maxRecDepth 100000 in
set_option maxHeartbeats 4000000 in
theorem B_X7_use_100 {g : GG} (Q : UInt32 → Mem → Prop) (s0 : UInt32) (M : Mem) (h : T_X7_use_100 Q s0 M) : WP g 11 mX7_use 100 [none, none, none, none, none] [.float s0] M 0 (oF Q noX) := by
  unfold T_X7_use_100 at h
  exact R_retv (pc := 100) d_X7_use_100 h
def T_X7_use_81 (Q : UInt32 → Mem → Prop) (v0 : Nat) (v2 : Int32) (v3 : Int32) (s0 : Int32) (s1 : Nat) (M : Mem) : Prop := (kd s1 = 7) ∧ ∀ M2 : Mem, M2 = mset M s1 0 s0 → (kd v0 = 7) ∧ if (M2.1 v0 0) ≤ 0 then ((vf_n32 (FP.fdiv (FP.i2f v3) (FP.i2f v2))) ∧ T_X7_use_100 Q (FP.fdiv (FP.i2f v3) (FP.i2f v2)) M2) else (T_X7_use_100 Q FP.fconst0 M2)
set_option maxRecDepth 100000 in
set_option maxHeartbeats 4000000 in
theorem B_X7_use_81 {g : GG} (Q : UInt32 → Mem → Prop) (v0 : Nat) (v2 : Int32) (v3 : Int32) (s0 : Int32) (s1 : Nat) (M : Mem) (h : T_X7_use_81 Q v0 v2 v3 s0 s1 M) : WP g 11 mX7_use 81 [some (.ref (g.1 + v0)), none, some (.int v2), some (.int v3), none] [.int s0, .ref (g.1 + s1)] M 0 (oF Q noX) := by
  unfold T_X7_use_81 at h
  obtain ⟨k1, h⟩ := h
  refine R_putI (pc := 81) fld_RX7_37 rfl rfl rfl k1 rfl rfl d_X7_use_81 (N_M (fun M2 eM2 => ?_))
  have h := h M2 eM2
  refine R_aload_n (pc := 84) d_X7_use_84 rfl rfl ?_
  obtain ⟨k3, h⟩ := h
  refine R_getI (pc := 85) fld_RX7_37 rfl rfl k3 d_X7_use_85 ?_
  refine R_if_le (pc := 88) (tgt := 95) d_X7_use_88 (by decide) (fun c => ?_) (fun c => ?_)
  · rw [if_pos c] at h
    refine R_iload_n (pc := 95) d_X7_use_95 rfl rfl ?_
    refine R_i2f (pc := 96) d_X7_use_96 ?_
    refine R_iload_n (pc := 97) d_X7_use_97 rfl rfl ?_
    refine R_i2f (pc := 98) d_X7_use_98 ?_
    obtain ⟨k4, h⟩ := h
    refine R_fdiv (pc := 99) d_X7_use_99 k4 ?_
    exact WP_sub (B_X7_use_100 Q (FP.fdiv (FP.i2f v3) (FP.i2f v2)) M2 h) (by decide) (ls_n (ls_n (ls_n (ls_n (ls_n ls_0)))))
  · rw [if_neg c] at h
    refine R_fconst0 (pc := 91) d_X7_use_91 ?_
    refine R_goto (pc := 92) (tgt := 100) d_X7_use_92 (by decide) ?_
    exact WP_sub (B_X7_use_100 Q FP.fconst0 M2 h) (by decide) (ls_n (ls_n (ls_n (ls_n (ls_n ls_0)))))
def T_X7_use_49 (κ7 : Nat → Int32 → Int32 → Int32 → Int32 → Mem → Prop) (Q : UInt32 → Mem → Prop) (v0 : Nat) (v1 : Int32) (v2 : Int32) (v4 : Int32) (s0 : Int32) (s1 : Int32) (M : Mem) : Prop := ∀ x1 : Int32, x1 = s1 + s0 → ∀ x2 : Int32, x2 = v4 + 1 → κ7 v0 v1 v2 x1 x2 M
set_option maxRecDepth 100000 in
set_option maxHeartbeats 4000000 in
theorem B_X7_use_49 {g : GG} (Q : UInt32 → Mem → Prop) (κ7 : Nat → Int32 → Int32 → Int32 → Int32 → Mem → Prop) (hκ7 : ∀ (v0 : Nat) (v1 : Int32) (v2 : Int32) (v3 : Int32) (v4 : Int32) (M : Mem), κ7 v0 v1 v2 v3 v4 M → WP g 11 mX7_use 7 [some (.ref (g.1 + v0)), some (.int v1), some (.int v2), some (.int v3), some (.int v4)] [] M 0 (oF Q noX)) (v0 : Nat) (v1 : Int32) (v2 : Int32) (v4 : Int32) (s0 : Int32) (s1 : Int32) (M : Mem) (h : T_X7_use_49 κ7 Q v0 v1 v2 v4 s0 s1 M) : WP g 11 mX7_use 49 [some (.ref (g.1 + v0)), some (.int v1), some (.int v2), none, some (.int v4)] [.int s0, .int s1] M 0 (oF Q noX) := by
  unfold T_X7_use_49 at h
  refine R_iadd (pc := 49) d_X7_use_49 ?_
  refine N_i (fun x1 ex1 => ?_)
  have h := h x1 ex1
  refine R_istore_n (pc := 50) (L' := [some (.ref (g.1 + v0)), some (.int v1), some (.int v2), some (.int x1), some (.int v4)]) d_X7_use_50 rfl (by decide) rfl ?_
  obtain ⟨x2, ex2⟩ : ∃ z : Int32, z = v4 + 1 := ⟨_, rfl⟩
  have h := h x2 ex2
  refine R_iinc (pc := 51) (v := x2) (L' := [some (.ref (g.1 + v0)), some (.int v1), some (.int v2), some (.int x1), some (.int x2)]) d_X7_use_51 rfl (by rw [ex2]; rfl) (by decide) rfl ?_
  refine R_goto (pc := 54) (tgt := 7) d_X7_use_54 (by decide) ?_
  exact WP_sub (hκ7 v0 v1 v2 x1 x2 M h) (by decide) (ls_s (ls_s (ls_s (ls_s (ls_s ls_0)))))
def T_X7_use_7 (Q : UInt32 → Mem → Prop) : Nat → Nat → Int32 → Int32 → Int32 → Int32 → Mem → Prop
  | 0, _, _, _, _, _, _ => False
  | n + 1, v0, v1, v2, v3, v4, M => (kd v0 = 7) ∧ (kd (rf v0 1) = 9) ∧ (vp_in 1 (ln (rf v0 1))) ∧ if (M.1 (rf v0 1) (Int32.toNatClampNeg 1)) ≤ v4 then (T_X7_in (fun y5 M4 => if y5 = 0 then (T_X7_use_81 Q v0 v2 v3 1 v0 M4) else (if v2 = 0 then (T_X7_use_81 Q v0 v2 v3 2 v0 M4) else (T_X7_use_81 Q v0 v2 v3 0 v0 M4)))  v1 0 7 M) else (T_X7_quotaOf (fun y7 M6 => ∀ x8 : Int32, x8 = v2 + y7 → T_X7_in (fun y10 M9 => if y10 = 0 then (T_X7_use_49 (T_X7_use_7 Q n) Q v0 v1 x8 v4 0 v3 M9) else (T_X7_counted (fun y12 M11 => T_X7_use_49 (T_X7_use_7 Q n) Q v0 v1 x8 v4 y12 v3 M11)  v0 v4 v1 M9))  v1 0 7 M6)  v0 v4 M)
set_option maxRecDepth 100000 in
set_option maxHeartbeats 4000000 in
theorem B_X7_use_7 {g : GG} (Q : UInt32 → Mem → Prop) : ∀ (n : Nat) (v0 : Nat) (v1 : Int32) (v2 : Int32) (v3 : Int32) (v4 : Int32) (M : Mem), T_X7_use_7 Q n v0 v1 v2 v3 v4 M → WP g 11 mX7_use 7 [some (.ref (g.1 + v0)), some (.int v1), some (.int v2), some (.int v3), some (.int v4)] [] M 0 (oF Q noX) := by
  intro n
  induction n with
  | zero => intro v0 v1 v2 v3 v4 M h; exact h.elim
  | succ n hκ7 =>
    intro v0 v1 v2 v3 v4 M h
    unfold T_X7_use_7 at h
    refine R_iload (pc := 7) d_X7_use_7 rfl ?_
    refine R_aload_n (pc := 9) d_X7_use_9 rfl rfl ?_
    obtain ⟨k1, h⟩ := h
    refine R_getR (pc := 10) fld_RX7_7 rfl rfl k1 d_X7_use_10 ?_
    refine R_iconst (pc := 13) (v := 1) d_X7_use_13 (by decide) ?_
    obtain ⟨k2, h⟩ := h
    obtain ⟨k3, h⟩ := h
    refine R_iald (pc := 14) k2 k3 d_X7_use_14 ?_
    refine R_icmp_ge (pc := 15) (tgt := 57) d_X7_use_15 (by decide) (fun c => ?_) (fun c => ?_)
    · rw [if_pos c] at h
      refine R_aload_n (pc := 57) d_X7_use_57 rfl rfl ?_
      refine R_iload_n (pc := 58) d_X7_use_58 rfl rfl ?_
      refine R_iconst (pc := 59) (v := 0) d_X7_use_59 (by decide) ?_
      refine R_bipush (pc := 60) (v := 7) d_X7_use_60 (by decide) ?_
      refine R_callS (pc := 62) (As := [.int v1, .int 0, .int 7]) (rest := [.ref (g.1 + v0)]) (c_X7_in (g := g) v1 0 7 M _ h) rfl rfl cal_RX7_41 sta_X7_in (by decide) (by decide) rfl rfl (Nat.le_of_ble_eq_true rfl) d_X7_use_62 (k_Z (fun y5 M4 h => ?_)) (fun _ _ h9 => False.elim h9)
      try dsimp only at h
      refine R_if_ne (pc := 65) (tgt := 72) d_X7_use_65 (by decide) (fun c => ?_) (fun c => ?_)
      · rw [if_neg c] at h
        refine R_iload_n (pc := 72) d_X7_use_72 rfl rfl ?_
        refine R_if_ne (pc := 73) (tgt := 80) d_X7_use_73 (by decide) (fun c => ?_) (fun c => ?_)
        · rw [if_neg c] at h
          refine R_iconst (pc := 80) (v := 0) d_X7_use_80 (by decide) ?_
          exact WP_sub (B_X7_use_81 Q v0 v2 v3 0 v0 M4 h) (by decide) (ls_s (ls_n (ls_s (ls_s (ls_n ls_0)))))
        · rw [if_pos c] at h
          refine R_iconst (pc := 76) (v := 2) d_X7_use_76 (by decide) ?_
          refine R_goto (pc := 77) (tgt := 81) d_X7_use_77 (by decide) ?_
          exact WP_sub (B_X7_use_81 Q v0 v2 v3 2 v0 M4 h) (by decide) (ls_s (ls_n (ls_s (ls_s (ls_n ls_0)))))
      · rw [if_pos c] at h
        refine R_iconst (pc := 68) (v := 1) d_X7_use_68 (by decide) ?_
        refine R_goto (pc := 69) (tgt := 81) d_X7_use_69 (by decide) ?_
        exact WP_sub (B_X7_use_81 Q v0 v2 v3 1 v0 M4 h) (by decide) (ls_s (ls_n (ls_s (ls_s (ls_n ls_0)))))
    · rw [if_neg c] at h
      refine R_iload_n (pc := 18) d_X7_use_18 rfl rfl ?_
      refine R_aload_n (pc := 19) d_X7_use_19 rfl rfl ?_
      refine R_iload (pc := 20) d_X7_use_20 rfl ?_
      refine R_callV (pc := 22) (As := [.int v4]) (rest := [.int v2]) (c_X7_quotaOf (g := g) v0 v4 M _ h) rfl rfl cal_RX7_114 ins_X7_quotaOf sel_X7_quotaOf (cls_at k1 clsOK7) (by decide) (by decide) rfl rfl (Nat.le_of_ble_eq_true rfl) d_X7_use_22 (k_I (fun y7 M6 h => ?_)) (fun _ _ h9 => False.elim h9)
      try dsimp only at h
      refine R_iadd (pc := 25) d_X7_use_25 ?_
      refine N_i (fun x8 ex8 => ?_)
      have h := h x8 ex8
      refine R_istore_n (pc := 26) (L' := [some (.ref (g.1 + v0)), some (.int v1), some (.int x8), some (.int v3), some (.int v4)]) d_X7_use_26 rfl (by decide) rfl ?_
      refine R_iload_n (pc := 27) d_X7_use_27 rfl rfl ?_
      refine R_iload_n (pc := 28) d_X7_use_28 rfl rfl ?_
      refine R_iconst (pc := 29) (v := 0) d_X7_use_29 (by decide) ?_
      refine R_bipush (pc := 30) (v := 7) d_X7_use_30 (by decide) ?_
      refine R_callS (pc := 32) (As := [.int v1, .int 0, .int 7]) (rest := [.int v3]) (c_X7_in (g := g) v1 0 7 M6 _ h) rfl rfl cal_RX7_41 sta_X7_in (by decide) (by decide) rfl rfl (Nat.le_of_ble_eq_true rfl) d_X7_use_32 (k_Z (fun y10 M9 h => ?_)) (fun _ _ h9 => False.elim h9)
      try dsimp only at h
      refine R_if_eq (pc := 35) (tgt := 48) d_X7_use_35 (by decide) (fun c => ?_) (fun c => ?_)
      · rw [if_pos c] at h
        refine R_iconst (pc := 48) (v := 0) d_X7_use_48 (by decide) ?_
        exact WP_sub (B_X7_use_49 Q (T_X7_use_7 Q n) hκ7 v0 v1 x8 v4 0 v3 M9 h) (by decide) (ls_s (ls_s (ls_s (ls_n (ls_s ls_0)))))
      · rw [if_neg c] at h
        refine R_aload_n (pc := 38) d_X7_use_38 rfl rfl ?_
        refine R_iload (pc := 39) d_X7_use_39 rfl ?_
        refine R_iload_n (pc := 41) d_X7_use_41 rfl rfl ?_
        refine R_callV (pc := 42) (As := [.int v4, .int v1]) (rest := [.int v3]) (c_X7_counted (g := g) v0 v4 v1 M9 _ h) rfl rfl cal_RX7_111 ins_X7_counted sel_X7_counted (cls_at k1 clsOK7) (by decide) (by decide) rfl rfl (Nat.le_of_ble_eq_true rfl) d_X7_use_42 (k_I (fun y12 M11 h => ?_)) (fun _ _ h9 => False.elim h9)
        try dsimp only at h
        refine R_goto (pc := 45) (tgt := 49) d_X7_use_45 (by decide) ?_
        exact WP_sub (B_X7_use_49 Q (T_X7_use_7 Q n) hκ7 v0 v1 x8 v4 y12 v3 M11 h) (by decide) (ls_s (ls_s (ls_s (ls_n (ls_s ls_0)))))
def T_X7_use (Q : UInt32 → Mem → Prop) (v0 : Nat) (v1 : Int32) (M : Mem) : Prop := (∃ N : Nat, T_X7_use_7 Q N v0 v1 0 0 0 M)
set_option maxRecDepth 100000 in
set_option maxHeartbeats 4000000 in
theorem c_X7_use {g : GG} (v0 : Nat) (v1 : Int32) (M : Mem) (Q : UInt32 → Mem → Prop) (h : T_X7_use Q v0 v1 M) : CT g 11 mX7_use [.ref (g.1 + v0), .int v1] M 0 (oF Q noX) := by
  refine CT_of (L := [some (.ref (g.1 + v0)), some (.int v1), none, none, none]) (by decide) rfl (Nat.le_of_ble_eq_true rfl) (ro_F rfl) rfl ?_
  unfold T_X7_use at h
  refine R_iconst (pc := 0) (v := 0) d_X7_use_0 (by decide) ?_
  refine R_istore_n (pc := 1) (L' := [some (.ref (g.1 + v0)), some (.int v1), some (.int 0), none, none]) d_X7_use_1 rfl (by decide) rfl ?_
  refine R_iconst (pc := 2) (v := 0) d_X7_use_2 (by decide) ?_
  refine R_istore_n (pc := 3) (L' := [some (.ref (g.1 + v0)), some (.int v1), some (.int 0), some (.int 0), none]) d_X7_use_3 rfl (by decide) rfl ?_
  refine R_iconst (pc := 4) (v := 0) d_X7_use_4 (by decide) ?_
  refine R_istore (pc := 5) (L' := [some (.ref (g.1 + v0)), some (.int v1), some (.int 0), some (.int 0), some (.int 0)]) d_X7_use_5 (by decide) rfl ?_
  obtain ⟨N, h⟩ := h
  exact WP_sub (B_X7_use_7 Q N v0 v1 0 0 0 M h) (by decide) (ls_s (ls_s (ls_s (ls_s (ls_s ls_0)))))
/-! X7_feed -/
theorem d_X7_feed_0 : decode mX7_feed.2.1 0 = .ok (.aload_n 0, 1) := by decide +kernel
theorem d_X7_feed_1 : decode mX7_feed.2.1 1 = .ok (.iconst 0, 1) := by decide +kernel
theorem d_X7_feed_2 : decode mX7_feed.2.1 2 = .ok (.putfield 37, 3) := by decide +kernel
theorem d_X7_feed_5 : decode mX7_feed.2.1 5 = .ok (.aload_n 0, 1) := by decide +kernel
theorem d_X7_feed_6 : decode mX7_feed.2.1 6 = .ok (.getfield 233, 3) := by decide +kernel
theorem d_X7_feed_9 : decode mX7_feed.2.1 9 = .ok (.bipush 80, 2) := by decide +kernel
theorem d_X7_feed_11 : decode mX7_feed.2.1 11 = .ok (.if_icmp .ne 9, 3) := by decide +kernel
theorem d_X7_feed_14 : decode mX7_feed.2.1 14 = .ok (.aload_n 0, 1) := by decide +kernel
theorem d_X7_feed_15 : decode mX7_feed.2.1 15 = .ok (.iconst 1, 1) := by decide +kernel
theorem d_X7_feed_16 : decode mX7_feed.2.1 16 = .ok (.invokevirtual 163, 3) := by decide +kernel
theorem d_X7_feed_19 : decode mX7_feed.2.1 19 = .ok (.ireturn, 1) := by decide +kernel
theorem d_X7_feed_20 : decode mX7_feed.2.1 20 = .ok (.aload_n 0, 1) := by decide +kernel
theorem d_X7_feed_21 : decode mX7_feed.2.1 21 = .ok (.getfield 22, 3) := by decide +kernel
theorem d_X7_feed_24 : decode mX7_feed.2.1 24 = .ok (.aload_n 0, 1) := by decide +kernel
theorem d_X7_feed_25 : decode mX7_feed.2.1 25 = .ok (.getfield 233, 3) := by decide +kernel
theorem d_X7_feed_28 : decode mX7_feed.2.1 28 = .ok (.iload_n 1, 1) := by decide +kernel
theorem d_X7_feed_29 : decode mX7_feed.2.1 29 = .ok (.iastore, 1) := by decide +kernel
theorem d_X7_feed_30 : decode mX7_feed.2.1 30 = .ok (.aload_n 0, 1) := by decide +kernel
theorem d_X7_feed_31 : decode mX7_feed.2.1 31 = .ok (.dup, 1) := by decide +kernel
theorem d_X7_feed_32 : decode mX7_feed.2.1 32 = .ok (.getfield 233, 3) := by decide +kernel
theorem d_X7_feed_35 : decode mX7_feed.2.1 35 = .ok (.iconst 1, 1) := by decide +kernel
theorem d_X7_feed_36 : decode mX7_feed.2.1 36 = .ok (.iadd, 1) := by decide +kernel
theorem d_X7_feed_37 : decode mX7_feed.2.1 37 = .ok (.putfield 233, 3) := by decide +kernel
theorem d_X7_feed_40 : decode mX7_feed.2.1 40 = .ok (.aload_n 0, 1) := by decide +kernel
theorem d_X7_feed_41 : decode mX7_feed.2.1 41 = .ok (.getfield 233, 3) := by decide +kernel
theorem d_X7_feed_44 : decode mX7_feed.2.1 44 = .ok (.ireturn, 1) := by decide +kernel
def T_X7_feed (Q : Int32 → Mem → Prop) (v0 : Nat) (v1 : Int32) (M : Mem) : Prop := (kd v0 = 7) ∧ ∀ M2 : Mem, M2 = mset M v0 0 0 → if (M2.1 v0 8) = (80 : Int32) then (T_X7_fails (fun y8 M7 => Q y8 M7)  v0 1 M2) else ((kd (rf v0 7) = 9) ∧ (vp_in (M2.1 v0 8) (ln (rf v0 7))) ∧ ∀ M5 : Mem, M5 = mset M2 (rf v0 7) (Int32.toNatClampNeg (M2.1 v0 8)) v1 → ∀ M6 : Mem, M6 = mset M5 v0 8 ((M5.1 v0 8) + 1) → Q (M6.1 v0 8) M6)
set_option maxRecDepth 100000 in
set_option maxHeartbeats 4000000 in
theorem c_X7_feed {g : GG} (v0 : Nat) (v1 : Int32) (M : Mem) (Q : Int32 → Mem → Prop) (h : T_X7_feed Q v0 v1 M) : CT g 10 mX7_feed [.ref (g.1 + v0), .int v1] M 0 (oI Q noX) := by
  refine CT_of (L := [some (.ref (g.1 + v0)), some (.int v1)]) (by decide) rfl (Nat.le_of_ble_eq_true rfl) (ro_I rfl) rfl ?_
  unfold T_X7_feed at h
  refine R_aload_n (pc := 0) d_X7_feed_0 rfl rfl ?_
  refine R_iconst (pc := 1) (v := 0) d_X7_feed_1 (by decide) ?_
  obtain ⟨k1, h⟩ := h
  refine R_putI (pc := 2) fld_RX7_37 rfl rfl rfl k1 rfl rfl d_X7_feed_2 (N_M (fun M2 eM2 => ?_))
  have h := h M2 eM2
  refine R_aload_n (pc := 5) d_X7_feed_5 rfl rfl ?_
  refine R_getI (pc := 6) fld_RX7_233 rfl rfl k1 d_X7_feed_6 ?_
  refine R_bipush (pc := 9) (v := 80) d_X7_feed_9 (by decide) ?_
  refine R_icmp_ne (pc := 11) (tgt := 20) d_X7_feed_11 (by decide) (fun c => ?_) (fun c => ?_)
  · rw [if_neg c] at h
    refine R_aload_n (pc := 20) d_X7_feed_20 rfl rfl ?_
    refine R_getR (pc := 21) fld_RX7_22 rfl rfl k1 d_X7_feed_21 ?_
    refine R_aload_n (pc := 24) d_X7_feed_24 rfl rfl ?_
    refine R_getI (pc := 25) fld_RX7_233 rfl rfl k1 d_X7_feed_25 ?_
    refine R_iload_n (pc := 28) d_X7_feed_28 rfl rfl ?_
    obtain ⟨k3, h⟩ := h
    obtain ⟨k4, h⟩ := h
    refine R_iast (pc := 29) k3 k4 d_X7_feed_29 (N_M (fun M5 eM5 => ?_))
    have h := h M5 eM5
    refine R_aload_n (pc := 30) d_X7_feed_30 rfl rfl ?_
    refine R_dup (pc := 31) d_X7_feed_31 rfl ?_
    refine R_getI (pc := 32) fld_RX7_233 rfl rfl k1 d_X7_feed_32 ?_
    refine R_iconst (pc := 35) (v := 1) d_X7_feed_35 (by decide) ?_
    refine R_iadd (pc := 36) d_X7_feed_36 ?_
    refine R_putI (pc := 37) fld_RX7_233 rfl rfl rfl k1 rfl rfl d_X7_feed_37 (N_M (fun M6 eM6 => ?_))
    have h := h M6 eM6
    refine R_aload_n (pc := 40) d_X7_feed_40 rfl rfl ?_
    refine R_getI (pc := 41) fld_RX7_233 rfl rfl k1 d_X7_feed_41 ?_
    exact R_retv (pc := 44) d_X7_feed_44 h
  · rw [if_pos c] at h
    refine R_aload_n (pc := 14) d_X7_feed_14 rfl rfl ?_
    refine R_iconst (pc := 15) (v := 1) d_X7_feed_15 (by decide) ?_
    refine R_callV (pc := 16) (As := [.int 1]) (rest := []) (c_X7_fails (g := g) v0 1 M2 _ h) rfl rfl cal_RX7_163 ins_X7_fails sel_X7_fails (cls_at k1 clsOK7) (by decide) (by decide) rfl rfl (Nat.le_of_ble_eq_true rfl) d_X7_feed_16 (k_I (fun y8 M7 h => ?_)) (fun _ _ h9 => False.elim h9)
    try dsimp only at h
    exact R_retv (pc := 19) d_X7_feed_19 h
/-! X7_here -/
theorem d_X7_here_0 : decode mX7_here.2.1 0 = .ok (.aload_n 0, 1) := by decide +kernel
theorem d_X7_here_1 : decode mX7_here.2.1 1 = .ok (.getfield 236, 3) := by decide +kernel
theorem d_X7_here_4 : decode mX7_here.2.1 4 = .ok (.aload_n 0, 1) := by decide +kernel
theorem d_X7_here_5 : decode mX7_here.2.1 5 = .ok (.getfield 239, 3) := by decide +kernel
theorem d_X7_here_8 : decode mX7_here.2.1 8 = .ok (.if_icmp .ge 15, 3) := by decide +kernel
theorem d_X7_here_11 : decode mX7_here.2.1 11 = .ok (.aload_n 0, 1) := by decide +kernel
theorem d_X7_here_12 : decode mX7_here.2.1 12 = .ok (.getfield 22, 3) := by decide +kernel
theorem d_X7_here_15 : decode mX7_here.2.1 15 = .ok (.aload_n 0, 1) := by decide +kernel
theorem d_X7_here_16 : decode mX7_here.2.1 16 = .ok (.getfield 236, 3) := by decide +kernel
theorem d_X7_here_19 : decode mX7_here.2.1 19 = .ok (.iaload, 1) := by decide +kernel
theorem d_X7_here_20 : decode mX7_here.2.1 20 = .ok (.goto 4, 3) := by decide +kernel
theorem d_X7_here_23 : decode mX7_here.2.1 23 = .ok (.iconst (-1), 1) := by decide +kernel
theorem d_X7_here_24 : decode mX7_here.2.1 24 = .ok (.ireturn, 1) := by decide +kernel
def T_X7_here_24 (Q : Int32 → Mem → Prop) (s0 : Int32) (M : Mem) : Prop := Q s0 M
set_option maxRecDepth 100000 in
set_option maxHeartbeats 4000000 in
theorem B_X7_here_24 {g : GG} (Q : Int32 → Mem → Prop) (s0 : Int32) (M : Mem) (h : T_X7_here_24 Q s0 M) : WP g 9 mX7_here 24 [none] [.int s0] M 0 (oI Q noX) := by
  unfold T_X7_here_24 at h
  exact R_retv (pc := 24) d_X7_here_24 h
def T_X7_here (Q : Int32 → Mem → Prop) (v0 : Nat) (M : Mem) : Prop := (kd v0 = 7) ∧ if (M.1 v0 18) ≤ (M.1 v0 17) then (T_X7_here_24 Q (-1) M) else ((kd (rf v0 7) = 9) ∧ (vp_in (M.1 v0 17) (ln (rf v0 7))) ∧ T_X7_here_24 Q (M.1 (rf v0 7) (Int32.toNatClampNeg (M.1 v0 17))) M)
set_option maxRecDepth 100000 in
set_option maxHeartbeats 4000000 in
theorem c_X7_here {g : GG} (v0 : Nat) (M : Mem) (Q : Int32 → Mem → Prop) (h : T_X7_here Q v0 M) : CT g 9 mX7_here [.ref (g.1 + v0)] M 0 (oI Q noX) := by
  refine CT_of (L := [some (.ref (g.1 + v0))]) (by decide) rfl (Nat.le_of_ble_eq_true rfl) (ro_I rfl) rfl ?_
  unfold T_X7_here at h
  refine R_aload_n (pc := 0) d_X7_here_0 rfl rfl ?_
  obtain ⟨k1, h⟩ := h
  refine R_getI (pc := 1) fld_RX7_236 rfl rfl k1 d_X7_here_1 ?_
  refine R_aload_n (pc := 4) d_X7_here_4 rfl rfl ?_
  refine R_getI (pc := 5) fld_RX7_239 rfl rfl k1 d_X7_here_5 ?_
  refine R_icmp_ge (pc := 8) (tgt := 23) d_X7_here_8 (by decide) (fun c => ?_) (fun c => ?_)
  · rw [if_pos c] at h
    refine R_iconst (pc := 23) (v := (-1)) d_X7_here_23 (by decide) ?_
    exact WP_sub (B_X7_here_24 Q (-1) M h) (by decide) (ls_n ls_0)
  · rw [if_neg c] at h
    refine R_aload_n (pc := 11) d_X7_here_11 rfl rfl ?_
    refine R_getR (pc := 12) fld_RX7_22 rfl rfl k1 d_X7_here_12 ?_
    refine R_aload_n (pc := 15) d_X7_here_15 rfl rfl ?_
    refine R_getI (pc := 16) fld_RX7_236 rfl rfl k1 d_X7_here_16 ?_
    obtain ⟨k2, h⟩ := h
    obtain ⟨k3, h⟩ := h
    refine R_iald (pc := 19) k2 k3 d_X7_here_19 ?_
    refine R_goto (pc := 20) (tgt := 24) d_X7_here_20 (by decide) ?_
    exact WP_sub (B_X7_here_24 Q (M.1 (rf v0 7) (Int32.toNatClampNeg (M.1 v0 17))) M h) (by decide) (ls_n ls_0)
/-! X7_must -/
theorem d_X7_must_0 : decode mX7_must.2.1 0 = .ok (.aload_n 0, 1) := by decide +kernel
theorem d_X7_must_1 : decode mX7_must.2.1 1 = .ok (.aload_n 0, 1) := by decide +kernel
theorem d_X7_must_2 : decode mX7_must.2.1 2 = .ok (.getfield 242, 3) := by decide +kernel
theorem d_X7_must_5 : decode mX7_must.2.1 5 = .ok (.ifCond .eq 15, 3) := by decide +kernel
theorem d_X7_must_8 : decode mX7_must.2.1 8 = .ok (.aload_n 0, 1) := by decide +kernel
theorem d_X7_must_9 : decode mX7_must.2.1 9 = .ok (.invokevirtual 246, 3) := by decide +kernel
theorem d_X7_must_12 : decode mX7_must.2.1 12 = .ok (.iload_n 1, 1) := by decide +kernel
theorem d_X7_must_13 : decode mX7_must.2.1 13 = .ok (.if_icmp .ne 7, 3) := by decide +kernel
theorem d_X7_must_16 : decode mX7_must.2.1 16 = .ok (.iconst 1, 1) := by decide +kernel
theorem d_X7_must_17 : decode mX7_must.2.1 17 = .ok (.goto 4, 3) := by decide +kernel
theorem d_X7_must_20 : decode mX7_must.2.1 20 = .ok (.iconst 0, 1) := by decide +kernel
theorem d_X7_must_21 : decode mX7_must.2.1 21 = .ok (.putfield 242, 3) := by decide +kernel
theorem d_X7_must_24 : decode mX7_must.2.1 24 = .ok (.aload_n 0, 1) := by decide +kernel
theorem d_X7_must_25 : decode mX7_must.2.1 25 = .ok (.dup, 1) := by decide +kernel
theorem d_X7_must_26 : decode mX7_must.2.1 26 = .ok (.getfield 236, 3) := by decide +kernel
theorem d_X7_must_29 : decode mX7_must.2.1 29 = .ok (.aload_n 0, 1) := by decide +kernel
theorem d_X7_must_30 : decode mX7_must.2.1 30 = .ok (.getfield 242, 3) := by decide +kernel
theorem d_X7_must_33 : decode mX7_must.2.1 33 = .ok (.ifCond .eq 7, 3) := by decide +kernel
theorem d_X7_must_36 : decode mX7_must.2.1 36 = .ok (.iconst 1, 1) := by decide +kernel
theorem d_X7_must_37 : decode mX7_must.2.1 37 = .ok (.goto 4, 3) := by decide +kernel
theorem d_X7_must_40 : decode mX7_must.2.1 40 = .ok (.iconst 0, 1) := by decide +kernel
theorem d_X7_must_41 : decode mX7_must.2.1 41 = .ok (.iadd, 1) := by decide +kernel
theorem d_X7_must_42 : decode mX7_must.2.1 42 = .ok (.putfield 236, 3) := by decide +kernel
theorem d_X7_must_45 : decode mX7_must.2.1 45 = .ok (.return_, 1) := by decide +kernel
def T_X7_must_41 (Q : Mem → Prop) (s0 : Int32) (s1 : Int32) (s2 : Nat) (M : Mem) : Prop := (kd s2 = 7) ∧ ∀ M2 : Mem, M2 = mset M s2 17 (s1 + s0) → Q M2
set_option maxRecDepth 100000 in
set_option maxHeartbeats 4000000 in
theorem B_X7_must_41 {g : GG} (Q : Mem → Prop) (s0 : Int32) (s1 : Int32) (s2 : Nat) (M : Mem) (h : T_X7_must_41 Q s0 s1 s2 M) : WP g 10 mX7_must 41 [none, none] [.int s0, .int s1, .ref (g.1 + s2)] M 0 (oV Q noX) := by
  unfold T_X7_must_41 at h
  refine R_iadd (pc := 41) d_X7_must_41 ?_
  obtain ⟨k1, h⟩ := h
  refine R_putI (pc := 42) fld_RX7_236 rfl rfl rfl k1 rfl rfl d_X7_must_42 (N_M (fun M2 eM2 => ?_))
  have h := h M2 eM2
  exact R_ret (pc := 45) d_X7_must_45 h
def T_X7_must_21 (Q : Mem → Prop) (v0 : Nat) (s0 : Int32) (s1 : Nat) (M : Mem) : Prop := (kd s1 = 7) ∧ (s0 = 0 ∨ s0 = 1) ∧ ∀ M3 : Mem, M3 = mset M s1 19 s0 → (kd v0 = 7) ∧ if (M3.1 v0 19) = 0 then (T_X7_must_41 Q 0 (M3.1 v0 17) v0 M3) else (T_X7_must_41 Q 1 (M3.1 v0 17) v0 M3)
set_option maxRecDepth 100000 in
set_option maxHeartbeats 4000000 in
theorem B_X7_must_21 {g : GG} (Q : Mem → Prop) (v0 : Nat) (s0 : Int32) (s1 : Nat) (M : Mem) (h : T_X7_must_21 Q v0 s0 s1 M) : WP g 10 mX7_must 21 [some (.ref (g.1 + v0)), none] [.int s0, .ref (g.1 + s1)] M 0 (oV Q noX) := by
  unfold T_X7_must_21 at h
  obtain ⟨k1, h⟩ := h
  obtain ⟨k2, h⟩ := h
  refine R_putI (pc := 21) fld_RX7_242 rfl rfl rfl k1 (nar_z k2) (fit_z k2) d_X7_must_21 (N_M (fun M3 eM3 => ?_))
  have h := h M3 eM3
  refine R_aload_n (pc := 24) d_X7_must_24 rfl rfl ?_
  refine R_dup (pc := 25) d_X7_must_25 rfl ?_
  obtain ⟨k4, h⟩ := h
  refine R_getI (pc := 26) fld_RX7_236 rfl rfl k4 d_X7_must_26 ?_
  refine R_aload_n (pc := 29) d_X7_must_29 rfl rfl ?_
  refine R_getI (pc := 30) fld_RX7_242 rfl rfl k4 d_X7_must_30 ?_
  refine R_if_eq (pc := 33) (tgt := 40) d_X7_must_33 (by decide) (fun c => ?_) (fun c => ?_)
  · rw [if_pos c] at h
    refine R_iconst (pc := 40) (v := 0) d_X7_must_40 (by decide) ?_
    exact WP_sub (B_X7_must_41 Q 0 (M3.1 v0 17) v0 M3 h) (by decide) (ls_n (ls_n ls_0))
  · rw [if_neg c] at h
    refine R_iconst (pc := 36) (v := 1) d_X7_must_36 (by decide) ?_
    refine R_goto (pc := 37) (tgt := 41) d_X7_must_37 (by decide) ?_
    exact WP_sub (B_X7_must_41 Q 1 (M3.1 v0 17) v0 M3 h) (by decide) (ls_n (ls_n ls_0))
def T_X7_must_20 (Q : Mem → Prop) (v0 : Nat) (s0 : Nat) (M : Mem) : Prop := T_X7_must_21 Q v0 0 s0 M
set_option maxRecDepth 100000 in
set_option maxHeartbeats 4000000 in
theorem B_X7_must_20 {g : GG} (Q : Mem → Prop) (v0 : Nat) (s0 : Nat) (M : Mem) (h : T_X7_must_20 Q v0 s0 M) : WP g 10 mX7_must 20 [some (.ref (g.1 + v0)), none] [.ref (g.1 + s0)] M 0 (oV Q noX) := by
  unfold T_X7_must_20 at h
  refine R_iconst (pc := 20) (v := 0) d_X7_must_20 (by decide) ?_
  exact WP_sub (B_X7_must_21 Q v0 0 s0 M h) (by decide) (ls_s (ls_n ls_0))
def T_X7_must (Q : Mem → Prop) (v0 : Nat) (v1 : Int32) (M : Mem) : Prop := (kd v0 = 7) ∧ if (M.1 v0 19) = 0 then (T_X7_must_20 Q v0 v0 M) else (T_X7_here (fun y3 M2 => if y3 = v1 then (T_X7_must_21 Q v0 1 v0 M2) else (T_X7_must_20 Q v0 v0 M2))  v0 M)
set_option maxRecDepth 100000 in
set_option maxHeartbeats 4000000 in
theorem c_X7_must {g : GG} (v0 : Nat) (v1 : Int32) (M : Mem) (Q : Mem → Prop) (h : T_X7_must Q v0 v1 M) : CT g 10 mX7_must [.ref (g.1 + v0), .int v1] M 0 (oV Q noX) := by
  refine CT_of (L := [some (.ref (g.1 + v0)), some (.int v1)]) (by decide) rfl (Nat.le_of_ble_eq_true rfl) (ro_V rfl) rfl ?_
  unfold T_X7_must at h
  refine R_aload_n (pc := 0) d_X7_must_0 rfl rfl ?_
  refine R_aload_n (pc := 1) d_X7_must_1 rfl rfl ?_
  obtain ⟨k1, h⟩ := h
  refine R_getI (pc := 2) fld_RX7_242 rfl rfl k1 d_X7_must_2 ?_
  refine R_if_eq (pc := 5) (tgt := 20) d_X7_must_5 (by decide) (fun c => ?_) (fun c => ?_)
  · rw [if_pos c] at h
    exact WP_sub (B_X7_must_20 Q v0 v0 M h) (by decide) (ls_s (ls_n ls_0))
  · rw [if_neg c] at h
    refine R_aload_n (pc := 8) d_X7_must_8 rfl rfl ?_
    refine R_callV (pc := 9) (As := []) (rest := [.ref (g.1 + v0)]) (c_X7_here (g := g) v0 M _ h) rfl rfl cal_RX7_246 ins_X7_here sel_X7_here (cls_at k1 clsOK7) (by decide) (by decide) rfl rfl (Nat.le_of_ble_eq_true rfl) d_X7_must_9 (k_I (fun y3 M2 h => ?_)) (fun _ _ h9 => False.elim h9)
    try dsimp only at h
    refine R_iload_n (pc := 12) d_X7_must_12 rfl rfl ?_
    refine R_icmp_ne (pc := 13) (tgt := 20) d_X7_must_13 (by decide) (fun c => ?_) (fun c => ?_)
    · rw [if_neg c] at h
      exact WP_sub (B_X7_must_20 Q v0 v0 M2 h) (by decide) (ls_s (ls_n ls_0))
    · rw [if_pos c] at h
      refine R_iconst (pc := 16) (v := 1) d_X7_must_16 (by decide) ?_
      refine R_goto (pc := 17) (tgt := 21) d_X7_must_17 (by decide) ?_
      exact WP_sub (B_X7_must_21 Q v0 1 v0 M2 h) (by decide) (ls_s (ls_n ls_0))
/-! X7_digit -/
theorem d_X7_digit_0 : decode mX7_digit.2.1 0 = .ok (.aload_n 0, 1) := by decide +kernel
theorem d_X7_digit_1 : decode mX7_digit.2.1 1 = .ok (.aload_n 0, 1) := by decide +kernel
theorem d_X7_digit_2 : decode mX7_digit.2.1 2 = .ok (.getfield 242, 3) := by decide +kernel
theorem d_X7_digit_5 : decode mX7_digit.2.1 5 = .ok (.ifCond .eq 21, 3) := by decide +kernel
theorem d_X7_digit_8 : decode mX7_digit.2.1 8 = .ok (.aload_n 0, 1) := by decide +kernel
theorem d_X7_digit_9 : decode mX7_digit.2.1 9 = .ok (.invokevirtual 246, 3) := by decide +kernel
theorem d_X7_digit_12 : decode mX7_digit.2.1 12 = .ok (.bipush 48, 2) := by decide +kernel
theorem d_X7_digit_14 : decode mX7_digit.2.1 14 = .ok (.bipush 57, 2) := by decide +kernel
theorem d_X7_digit_16 : decode mX7_digit.2.1 16 = .ok (.invokestatic 41, 3) := by decide +kernel
theorem d_X7_digit_19 : decode mX7_digit.2.1 19 = .ok (.ifCond .eq 7, 3) := by decide +kernel
theorem d_X7_digit_22 : decode mX7_digit.2.1 22 = .ok (.iconst 1, 1) := by decide +kernel
theorem d_X7_digit_23 : decode mX7_digit.2.1 23 = .ok (.goto 4, 3) := by decide +kernel
theorem d_X7_digit_26 : decode mX7_digit.2.1 26 = .ok (.iconst 0, 1) := by decide +kernel
theorem d_X7_digit_27 : decode mX7_digit.2.1 27 = .ok (.putfield 242, 3) := by decide +kernel
theorem d_X7_digit_30 : decode mX7_digit.2.1 30 = .ok (.aload_n 0, 1) := by decide +kernel
theorem d_X7_digit_31 : decode mX7_digit.2.1 31 = .ok (.getfield 242, 3) := by decide +kernel
theorem d_X7_digit_34 : decode mX7_digit.2.1 34 = .ok (.ifCond .ne 5, 3) := by decide +kernel
theorem d_X7_digit_37 : decode mX7_digit.2.1 37 = .ok (.iconst 0, 1) := by decide +kernel
theorem d_X7_digit_38 : decode mX7_digit.2.1 38 = .ok (.ireturn, 1) := by decide +kernel
theorem d_X7_digit_39 : decode mX7_digit.2.1 39 = .ok (.aload_n 0, 1) := by decide +kernel
theorem d_X7_digit_40 : decode mX7_digit.2.1 40 = .ok (.dup, 1) := by decide +kernel
theorem d_X7_digit_41 : decode mX7_digit.2.1 41 = .ok (.getfield 236, 3) := by decide +kernel
theorem d_X7_digit_44 : decode mX7_digit.2.1 44 = .ok (.iconst 1, 1) := by decide +kernel
theorem d_X7_digit_45 : decode mX7_digit.2.1 45 = .ok (.iadd, 1) := by decide +kernel
theorem d_X7_digit_46 : decode mX7_digit.2.1 46 = .ok (.putfield 236, 3) := by decide +kernel
theorem d_X7_digit_49 : decode mX7_digit.2.1 49 = .ok (.aload_n 0, 1) := by decide +kernel
theorem d_X7_digit_50 : decode mX7_digit.2.1 50 = .ok (.getfield 22, 3) := by decide +kernel
theorem d_X7_digit_53 : decode mX7_digit.2.1 53 = .ok (.aload_n 0, 1) := by decide +kernel
theorem d_X7_digit_54 : decode mX7_digit.2.1 54 = .ok (.getfield 236, 3) := by decide +kernel
theorem d_X7_digit_57 : decode mX7_digit.2.1 57 = .ok (.iconst 1, 1) := by decide +kernel
theorem d_X7_digit_58 : decode mX7_digit.2.1 58 = .ok (.isub, 1) := by decide +kernel
theorem d_X7_digit_59 : decode mX7_digit.2.1 59 = .ok (.iaload, 1) := by decide +kernel
theorem d_X7_digit_60 : decode mX7_digit.2.1 60 = .ok (.bipush 48, 2) := by decide +kernel
theorem d_X7_digit_62 : decode mX7_digit.2.1 62 = .ok (.isub, 1) := by decide +kernel
theorem d_X7_digit_63 : decode mX7_digit.2.1 63 = .ok (.ireturn, 1) := by decide +kernel
def T_X7_digit_27 (Q : Int32 → Mem → Prop) (v0 : Nat) (s0 : Int32) (s1 : Nat) (M : Mem) : Prop := (kd s1 = 7) ∧ (s0 = 0 ∨ s0 = 1) ∧ ∀ M3 : Mem, M3 = mset M s1 19 s0 → (kd v0 = 7) ∧ if (M3.1 v0 19) = 0 then (Q 0 M3) else (∀ M5 : Mem, M5 = mset M3 v0 17 ((M3.1 v0 17) + 1) → (kd (rf v0 7) = 9) ∧ (vp_in ((M5.1 v0 17) - 1) (ln (rf v0 7))) ∧ Q ((M5.1 (rf v0 7) (Int32.toNatClampNeg ((M5.1 v0 17) - 1))) - 48) M5)
set_option maxRecDepth 100000 in
set_option maxHeartbeats 4000000 in
theorem B_X7_digit_27 {g : GG} (Q : Int32 → Mem → Prop) (v0 : Nat) (s0 : Int32) (s1 : Nat) (M : Mem) (h : T_X7_digit_27 Q v0 s0 s1 M) : WP g 10 mX7_digit 27 [some (.ref (g.1 + v0))] [.int s0, .ref (g.1 + s1)] M 0 (oI Q noX) := by
  unfold T_X7_digit_27 at h
  obtain ⟨k1, h⟩ := h
  obtain ⟨k2, h⟩ := h
  refine R_putI (pc := 27) fld_RX7_242 rfl rfl rfl k1 (nar_z k2) (fit_z k2) d_X7_digit_27 (N_M (fun M3 eM3 => ?_))
  have h := h M3 eM3
  refine R_aload_n (pc := 30) d_X7_digit_30 rfl rfl ?_
  obtain ⟨k4, h⟩ := h
  refine R_getI (pc := 31) fld_RX7_242 rfl rfl k4 d_X7_digit_31 ?_
  refine R_if_ne (pc := 34) (tgt := 39) d_X7_digit_34 (by decide) (fun c => ?_) (fun c => ?_)
  · rw [if_neg c] at h
    refine R_aload_n (pc := 39) d_X7_digit_39 rfl rfl ?_
    refine R_dup (pc := 40) d_X7_digit_40 rfl ?_
    refine R_getI (pc := 41) fld_RX7_236 rfl rfl k4 d_X7_digit_41 ?_
    refine R_iconst (pc := 44) (v := 1) d_X7_digit_44 (by decide) ?_
    refine R_iadd (pc := 45) d_X7_digit_45 ?_
    refine R_putI (pc := 46) fld_RX7_236 rfl rfl rfl k4 rfl rfl d_X7_digit_46 (N_M (fun M5 eM5 => ?_))
    have h := h M5 eM5
    refine R_aload_n (pc := 49) d_X7_digit_49 rfl rfl ?_
    refine R_getR (pc := 50) fld_RX7_22 rfl rfl k4 d_X7_digit_50 ?_
    refine R_aload_n (pc := 53) d_X7_digit_53 rfl rfl ?_
    refine R_getI (pc := 54) fld_RX7_236 rfl rfl k4 d_X7_digit_54 ?_
    refine R_iconst (pc := 57) (v := 1) d_X7_digit_57 (by decide) ?_
    refine R_isub (pc := 58) d_X7_digit_58 ?_
    obtain ⟨k6, h⟩ := h
    obtain ⟨k7, h⟩ := h
    refine R_iald (pc := 59) k6 k7 d_X7_digit_59 ?_
    refine R_bipush (pc := 60) (v := 48) d_X7_digit_60 (by decide) ?_
    refine R_isub (pc := 62) d_X7_digit_62 ?_
    exact R_retv (pc := 63) d_X7_digit_63 h
  · rw [if_pos c] at h
    refine R_iconst (pc := 37) (v := 0) d_X7_digit_37 (by decide) ?_
    exact R_retv (pc := 38) d_X7_digit_38 h
def T_X7_digit_26 (Q : Int32 → Mem → Prop) (v0 : Nat) (s0 : Nat) (M : Mem) : Prop := T_X7_digit_27 Q v0 0 s0 M
set_option maxRecDepth 100000 in
set_option maxHeartbeats 4000000 in
theorem B_X7_digit_26 {g : GG} (Q : Int32 → Mem → Prop) (v0 : Nat) (s0 : Nat) (M : Mem) (h : T_X7_digit_26 Q v0 s0 M) : WP g 10 mX7_digit 26 [some (.ref (g.1 + v0))] [.ref (g.1 + s0)] M 0 (oI Q noX) := by
  unfold T_X7_digit_26 at h
  refine R_iconst (pc := 26) (v := 0) d_X7_digit_26 (by decide) ?_
  exact WP_sub (B_X7_digit_27 Q v0 0 s0 M h) (by decide) (ls_s ls_0)
def T_X7_digit (Q : Int32 → Mem → Prop) (v0 : Nat) (M : Mem) : Prop := (kd v0 = 7) ∧ if (M.1 v0 19) = 0 then (T_X7_digit_26 Q v0 v0 M) else (T_X7_here (fun y3 M2 => T_X7_in (fun y5 M4 => if y5 = 0 then (T_X7_digit_26 Q v0 v0 M4) else (T_X7_digit_27 Q v0 1 v0 M4))  y3 48 57 M2)  v0 M)
set_option maxRecDepth 100000 in
set_option maxHeartbeats 4000000 in
theorem c_X7_digit {g : GG} (v0 : Nat) (M : Mem) (Q : Int32 → Mem → Prop) (h : T_X7_digit Q v0 M) : CT g 10 mX7_digit [.ref (g.1 + v0)] M 0 (oI Q noX) := by
  refine CT_of (L := [some (.ref (g.1 + v0))]) (by decide) rfl (Nat.le_of_ble_eq_true rfl) (ro_I rfl) rfl ?_
  unfold T_X7_digit at h
  refine R_aload_n (pc := 0) d_X7_digit_0 rfl rfl ?_
  refine R_aload_n (pc := 1) d_X7_digit_1 rfl rfl ?_
  obtain ⟨k1, h⟩ := h
  refine R_getI (pc := 2) fld_RX7_242 rfl rfl k1 d_X7_digit_2 ?_
  refine R_if_eq (pc := 5) (tgt := 26) d_X7_digit_5 (by decide) (fun c => ?_) (fun c => ?_)
  · rw [if_pos c] at h
    exact WP_sub (B_X7_digit_26 Q v0 v0 M h) (by decide) (ls_s ls_0)
  · rw [if_neg c] at h
    refine R_aload_n (pc := 8) d_X7_digit_8 rfl rfl ?_
    refine R_callV (pc := 9) (As := []) (rest := [.ref (g.1 + v0)]) (c_X7_here (g := g) v0 M _ h) rfl rfl cal_RX7_246 ins_X7_here sel_X7_here (cls_at k1 clsOK7) (by decide) (by decide) rfl rfl (Nat.le_of_ble_eq_true rfl) d_X7_digit_9 (k_I (fun y3 M2 h => ?_)) (fun _ _ h9 => False.elim h9)
    try dsimp only at h
    refine R_bipush (pc := 12) (v := 48) d_X7_digit_12 (by decide) ?_
    refine R_bipush (pc := 14) (v := 57) d_X7_digit_14 (by decide) ?_
    refine R_callS (pc := 16) (As := [.int y3, .int 48, .int 57]) (rest := [.ref (g.1 + v0)]) (c_X7_in (g := g) y3 48 57 M2 _ h) rfl rfl cal_RX7_41 sta_X7_in (by decide) (by decide) rfl rfl (Nat.le_of_ble_eq_true rfl) d_X7_digit_16 (k_Z (fun y5 M4 h => ?_)) (fun _ _ h9 => False.elim h9)
    try dsimp only at h
    refine R_if_eq (pc := 19) (tgt := 26) d_X7_digit_19 (by decide) (fun c => ?_) (fun c => ?_)
    · rw [if_pos c] at h
      exact WP_sub (B_X7_digit_26 Q v0 v0 M4 h) (by decide) (ls_s ls_0)
    · rw [if_neg c] at h
      refine R_iconst (pc := 22) (v := 1) d_X7_digit_22 (by decide) ?_
      refine R_goto (pc := 23) (tgt := 27) d_X7_digit_23 (by decide) ?_
      exact WP_sub (B_X7_digit_27 Q v0 1 v0 M4 h) (by decide) (ls_s ls_0)
/-! X7_number -/
theorem d_X7_number_0 : decode mX7_number.2.1 0 = .ok (.aload_n 0, 1) := by decide +kernel
theorem d_X7_number_1 : decode mX7_number.2.1 1 = .ok (.invokevirtual 249, 3) := by decide +kernel
theorem d_X7_number_4 : decode mX7_number.2.1 4 = .ok (.istore_n 1, 1) := by decide +kernel
theorem d_X7_number_5 : decode mX7_number.2.1 5 = .ok (.aload_n 0, 1) := by decide +kernel
theorem d_X7_number_6 : decode mX7_number.2.1 6 = .ok (.getfield 242, 3) := by decide +kernel
theorem d_X7_number_9 : decode mX7_number.2.1 9 = .ok (.ifCond .eq 29, 3) := by decide +kernel
theorem d_X7_number_12 : decode mX7_number.2.1 12 = .ok (.aload_n 0, 1) := by decide +kernel
theorem d_X7_number_13 : decode mX7_number.2.1 13 = .ok (.invokevirtual 246, 3) := by decide +kernel
theorem d_X7_number_16 : decode mX7_number.2.1 16 = .ok (.bipush 48, 2) := by decide +kernel
theorem d_X7_number_18 : decode mX7_number.2.1 18 = .ok (.bipush 57, 2) := by decide +kernel
theorem d_X7_number_20 : decode mX7_number.2.1 20 = .ok (.invokestatic 41, 3) := by decide +kernel
theorem d_X7_number_23 : decode mX7_number.2.1 23 = .ok (.ifCond .eq 15, 3) := by decide +kernel
theorem d_X7_number_26 : decode mX7_number.2.1 26 = .ok (.bipush 10, 2) := by decide +kernel
theorem d_X7_number_28 : decode mX7_number.2.1 28 = .ok (.iload_n 1, 1) := by decide +kernel
theorem d_X7_number_29 : decode mX7_number.2.1 29 = .ok (.imul, 1) := by decide +kernel
theorem d_X7_number_30 : decode mX7_number.2.1 30 = .ok (.aload_n 0, 1) := by decide +kernel
theorem d_X7_number_31 : decode mX7_number.2.1 31 = .ok (.invokevirtual 249, 3) := by decide +kernel
theorem d_X7_number_34 : decode mX7_number.2.1 34 = .ok (.iadd, 1) := by decide +kernel
theorem d_X7_number_35 : decode mX7_number.2.1 35 = .ok (.goto 4, 3) := by decide +kernel
theorem d_X7_number_38 : decode mX7_number.2.1 38 = .ok (.iload_n 1, 1) := by decide +kernel
theorem d_X7_number_39 : decode mX7_number.2.1 39 = .ok (.ireturn, 1) := by decide +kernel
def T_X7_number_39 (Q : Int32 → Mem → Prop) (s0 : Int32) (M : Mem) : Prop := Q s0 M
set_option maxRecDepth 100000 in
set_option maxHeartbeats 4000000 in
theorem B_X7_number_39 {g : GG} (Q : Int32 → Mem → Prop) (s0 : Int32) (M : Mem) (h : T_X7_number_39 Q s0 M) : WP g 11 mX7_number 39 [none, none] [.int s0] M 0 (oI Q noX) := by
  unfold T_X7_number_39 at h
  exact R_retv (pc := 39) d_X7_number_39 h
def T_X7_number_38 (Q : Int32 → Mem → Prop) (v1 : Int32) (M : Mem) : Prop := T_X7_number_39 Q v1 M
set_option maxRecDepth 100000 in
set_option maxHeartbeats 4000000 in
theorem B_X7_number_38 {g : GG} (Q : Int32 → Mem → Prop) (v1 : Int32) (M : Mem) (h : T_X7_number_38 Q v1 M) : WP g 11 mX7_number 38 [none, some (.int v1)] [] M 0 (oI Q noX) := by
  unfold T_X7_number_38 at h
  refine R_iload_n (pc := 38) d_X7_number_38 rfl rfl ?_
  exact WP_sub (B_X7_number_39 Q v1 M h) (by decide) (ls_n (ls_n ls_0))
def T_X7_number (Q : Int32 → Mem → Prop) (v0 : Nat) (M : Mem) : Prop := (kd v0 = 7) ∧ T_X7_digit (fun y3 M2 => if (M2.1 v0 19) = 0 then (T_X7_number_38 Q y3 M2) else (T_X7_here (fun y5 M4 => T_X7_in (fun y7 M6 => if y7 = 0 then (T_X7_number_38 Q y3 M6) else (T_X7_digit (fun y9 M8 => T_X7_number_39 Q ((10 * y3) + y9) M8)  v0 M6))  y5 48 57 M4)  v0 M2))  v0 M
set_option maxRecDepth 100000 in
set_option maxHeartbeats 4000000 in
theorem c_X7_number {g : GG} (v0 : Nat) (M : Mem) (Q : Int32 → Mem → Prop) (h : T_X7_number Q v0 M) : CT g 11 mX7_number [.ref (g.1 + v0)] M 0 (oI Q noX) := by
  refine CT_of (L := [some (.ref (g.1 + v0)), none]) (by decide) rfl (Nat.le_of_ble_eq_true rfl) (ro_I rfl) rfl ?_
  unfold T_X7_number at h
  refine R_aload_n (pc := 0) d_X7_number_0 rfl rfl ?_
  obtain ⟨k1, h⟩ := h
  refine R_callV (pc := 1) (As := []) (rest := []) (c_X7_digit (g := g) v0 M _ h) rfl rfl cal_RX7_249 ins_X7_digit sel_X7_digit (cls_at k1 clsOK7) (by decide) (by decide) rfl rfl (Nat.le_of_ble_eq_true rfl) d_X7_number_1 (k_I (fun y3 M2 h => ?_)) (fun _ _ h9 => False.elim h9)
  try dsimp only at h
  refine R_istore_n (pc := 4) (L' := [some (.ref (g.1 + v0)), some (.int y3)]) d_X7_number_4 rfl (by decide) rfl ?_
  refine R_aload_n (pc := 5) d_X7_number_5 rfl rfl ?_
  refine R_getI (pc := 6) fld_RX7_242 rfl rfl k1 d_X7_number_6 ?_
  refine R_if_eq (pc := 9) (tgt := 38) d_X7_number_9 (by decide) (fun c => ?_) (fun c => ?_)
  · rw [if_pos c] at h
    exact WP_sub (B_X7_number_38 Q y3 M2 h) (by decide) (ls_n (ls_s ls_0))
  · rw [if_neg c] at h
    refine R_aload_n (pc := 12) d_X7_number_12 rfl rfl ?_
    refine R_callV (pc := 13) (As := []) (rest := []) (c_X7_here (g := g) v0 M2 _ h) rfl rfl cal_RX7_246 ins_X7_here sel_X7_here (cls_at k1 clsOK7) (by decide) (by decide) rfl rfl (Nat.le_of_ble_eq_true rfl) d_X7_number_13 (k_I (fun y5 M4 h => ?_)) (fun _ _ h9 => False.elim h9)
    try dsimp only at h
    refine R_bipush (pc := 16) (v := 48) d_X7_number_16 (by decide) ?_
    refine R_bipush (pc := 18) (v := 57) d_X7_number_18 (by decide) ?_
    refine R_callS (pc := 20) (As := [.int y5, .int 48, .int 57]) (rest := []) (c_X7_in (g := g) y5 48 57 M4 _ h) rfl rfl cal_RX7_41 sta_X7_in (by decide) (by decide) rfl rfl (Nat.le_of_ble_eq_true rfl) d_X7_number_20 (k_Z (fun y7 M6 h => ?_)) (fun _ _ h9 => False.elim h9)
    try dsimp only at h
    refine R_if_eq (pc := 23) (tgt := 38) d_X7_number_23 (by decide) (fun c => ?_) (fun c => ?_)
    · rw [if_pos c] at h
      exact WP_sub (B_X7_number_38 Q y3 M6 h) (by decide) (ls_n (ls_s ls_0))
    · rw [if_neg c] at h
      refine R_bipush (pc := 26) (v := 10) d_X7_number_26 (by decide) ?_
      refine R_iload_n (pc := 28) d_X7_number_28 rfl rfl ?_
      refine R_imul (pc := 29) d_X7_number_29 ?_
      refine R_aload_n (pc := 30) d_X7_number_30 rfl rfl ?_
      refine R_callV (pc := 31) (As := []) (rest := [.int (10 * y3)]) (c_X7_digit (g := g) v0 M6 _ h) rfl rfl cal_RX7_249 ins_X7_digit sel_X7_digit (cls_at k1 clsOK7) (by decide) (by decide) rfl rfl (Nat.le_of_ble_eq_true rfl) d_X7_number_31 (k_I (fun y9 M8 h => ?_)) (fun _ _ h9 => False.elim h9)
      try dsimp only at h
      refine R_iadd (pc := 34) d_X7_number_34 ?_
      refine R_goto (pc := 35) (tgt := 39) d_X7_number_35 (by decide) ?_
      exact WP_sub (B_X7_number_39 Q ((10 * y3) + y9) M8 h) (by decide) (ls_n (ls_n ls_0))
