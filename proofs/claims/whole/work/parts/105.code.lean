/-! X5_hasDigit -/
theorem d_X5_hasDigit_0 : decode mX5_hasDigit.2.1 0 = .ok (.aload_n 0, 1) := by decide +kernel
theorem d_X5_hasDigit_1 : decode mX5_hasDigit.2.1 1 = .ok (.getfield 19, 3) := by decide +kernel
theorem d_X5_hasDigit_4 : decode mX5_hasDigit.2.1 4 = .ok (.aload_n 0, 1) := by decide +kernel
theorem d_X5_hasDigit_5 : decode mX5_hasDigit.2.1 5 = .ok (.getfield 15, 3) := by decide +kernel
theorem d_X5_hasDigit_8 : decode mX5_hasDigit.2.1 8 = .ok (.if_icmp .ge 31, 3) := by decide +kernel
theorem d_X5_hasDigit_11 : decode mX5_hasDigit.2.1 11 = .ok (.aload_n 0, 1) := by decide +kernel
theorem d_X5_hasDigit_12 : decode mX5_hasDigit.2.1 12 = .ok (.getfield 9, 3) := by decide +kernel
theorem d_X5_hasDigit_15 : decode mX5_hasDigit.2.1 15 = .ok (.aload_n 0, 1) := by decide +kernel
theorem d_X5_hasDigit_16 : decode mX5_hasDigit.2.1 16 = .ok (.getfield 19, 3) := by decide +kernel
theorem d_X5_hasDigit_19 : decode mX5_hasDigit.2.1 19 = .ok (.caload, 1) := by decide +kernel
theorem d_X5_hasDigit_20 : decode mX5_hasDigit.2.1 20 = .ok (.bipush 48, 2) := by decide +kernel
theorem d_X5_hasDigit_22 : decode mX5_hasDigit.2.1 22 = .ok (.if_icmp .lt 17, 3) := by decide +kernel
theorem d_X5_hasDigit_25 : decode mX5_hasDigit.2.1 25 = .ok (.aload_n 0, 1) := by decide +kernel
theorem d_X5_hasDigit_26 : decode mX5_hasDigit.2.1 26 = .ok (.getfield 9, 3) := by decide +kernel
theorem d_X5_hasDigit_29 : decode mX5_hasDigit.2.1 29 = .ok (.aload_n 0, 1) := by decide +kernel
theorem d_X5_hasDigit_30 : decode mX5_hasDigit.2.1 30 = .ok (.getfield 19, 3) := by decide +kernel
theorem d_X5_hasDigit_33 : decode mX5_hasDigit.2.1 33 = .ok (.caload, 1) := by decide +kernel
theorem d_X5_hasDigit_34 : decode mX5_hasDigit.2.1 34 = .ok (.bipush 57, 2) := by decide +kernel
theorem d_X5_hasDigit_36 : decode mX5_hasDigit.2.1 36 = .ok (.if_icmp .le 5, 3) := by decide +kernel
theorem d_X5_hasDigit_39 : decode mX5_hasDigit.2.1 39 = .ok (.iconst 0, 1) := by decide +kernel
theorem d_X5_hasDigit_40 : decode mX5_hasDigit.2.1 40 = .ok (.ireturn, 1) := by decide +kernel
theorem d_X5_hasDigit_41 : decode mX5_hasDigit.2.1 41 = .ok (.aload_n 1, 1) := by decide +kernel
theorem d_X5_hasDigit_42 : decode mX5_hasDigit.2.1 42 = .ok (.iload_n 2, 1) := by decide +kernel
theorem d_X5_hasDigit_43 : decode mX5_hasDigit.2.1 43 = .ok (.aload_n 0, 1) := by decide +kernel
theorem d_X5_hasDigit_44 : decode mX5_hasDigit.2.1 44 = .ok (.getfield 9, 3) := by decide +kernel
theorem d_X5_hasDigit_47 : decode mX5_hasDigit.2.1 47 = .ok (.aload_n 0, 1) := by decide +kernel
theorem d_X5_hasDigit_48 : decode mX5_hasDigit.2.1 48 = .ok (.getfield 19, 3) := by decide +kernel
theorem d_X5_hasDigit_51 : decode mX5_hasDigit.2.1 51 = .ok (.caload, 1) := by decide +kernel
theorem d_X5_hasDigit_52 : decode mX5_hasDigit.2.1 52 = .ok (.bipush 48, 2) := by decide +kernel
theorem d_X5_hasDigit_54 : decode mX5_hasDigit.2.1 54 = .ok (.isub, 1) := by decide +kernel
theorem d_X5_hasDigit_55 : decode mX5_hasDigit.2.1 55 = .ok (.iastore, 1) := by decide +kernel
theorem d_X5_hasDigit_56 : decode mX5_hasDigit.2.1 56 = .ok (.aload_n 0, 1) := by decide +kernel
theorem d_X5_hasDigit_57 : decode mX5_hasDigit.2.1 57 = .ok (.dup, 1) := by decide +kernel
theorem d_X5_hasDigit_58 : decode mX5_hasDigit.2.1 58 = .ok (.getfield 19, 3) := by decide +kernel
theorem d_X5_hasDigit_61 : decode mX5_hasDigit.2.1 61 = .ok (.iconst 1, 1) := by decide +kernel
theorem d_X5_hasDigit_62 : decode mX5_hasDigit.2.1 62 = .ok (.iadd, 1) := by decide +kernel
theorem d_X5_hasDigit_63 : decode mX5_hasDigit.2.1 63 = .ok (.putfield 19, 3) := by decide +kernel
theorem d_X5_hasDigit_66 : decode mX5_hasDigit.2.1 66 = .ok (.iconst 1, 1) := by decide +kernel
theorem d_X5_hasDigit_67 : decode mX5_hasDigit.2.1 67 = .ok (.ireturn, 1) := by decide +kernel
def T_X5_hasDigit_39 (Q : Int32 → Mem → Prop) (M : Mem) : Prop := ((0 : Int32) = 0 ∨ (0 : Int32) = 1) ∧ Q 0 M
set_option maxRecDepth 100000 in
set_option maxHeartbeats 4000000 in
theorem B_X5_hasDigit_39 {g : GG} (Q : Int32 → Mem → Prop) (M : Mem) (h : T_X5_hasDigit_39 Q  M) : WP g 9 mX5_hasDigit 39 [none, none, none] [] M 0 (oZ Q noX) := by
  unfold T_X5_hasDigit_39 at h
  refine R_iconst (pc := 39) (v := 0) d_X5_hasDigit_39 (by decide) ?_
  exact R_retv (pc := 40) d_X5_hasDigit_40 h
def T_X5_hasDigit (Q : Int32 → Mem → Prop) (v0 : Nat) (v1 : Nat) (v2 : Int32) (M : Mem) : Prop := (kd v0 = 5) ∧ if (M.1 v0 1) ≤ (M.1 v0 2) then (T_X5_hasDigit_39 Q M) else ((kd (rf v0 0) = 8) ∧ (vp_in (M.1 v0 2) (ln (rf v0 0))) ∧ if (M.1 (rf v0 0) (Int32.toNatClampNeg (M.1 v0 2))) < (48 : Int32) then (T_X5_hasDigit_39 Q M) else (if (M.1 (rf v0 0) (Int32.toNatClampNeg (M.1 v0 2))) ≤ (57 : Int32) then ((kd v1 = 9) ∧ (vp_in v2 (ln v1)) ∧ ∀ M6 : Mem, M6 = mset M v1 (Int32.toNatClampNeg v2) ((M.1 (rf v0 0) (Int32.toNatClampNeg (M.1 v0 2))) - 48) → ∀ M7 : Mem, M7 = mset M6 v0 2 ((M6.1 v0 2) + 1) → ((1 : Int32) = 0 ∨ (1 : Int32) = 1) ∧ Q 1 M7) else (T_X5_hasDigit_39 Q M)))
set_option maxRecDepth 100000 in
set_option maxHeartbeats 4000000 in
theorem c_X5_hasDigit {g : GG} (v0 : Nat) (v1 : Nat) (v2 : Int32) (M : Mem) (Q : Int32 → Mem → Prop) (h : T_X5_hasDigit Q v0 v1 v2 M) : CT g 9 mX5_hasDigit [.ref (g.1 + v0), .ref (g.1 + v1), .int v2] M 0 (oZ Q noX) := by
  refine CT_of (L := [some (.ref (g.1 + v0)), some (.ref (g.1 + v1)), some (.int v2)]) (by decide) rfl (Nat.le_of_ble_eq_true rfl) (ro_Z rfl) rfl ?_
  unfold T_X5_hasDigit at h
  refine R_aload_n (pc := 0) d_X5_hasDigit_0 rfl rfl ?_
  obtain ⟨k1, h⟩ := h
  refine R_getI (pc := 1) fld_RX5_19 rfl rfl k1 d_X5_hasDigit_1 ?_
  refine R_aload_n (pc := 4) d_X5_hasDigit_4 rfl rfl ?_
  refine R_getI (pc := 5) fld_RX5_15 rfl rfl k1 d_X5_hasDigit_5 ?_
  refine R_icmp_ge (pc := 8) (tgt := 39) d_X5_hasDigit_8 (by decide) (fun c => ?_) (fun c => ?_)
  · rw [if_pos c] at h
    exact WP_sub (B_X5_hasDigit_39 Q M h) (by decide) (ls_n (ls_n (ls_n ls_0)))
  · rw [if_neg c] at h
    refine R_aload_n (pc := 11) d_X5_hasDigit_11 rfl rfl ?_
    refine R_getR (pc := 12) fld_RX5_9 rfl rfl k1 d_X5_hasDigit_12 ?_
    refine R_aload_n (pc := 15) d_X5_hasDigit_15 rfl rfl ?_
    refine R_getI (pc := 16) fld_RX5_19 rfl rfl k1 d_X5_hasDigit_16 ?_
    obtain ⟨k2, h⟩ := h
    obtain ⟨k3, h⟩ := h
    refine R_cald (pc := 19) k2 k3 d_X5_hasDigit_19 ?_
    refine R_bipush (pc := 20) (v := 48) d_X5_hasDigit_20 (by decide) ?_
    refine R_icmp_lt (pc := 22) (tgt := 39) d_X5_hasDigit_22 (by decide) (fun c => ?_) (fun c => ?_)
    · rw [if_pos c] at h
      exact WP_sub (B_X5_hasDigit_39 Q M h) (by decide) (ls_n (ls_n (ls_n ls_0)))
    · rw [if_neg c] at h
      refine R_aload_n (pc := 25) d_X5_hasDigit_25 rfl rfl ?_
      refine R_getR (pc := 26) fld_RX5_9 rfl rfl k1 d_X5_hasDigit_26 ?_
      refine R_aload_n (pc := 29) d_X5_hasDigit_29 rfl rfl ?_
      refine R_getI (pc := 30) fld_RX5_19 rfl rfl k1 d_X5_hasDigit_30 ?_
      refine R_cald (pc := 33) k2 k3 d_X5_hasDigit_33 ?_
      refine R_bipush (pc := 34) (v := 57) d_X5_hasDigit_34 (by decide) ?_
      refine R_icmp_le (pc := 36) (tgt := 41) d_X5_hasDigit_36 (by decide) (fun c => ?_) (fun c => ?_)
      · rw [if_pos c] at h
        refine R_aload_n (pc := 41) d_X5_hasDigit_41 rfl rfl ?_
        refine R_iload_n (pc := 42) d_X5_hasDigit_42 rfl rfl ?_
        refine R_aload_n (pc := 43) d_X5_hasDigit_43 rfl rfl ?_
        refine R_getR (pc := 44) fld_RX5_9 rfl rfl k1 d_X5_hasDigit_44 ?_
        refine R_aload_n (pc := 47) d_X5_hasDigit_47 rfl rfl ?_
        refine R_getI (pc := 48) fld_RX5_19 rfl rfl k1 d_X5_hasDigit_48 ?_
        refine R_cald (pc := 51) k2 k3 d_X5_hasDigit_51 ?_
        refine R_bipush (pc := 52) (v := 48) d_X5_hasDigit_52 (by decide) ?_
        refine R_isub (pc := 54) d_X5_hasDigit_54 ?_
        obtain ⟨k4, h⟩ := h
        obtain ⟨k5, h⟩ := h
        refine R_iast (pc := 55) k4 k5 d_X5_hasDigit_55 (N_M (fun M6 eM6 => ?_))
        have h := h M6 eM6
        refine R_aload_n (pc := 56) d_X5_hasDigit_56 rfl rfl ?_
        refine R_dup (pc := 57) d_X5_hasDigit_57 rfl ?_
        refine R_getI (pc := 58) fld_RX5_19 rfl rfl k1 d_X5_hasDigit_58 ?_
        refine R_iconst (pc := 61) (v := 1) d_X5_hasDigit_61 (by decide) ?_
        refine R_iadd (pc := 62) d_X5_hasDigit_62 ?_
        refine R_putI (pc := 63) fld_RX5_19 rfl rfl rfl k1 rfl rfl d_X5_hasDigit_63 (N_M (fun M7 eM7 => ?_))
        have h := h M7 eM7
        refine R_iconst (pc := 66) (v := 1) d_X5_hasDigit_66 (by decide) ?_
        exact R_retv (pc := 67) d_X5_hasDigit_67 h
      · rw [if_neg c] at h
        exact WP_sub (B_X5_hasDigit_39 Q M h) (by decide) (ls_n (ls_n (ls_n ls_0)))
/-! X6_isBelow -/
theorem d_X6_isBelow_0 : decode mX6_isBelow.2.1 0 = .ok (.iload_n 0, 1) := by decide +kernel
theorem d_X6_isBelow_1 : decode mX6_isBelow.2.1 1 = .ok (.ifCond .lt 12, 3) := by decide +kernel
theorem d_X6_isBelow_4 : decode mX6_isBelow.2.1 4 = .ok (.iload_n 0, 1) := by decide +kernel
theorem d_X6_isBelow_5 : decode mX6_isBelow.2.1 5 = .ok (.iload_n 1, 1) := by decide +kernel
theorem d_X6_isBelow_6 : decode mX6_isBelow.2.1 6 = .ok (.if_icmp .ge 7, 3) := by decide +kernel
theorem d_X6_isBelow_9 : decode mX6_isBelow.2.1 9 = .ok (.iconst 1, 1) := by decide +kernel
theorem d_X6_isBelow_10 : decode mX6_isBelow.2.1 10 = .ok (.goto 4, 3) := by decide +kernel
theorem d_X6_isBelow_13 : decode mX6_isBelow.2.1 13 = .ok (.iconst 0, 1) := by decide +kernel
theorem d_X6_isBelow_14 : decode mX6_isBelow.2.1 14 = .ok (.ireturn, 1) := by decide +kernel
def T_X6_isBelow_14 (Q : Int32 → Mem → Prop) (s0 : Int32) (M : Mem) : Prop := ((s0 : Int32) = 0 ∨ (s0 : Int32) = 1) ∧ Q s0 M
set_option maxRecDepth 100000 in
set_option maxHeartbeats 4000000 in
theorem B_X6_isBelow_14 {g : GG} (Q : Int32 → Mem → Prop) (s0 : Int32) (M : Mem) (h : T_X6_isBelow_14 Q s0 M) : WP g 9 mX6_isBelow 14 [none, none] [.int s0] M 0 (oZ Q noX) := by
  unfold T_X6_isBelow_14 at h
  exact R_retv (pc := 14) d_X6_isBelow_14 h
def T_X6_isBelow_13 (Q : Int32 → Mem → Prop) (M : Mem) : Prop := T_X6_isBelow_14 Q 0 M
set_option maxRecDepth 100000 in
set_option maxHeartbeats 4000000 in
theorem B_X6_isBelow_13 {g : GG} (Q : Int32 → Mem → Prop) (M : Mem) (h : T_X6_isBelow_13 Q  M) : WP g 9 mX6_isBelow 13 [none, none] [] M 0 (oZ Q noX) := by
  unfold T_X6_isBelow_13 at h
  refine R_iconst (pc := 13) (v := 0) d_X6_isBelow_13 (by decide) ?_
  exact WP_sub (B_X6_isBelow_14 Q 0 M h) (by decide) (ls_n (ls_n ls_0))
def T_X6_isBelow (Q : Int32 → Mem → Prop) (v0 : Int32) (v1 : Int32) (M : Mem) : Prop := if v0 < 0 then (T_X6_isBelow_13 Q M) else (if v1 ≤ v0 then (T_X6_isBelow_13 Q M) else (T_X6_isBelow_14 Q 1 M))
set_option maxRecDepth 100000 in
set_option maxHeartbeats 4000000 in
theorem c_X6_isBelow {g : GG} (v0 : Int32) (v1 : Int32) (M : Mem) (Q : Int32 → Mem → Prop) (h : T_X6_isBelow Q v0 v1 M) : CT g 9 mX6_isBelow [.int v0, .int v1] M 0 (oZ Q noX) := by
  refine CT_of (L := [some (.int v0), some (.int v1)]) (by decide) rfl (Nat.le_of_ble_eq_true rfl) (ro_Z rfl) rfl ?_
  unfold T_X6_isBelow at h
  refine R_iload_n (pc := 0) d_X6_isBelow_0 rfl rfl ?_
  refine R_if_lt (pc := 1) (tgt := 13) d_X6_isBelow_1 (by decide) (fun c => ?_) (fun c => ?_)
  · rw [if_pos c] at h
    exact WP_sub (B_X6_isBelow_13 Q M h) (by decide) (ls_n (ls_n ls_0))
  · rw [if_neg c] at h
    refine R_iload_n (pc := 4) d_X6_isBelow_4 rfl rfl ?_
    refine R_iload_n (pc := 5) d_X6_isBelow_5 rfl rfl ?_
    refine R_icmp_ge (pc := 6) (tgt := 13) d_X6_isBelow_6 (by decide) (fun c => ?_) (fun c => ?_)
    · rw [if_pos c] at h
      exact WP_sub (B_X6_isBelow_13 Q M h) (by decide) (ls_n (ls_n ls_0))
    · rw [if_neg c] at h
      refine R_iconst (pc := 9) (v := 1) d_X6_isBelow_9 (by decide) ?_
      refine R_goto (pc := 10) (tgt := 14) d_X6_isBelow_10 (by decide) ?_
      exact WP_sub (B_X6_isBelow_14 Q 1 M h) (by decide) (ls_n (ls_n ls_0))
/-! X5_hasVisitors -/
theorem d_X5_hasVisitors_0 : decode mX5_hasVisitors.2.1 0 = .ok (.iconst 0, 1) := by decide +kernel
theorem d_X5_hasVisitors_1 : decode mX5_hasVisitors.2.1 1 = .ok (.istore_n 2, 1) := by decide +kernel
theorem d_X5_hasVisitors_2 : decode mX5_hasVisitors.2.1 2 = .ok (.iconst 0, 1) := by decide +kernel
theorem d_X5_hasVisitors_3 : decode mX5_hasVisitors.2.1 3 = .ok (.istore_n 3, 1) := by decide +kernel
theorem d_X5_hasVisitors_4 : decode mX5_hasVisitors.2.1 4 = .ok (.iload_n 3, 1) := by decide +kernel
theorem d_X5_hasVisitors_5 : decode mX5_hasVisitors.2.1 5 = .ok (.iconst 3, 1) := by decide +kernel
theorem d_X5_hasVisitors_6 : decode mX5_hasVisitors.2.1 6 = .ok (.if_icmp .ge 73, 3) := by decide +kernel
theorem d_X5_hasVisitors_9 : decode mX5_hasVisitors.2.1 9 = .ok (.aload_n 0, 1) := by decide +kernel
theorem d_X5_hasVisitors_10 : decode mX5_hasVisitors.2.1 10 = .ok (.getfield 19, 3) := by decide +kernel
theorem d_X5_hasVisitors_13 : decode mX5_hasVisitors.2.1 13 = .ok (.aload_n 0, 1) := by decide +kernel
theorem d_X5_hasVisitors_14 : decode mX5_hasVisitors.2.1 14 = .ok (.getfield 15, 3) := by decide +kernel
theorem d_X5_hasVisitors_17 : decode mX5_hasVisitors.2.1 17 = .ok (.if_icmp .ge 62, 3) := by decide +kernel
theorem d_X5_hasVisitors_20 : decode mX5_hasVisitors.2.1 20 = .ok (.aload_n 0, 1) := by decide +kernel
theorem d_X5_hasVisitors_21 : decode mX5_hasVisitors.2.1 21 = .ok (.getfield 9, 3) := by decide +kernel
theorem d_X5_hasVisitors_24 : decode mX5_hasVisitors.2.1 24 = .ok (.aload_n 0, 1) := by decide +kernel
theorem d_X5_hasVisitors_25 : decode mX5_hasVisitors.2.1 25 = .ok (.getfield 19, 3) := by decide +kernel
theorem d_X5_hasVisitors_28 : decode mX5_hasVisitors.2.1 28 = .ok (.caload, 1) := by decide +kernel
theorem d_X5_hasVisitors_29 : decode mX5_hasVisitors.2.1 29 = .ok (.bipush 97, 2) := by decide +kernel
theorem d_X5_hasVisitors_31 : decode mX5_hasVisitors.2.1 31 = .ok (.isub, 1) := by decide +kernel
theorem d_X5_hasVisitors_32 : decode mX5_hasVisitors.2.1 32 = .ok (.istore 4, 2) := by decide +kernel
theorem d_X5_hasVisitors_34 : decode mX5_hasVisitors.2.1 34 = .ok (.iload 4, 2) := by decide +kernel
theorem d_X5_hasVisitors_36 : decode mX5_hasVisitors.2.1 36 = .ok (.bipush 12, 2) := by decide +kernel
theorem d_X5_hasVisitors_38 : decode mX5_hasVisitors.2.1 38 = .ok (.invokestatic 57, 3) := by decide +kernel
theorem d_X5_hasVisitors_41 : decode mX5_hasVisitors.2.1 41 = .ok (.ifCond .eq 38, 3) := by decide +kernel
theorem d_X5_hasVisitors_44 : decode mX5_hasVisitors.2.1 44 = .ok (.iload_n 2, 1) := by decide +kernel
theorem d_X5_hasVisitors_45 : decode mX5_hasVisitors.2.1 45 = .ok (.iload 4, 2) := by decide +kernel
theorem d_X5_hasVisitors_47 : decode mX5_hasVisitors.2.1 47 = .ok (.iushr, 1) := by decide +kernel
theorem d_X5_hasVisitors_48 : decode mX5_hasVisitors.2.1 48 = .ok (.iconst 1, 1) := by decide +kernel
theorem d_X5_hasVisitors_49 : decode mX5_hasVisitors.2.1 49 = .ok (.iand, 1) := by decide +kernel
theorem d_X5_hasVisitors_50 : decode mX5_hasVisitors.2.1 50 = .ok (.ifCond .eq 6, 3) := by decide +kernel
theorem d_X5_hasVisitors_53 : decode mX5_hasVisitors.2.1 53 = .ok (.goto 26, 3) := by decide +kernel
theorem d_X5_hasVisitors_56 : decode mX5_hasVisitors.2.1 56 = .ok (.iload_n 2, 1) := by decide +kernel
theorem d_X5_hasVisitors_57 : decode mX5_hasVisitors.2.1 57 = .ok (.iconst 1, 1) := by decide +kernel
theorem d_X5_hasVisitors_58 : decode mX5_hasVisitors.2.1 58 = .ok (.iload 4, 2) := by decide +kernel
theorem d_X5_hasVisitors_60 : decode mX5_hasVisitors.2.1 60 = .ok (.ishl, 1) := by decide +kernel
theorem d_X5_hasVisitors_61 : decode mX5_hasVisitors.2.1 61 = .ok (.ior, 1) := by decide +kernel
theorem d_X5_hasVisitors_62 : decode mX5_hasVisitors.2.1 62 = .ok (.istore_n 2, 1) := by decide +kernel
theorem d_X5_hasVisitors_63 : decode mX5_hasVisitors.2.1 63 = .ok (.aload_n 0, 1) := by decide +kernel
theorem d_X5_hasVisitors_64 : decode mX5_hasVisitors.2.1 64 = .ok (.dup, 1) := by decide +kernel
theorem d_X5_hasVisitors_65 : decode mX5_hasVisitors.2.1 65 = .ok (.getfield 19, 3) := by decide +kernel
theorem d_X5_hasVisitors_68 : decode mX5_hasVisitors.2.1 68 = .ok (.iconst 1, 1) := by decide +kernel
theorem d_X5_hasVisitors_69 : decode mX5_hasVisitors.2.1 69 = .ok (.iadd, 1) := by decide +kernel
theorem d_X5_hasVisitors_70 : decode mX5_hasVisitors.2.1 70 = .ok (.putfield 19, 3) := by decide +kernel
theorem d_X5_hasVisitors_73 : decode mX5_hasVisitors.2.1 73 = .ok (.iinc 3 1, 3) := by decide +kernel
theorem d_X5_hasVisitors_76 : decode mX5_hasVisitors.2.1 76 = .ok (.goto (-72), 3) := by decide +kernel
theorem d_X5_hasVisitors_79 : decode mX5_hasVisitors.2.1 79 = .ok (.aload_n 1, 1) := by decide +kernel
theorem d_X5_hasVisitors_80 : decode mX5_hasVisitors.2.1 80 = .ok (.iconst 2, 1) := by decide +kernel
theorem d_X5_hasVisitors_81 : decode mX5_hasVisitors.2.1 81 = .ok (.iload_n 2, 1) := by decide +kernel
theorem d_X5_hasVisitors_82 : decode mX5_hasVisitors.2.1 82 = .ok (.iastore, 1) := by decide +kernel
theorem d_X5_hasVisitors_83 : decode mX5_hasVisitors.2.1 83 = .ok (.iload_n 2, 1) := by decide +kernel
theorem d_X5_hasVisitors_84 : decode mX5_hasVisitors.2.1 84 = .ok (.ifCond .eq 7, 3) := by decide +kernel
theorem d_X5_hasVisitors_87 : decode mX5_hasVisitors.2.1 87 = .ok (.iconst 1, 1) := by decide +kernel
theorem d_X5_hasVisitors_88 : decode mX5_hasVisitors.2.1 88 = .ok (.goto 4, 3) := by decide +kernel
theorem d_X5_hasVisitors_91 : decode mX5_hasVisitors.2.1 91 = .ok (.iconst 0, 1) := by decide +kernel
theorem d_X5_hasVisitors_92 : decode mX5_hasVisitors.2.1 92 = .ok (.ireturn, 1) := by decide +kernel
def T_X5_hasVisitors_92 (Q : Int32 → Mem → Prop) (s0 : Int32) (M : Mem) : Prop := ((s0 : Int32) = 0 ∨ (s0 : Int32) = 1) ∧ Q s0 M
set_option maxRecDepth 100000 in
set_option maxHeartbeats 4000000 in
theorem B_X5_hasVisitors_92 {g : GG} (Q : Int32 → Mem → Prop) (s0 : Int32) (M : Mem) (h : T_X5_hasVisitors_92 Q s0 M) : WP g 10 mX5_hasVisitors 92 [none, none, none, none, none] [.int s0] M 0 (oZ Q noX) := by
  unfold T_X5_hasVisitors_92 at h
  exact R_retv (pc := 92) d_X5_hasVisitors_92 h
def T_X5_hasVisitors_79 (Q : Int32 → Mem → Prop) (v1 : Nat) (v2 : Int32) (M : Mem) : Prop := (kd v1 = 9) ∧ (vp_in 2 (ln v1)) ∧ ∀ M3 : Mem, M3 = mset M v1 (Int32.toNatClampNeg 2) v2 → if v2 = 0 then (T_X5_hasVisitors_92 Q 0 M3) else (T_X5_hasVisitors_92 Q 1 M3)
set_option maxRecDepth 100000 in
set_option maxHeartbeats 4000000 in
theorem B_X5_hasVisitors_79 {g : GG} (Q : Int32 → Mem → Prop) (v1 : Nat) (v2 : Int32) (M : Mem) (h : T_X5_hasVisitors_79 Q v1 v2 M) : WP g 10 mX5_hasVisitors 79 [none, some (.ref (g.1 + v1)), some (.int v2), none, none] [] M 0 (oZ Q noX) := by
  unfold T_X5_hasVisitors_79 at h
  refine R_aload_n (pc := 79) d_X5_hasVisitors_79 rfl rfl ?_
  refine R_iconst (pc := 80) (v := 2) d_X5_hasVisitors_80 (by decide) ?_
  refine R_iload_n (pc := 81) d_X5_hasVisitors_81 rfl rfl ?_
  obtain ⟨k1, h⟩ := h
  obtain ⟨k2, h⟩ := h
  refine R_iast (pc := 82) k1 k2 d_X5_hasVisitors_82 (N_M (fun M3 eM3 => ?_))
  have h := h M3 eM3
  refine R_iload_n (pc := 83) d_X5_hasVisitors_83 rfl rfl ?_
  refine R_if_eq (pc := 84) (tgt := 91) d_X5_hasVisitors_84 (by decide) (fun c => ?_) (fun c => ?_)
  · rw [if_pos c] at h
    refine R_iconst (pc := 91) (v := 0) d_X5_hasVisitors_91 (by decide) ?_
    exact WP_sub (B_X5_hasVisitors_92 Q 0 M3 h) (by decide) (ls_n (ls_n (ls_n (ls_n (ls_n ls_0)))))
  · rw [if_neg c] at h
    refine R_iconst (pc := 87) (v := 1) d_X5_hasVisitors_87 (by decide) ?_
    refine R_goto (pc := 88) (tgt := 92) d_X5_hasVisitors_88 (by decide) ?_
    exact WP_sub (B_X5_hasVisitors_92 Q 1 M3 h) (by decide) (ls_n (ls_n (ls_n (ls_n (ls_n ls_0)))))
def T_X5_hasVisitors_4 (Q : Int32 → Mem → Prop) : Nat → Nat → Nat → Int32 → Int32 → Mem → Prop
  | 0, _, _, _, _, _ => False
  | n + 1, v0, v1, v2, v3, M => if (3 : Int32) ≤ v3 then (T_X5_hasVisitors_79 Q v1 v2 M) else ((kd v0 = 5) ∧ if (M.1 v0 1) ≤ (M.1 v0 2) then (T_X5_hasVisitors_79 Q v1 v2 M) else ((kd (rf v0 0) = 8) ∧ (vp_in (M.1 v0 2) (ln (rf v0 0))) ∧ ∀ x4 : Int32, x4 = (M.1 (rf v0 0) (Int32.toNatClampNeg (M.1 v0 2))) - 97 → T_X6_isBelow (fun y6 M5 => if y6 = 0 then (T_X5_hasVisitors_79 Q v1 v2 M5) else (if (((Int32.toUInt32 v2 >>> (Int32.toUInt32 x4 &&& Int32.toUInt32 31)).toInt32) &&& 1) = 0 then (∀ x7 : Int32, x7 = v2 ||| (1 <<< (x4 &&& 31)) → ∀ M8 : Mem, M8 = mset M5 v0 2 ((M5.1 v0 2) + 1) → ∀ x9 : Int32, x9 = v3 + 1 → (T_X5_hasVisitors_4 Q n) v0 v1 x7 x9 M8) else (T_X5_hasVisitors_79 Q v1 v2 M5)))  x4 12 M))
set_option maxRecDepth 100000 in
set_option maxHeartbeats 4000000 in
theorem B_X5_hasVisitors_4 {g : GG} (Q : Int32 → Mem → Prop) : ∀ (n : Nat) (v0 : Nat) (v1 : Nat) (v2 : Int32) (v3 : Int32) (M : Mem), T_X5_hasVisitors_4 Q n v0 v1 v2 v3 M → WP g 10 mX5_hasVisitors 4 [some (.ref (g.1 + v0)), some (.ref (g.1 + v1)), some (.int v2), some (.int v3), none] [] M 0 (oZ Q noX) := by
  intro n
  induction n with
  | zero => intro v0 v1 v2 v3 M h; exact h.elim
  | succ n hκ4 =>
    intro v0 v1 v2 v3 M h
    unfold T_X5_hasVisitors_4 at h
    refine R_iload_n (pc := 4) d_X5_hasVisitors_4 rfl rfl ?_
    refine R_iconst (pc := 5) (v := 3) d_X5_hasVisitors_5 (by decide) ?_
    refine R_icmp_ge (pc := 6) (tgt := 79) d_X5_hasVisitors_6 (by decide) (fun c => ?_) (fun c => ?_)
    · rw [if_pos c] at h
      exact WP_sub (B_X5_hasVisitors_79 Q v1 v2 M h) (by decide) (ls_n (ls_s (ls_s (ls_n (ls_n ls_0)))))
    · rw [if_neg c] at h
      refine R_aload_n (pc := 9) d_X5_hasVisitors_9 rfl rfl ?_
      obtain ⟨k1, h⟩ := h
      refine R_getI (pc := 10) fld_RX5_19 rfl rfl k1 d_X5_hasVisitors_10 ?_
      refine R_aload_n (pc := 13) d_X5_hasVisitors_13 rfl rfl ?_
      refine R_getI (pc := 14) fld_RX5_15 rfl rfl k1 d_X5_hasVisitors_14 ?_
      refine R_icmp_ge (pc := 17) (tgt := 79) d_X5_hasVisitors_17 (by decide) (fun c => ?_) (fun c => ?_)
      · rw [if_pos c] at h
        exact WP_sub (B_X5_hasVisitors_79 Q v1 v2 M h) (by decide) (ls_n (ls_s (ls_s (ls_n (ls_n ls_0)))))
      · rw [if_neg c] at h
        refine R_aload_n (pc := 20) d_X5_hasVisitors_20 rfl rfl ?_
        refine R_getR (pc := 21) fld_RX5_9 rfl rfl k1 d_X5_hasVisitors_21 ?_
        refine R_aload_n (pc := 24) d_X5_hasVisitors_24 rfl rfl ?_
        refine R_getI (pc := 25) fld_RX5_19 rfl rfl k1 d_X5_hasVisitors_25 ?_
        obtain ⟨k2, h⟩ := h
        obtain ⟨k3, h⟩ := h
        refine R_cald (pc := 28) k2 k3 d_X5_hasVisitors_28 ?_
        refine R_bipush (pc := 29) (v := 97) d_X5_hasVisitors_29 (by decide) ?_
        refine R_isub (pc := 31) d_X5_hasVisitors_31 ?_
        refine N_i (fun x4 ex4 => ?_)
        have h := h x4 ex4
        refine R_istore (pc := 32) (L' := [some (.ref (g.1 + v0)), some (.ref (g.1 + v1)), some (.int v2), some (.int v3), some (.int x4)]) d_X5_hasVisitors_32 (by decide) rfl ?_
        refine R_iload (pc := 34) d_X5_hasVisitors_34 rfl ?_
        refine R_bipush (pc := 36) (v := 12) d_X5_hasVisitors_36 (by decide) ?_
        refine R_callN (pc := 38) (As := [.int x4, .int 12]) (rest := []) (c_X6_isBelow (g := g) x4 12 M _ h) (fun _ _ h9 => h9) rfl rfl rfl (by decide) (aw_t 259 (by decide +kernel) (by decide +kernel)) (aw_t 1 (by decide +kernel) (by decide +kernel)) ⟨by decide, by decide⟩ (Eq.trans (b := some 2) (by decide +kernel) rfl) sta_X6_isBelow (by decide) rfl rfl (Nat.le_of_ble_eq_true rfl) d_X5_hasVisitors_38 (k_Z (fun y6 M5 h => ?_))
        try dsimp only at h
        refine R_if_eq (pc := 41) (tgt := 79) d_X5_hasVisitors_41 (by decide) (fun c => ?_) (fun c => ?_)
        · rw [if_pos c] at h
          exact WP_sub (B_X5_hasVisitors_79 Q v1 v2 M5 h) (by decide) (ls_n (ls_s (ls_s (ls_n (ls_n ls_0)))))
        · rw [if_neg c] at h
          refine R_iload_n (pc := 44) d_X5_hasVisitors_44 rfl rfl ?_
          refine R_iload (pc := 45) d_X5_hasVisitors_45 rfl ?_
          refine R_iushr (pc := 47) d_X5_hasVisitors_47 ?_
          refine R_iconst (pc := 48) (v := 1) d_X5_hasVisitors_48 (by decide) ?_
          refine R_iand (pc := 49) d_X5_hasVisitors_49 ?_
          refine R_if_eq (pc := 50) (tgt := 56) d_X5_hasVisitors_50 (by decide) (fun c => ?_) (fun c => ?_)
          · rw [if_pos c] at h
            refine R_iload_n (pc := 56) d_X5_hasVisitors_56 rfl rfl ?_
            refine R_iconst (pc := 57) (v := 1) d_X5_hasVisitors_57 (by decide) ?_
            refine R_iload (pc := 58) d_X5_hasVisitors_58 rfl ?_
            refine R_ishl (pc := 60) d_X5_hasVisitors_60 ?_
            refine R_ior (pc := 61) d_X5_hasVisitors_61 ?_
            refine N_i (fun x7 ex7 => ?_)
            have h := h x7 ex7
            refine R_istore_n (pc := 62) (L' := [some (.ref (g.1 + v0)), some (.ref (g.1 + v1)), some (.int x7), some (.int v3), some (.int x4)]) d_X5_hasVisitors_62 rfl (by decide) rfl ?_
            refine R_aload_n (pc := 63) d_X5_hasVisitors_63 rfl rfl ?_
            refine R_dup (pc := 64) d_X5_hasVisitors_64 rfl ?_
            refine R_getI (pc := 65) fld_RX5_19 rfl rfl k1 d_X5_hasVisitors_65 ?_
            refine R_iconst (pc := 68) (v := 1) d_X5_hasVisitors_68 (by decide) ?_
            refine R_iadd (pc := 69) d_X5_hasVisitors_69 ?_
            refine R_putI (pc := 70) fld_RX5_19 rfl rfl rfl k1 rfl rfl d_X5_hasVisitors_70 (N_M (fun M8 eM8 => ?_))
            have h := h M8 eM8
            obtain ⟨x9, ex9⟩ : ∃ z : Int32, z = v3 + 1 := ⟨_, rfl⟩
            have h := h x9 ex9
            refine R_iinc (pc := 73) (v := x9) (L' := [some (.ref (g.1 + v0)), some (.ref (g.1 + v1)), some (.int x7), some (.int x9), some (.int x4)]) d_X5_hasVisitors_73 rfl (by rw [ex9]; rfl) (by decide) rfl ?_
            refine R_goto (pc := 76) (tgt := 4) d_X5_hasVisitors_76 (by decide) ?_
            exact WP_sub (hκ4 v0 v1 x7 x9 M8 h) (by decide) (ls_s (ls_s (ls_s (ls_s (ls_n ls_0)))))
          · rw [if_neg c] at h
            refine R_goto (pc := 53) (tgt := 79) d_X5_hasVisitors_53 (by decide) ?_
            exact WP_sub (B_X5_hasVisitors_79 Q v1 v2 M5 h) (by decide) (ls_n (ls_s (ls_s (ls_n (ls_n ls_0)))))
def T_X5_hasVisitors (Q : Int32 → Mem → Prop) (v0 : Nat) (v1 : Nat) (M : Mem) : Prop := (∃ N : Nat, T_X5_hasVisitors_4 Q N v0 v1 0 0 M)
set_option maxRecDepth 100000 in
set_option maxHeartbeats 4000000 in
theorem c_X5_hasVisitors {g : GG} (v0 : Nat) (v1 : Nat) (M : Mem) (Q : Int32 → Mem → Prop) (h : T_X5_hasVisitors Q v0 v1 M) : CT g 10 mX5_hasVisitors [.ref (g.1 + v0), .ref (g.1 + v1)] M 0 (oZ Q noX) := by
  refine CT_of (L := [some (.ref (g.1 + v0)), some (.ref (g.1 + v1)), none, none, none]) (by decide) rfl (Nat.le_of_ble_eq_true rfl) (ro_Z rfl) rfl ?_
  unfold T_X5_hasVisitors at h
  refine R_iconst (pc := 0) (v := 0) d_X5_hasVisitors_0 (by decide) ?_
  refine R_istore_n (pc := 1) (L' := [some (.ref (g.1 + v0)), some (.ref (g.1 + v1)), some (.int 0), none, none]) d_X5_hasVisitors_1 rfl (by decide) rfl ?_
  refine R_iconst (pc := 2) (v := 0) d_X5_hasVisitors_2 (by decide) ?_
  refine R_istore_n (pc := 3) (L' := [some (.ref (g.1 + v0)), some (.ref (g.1 + v1)), some (.int 0), some (.int 0), none]) d_X5_hasVisitors_3 rfl (by decide) rfl ?_
  obtain ⟨N, h⟩ := h
  exact WP_sub (B_X5_hasVisitors_4 Q N v0 v1 0 0 M h) (by decide) (ls_s (ls_s (ls_s (ls_s (ls_n ls_0)))))
/-! X5_hasNumber -/
theorem d_X5_hasNumber_0 : decode mX5_hasNumber.2.1 0 = .ok (.aload_n 0, 1) := by decide +kernel
theorem d_X5_hasNumber_1 : decode mX5_hasNumber.2.1 1 = .ok (.aload_n 1, 1) := by decide +kernel
theorem d_X5_hasNumber_2 : decode mX5_hasNumber.2.1 2 = .ok (.iload_n 2, 1) := by decide +kernel
theorem d_X5_hasNumber_3 : decode mX5_hasNumber.2.1 3 = .ok (.invokevirtual 46, 3) := by decide +kernel
theorem d_X5_hasNumber_6 : decode mX5_hasNumber.2.1 6 = .ok (.ifCond .ne 5, 3) := by decide +kernel
theorem d_X5_hasNumber_9 : decode mX5_hasNumber.2.1 9 = .ok (.iconst 0, 1) := by decide +kernel
theorem d_X5_hasNumber_10 : decode mX5_hasNumber.2.1 10 = .ok (.ireturn, 1) := by decide +kernel
theorem d_X5_hasNumber_11 : decode mX5_hasNumber.2.1 11 = .ok (.aload_n 1, 1) := by decide +kernel
theorem d_X5_hasNumber_12 : decode mX5_hasNumber.2.1 12 = .ok (.iload_n 2, 1) := by decide +kernel
theorem d_X5_hasNumber_13 : decode mX5_hasNumber.2.1 13 = .ok (.iaload, 1) := by decide +kernel
theorem d_X5_hasNumber_14 : decode mX5_hasNumber.2.1 14 = .ok (.istore_n 3, 1) := by decide +kernel
theorem d_X5_hasNumber_15 : decode mX5_hasNumber.2.1 15 = .ok (.aload_n 0, 1) := by decide +kernel
theorem d_X5_hasNumber_16 : decode mX5_hasNumber.2.1 16 = .ok (.aload_n 1, 1) := by decide +kernel
theorem d_X5_hasNumber_17 : decode mX5_hasNumber.2.1 17 = .ok (.iload_n 2, 1) := by decide +kernel
theorem d_X5_hasNumber_18 : decode mX5_hasNumber.2.1 18 = .ok (.invokevirtual 46, 3) := by decide +kernel
theorem d_X5_hasNumber_21 : decode mX5_hasNumber.2.1 21 = .ok (.ifCond .eq 13, 3) := by decide +kernel
theorem d_X5_hasNumber_24 : decode mX5_hasNumber.2.1 24 = .ok (.aload_n 1, 1) := by decide +kernel
theorem d_X5_hasNumber_25 : decode mX5_hasNumber.2.1 25 = .ok (.iload_n 2, 1) := by decide +kernel
theorem d_X5_hasNumber_26 : decode mX5_hasNumber.2.1 26 = .ok (.dup2, 1) := by decide +kernel
theorem d_X5_hasNumber_27 : decode mX5_hasNumber.2.1 27 = .ok (.iaload, 1) := by decide +kernel
theorem d_X5_hasNumber_28 : decode mX5_hasNumber.2.1 28 = .ok (.iload_n 3, 1) := by decide +kernel
theorem d_X5_hasNumber_29 : decode mX5_hasNumber.2.1 29 = .ok (.bipush 10, 2) := by decide +kernel
theorem d_X5_hasNumber_31 : decode mX5_hasNumber.2.1 31 = .ok (.imul, 1) := by decide +kernel
theorem d_X5_hasNumber_32 : decode mX5_hasNumber.2.1 32 = .ok (.iadd, 1) := by decide +kernel
theorem d_X5_hasNumber_33 : decode mX5_hasNumber.2.1 33 = .ok (.iastore, 1) := by decide +kernel
theorem d_X5_hasNumber_34 : decode mX5_hasNumber.2.1 34 = .ok (.iconst 1, 1) := by decide +kernel
theorem d_X5_hasNumber_35 : decode mX5_hasNumber.2.1 35 = .ok (.ireturn, 1) := by decide +kernel
def T_X5_hasNumber_34 (Q : Int32 → Mem → Prop) (M : Mem) : Prop := ((1 : Int32) = 0 ∨ (1 : Int32) = 1) ∧ Q 1 M
set_option maxRecDepth 100000 in
set_option maxHeartbeats 4000000 in
theorem B_X5_hasNumber_34 {g : GG} (Q : Int32 → Mem → Prop) (M : Mem) (h : T_X5_hasNumber_34 Q  M) : WP g 10 mX5_hasNumber 34 [none, none, none, none] [] M 0 (oZ Q noX) := by
  unfold T_X5_hasNumber_34 at h
  refine R_iconst (pc := 34) (v := 1) d_X5_hasNumber_34 (by decide) ?_
  exact R_retv (pc := 35) d_X5_hasNumber_35 h
def T_X5_hasNumber (Q : Int32 → Mem → Prop) (v0 : Nat) (v1 : Nat) (v2 : Int32) (M : Mem) : Prop := (kd v0 = 5) ∧ T_X5_hasDigit (fun y3 M2 => if y3 = 0 then (((0 : Int32) = 0 ∨ (0 : Int32) = 1) ∧ Q 0 M2) else ((kd v1 = 9) ∧ (vp_in v2 (ln v1)) ∧ ∀ x6 : Int32, x6 = M2.1 v1 (Int32.toNatClampNeg v2) → T_X5_hasDigit (fun y8 M7 => if y8 = 0 then (T_X5_hasNumber_34 Q M7) else (∀ M9 : Mem, M9 = mset M7 v1 (Int32.toNatClampNeg v2) ((M7.1 v1 (Int32.toNatClampNeg v2)) + (x6 * 10)) → T_X5_hasNumber_34 Q M9))  v0 v1 v2 M2))  v0 v1 v2 M
set_option maxRecDepth 100000 in
set_option maxHeartbeats 4000000 in
theorem c_X5_hasNumber {g : GG} (v0 : Nat) (v1 : Nat) (v2 : Int32) (M : Mem) (Q : Int32 → Mem → Prop) (h : T_X5_hasNumber Q v0 v1 v2 M) : CT g 10 mX5_hasNumber [.ref (g.1 + v0), .ref (g.1 + v1), .int v2] M 0 (oZ Q noX) := by
  refine CT_of (L := [some (.ref (g.1 + v0)), some (.ref (g.1 + v1)), some (.int v2), none]) (by decide) rfl (Nat.le_of_ble_eq_true rfl) (ro_Z rfl) rfl ?_
  unfold T_X5_hasNumber at h
  refine R_aload_n (pc := 0) d_X5_hasNumber_0 rfl rfl ?_
  refine R_aload_n (pc := 1) d_X5_hasNumber_1 rfl rfl ?_
  refine R_iload_n (pc := 2) d_X5_hasNumber_2 rfl rfl ?_
  obtain ⟨k1, h⟩ := h
  refine R_callV (pc := 3) (As := [.ref (g.1 + v1), .int v2]) (rest := []) (c_X5_hasDigit (g := g) v0 v1 v2 M _ h) rfl rfl cal_RX5_46 ins_X5_hasDigit sel_X5_hasDigit (cls_at k1 clsOK5) (by decide) (by decide) rfl rfl (Nat.le_of_ble_eq_true rfl) d_X5_hasNumber_3 (k_Z (fun y3 M2 h => ?_)) (fun _ _ h9 => False.elim h9)
  try dsimp only at h
  refine R_if_ne (pc := 6) (tgt := 11) d_X5_hasNumber_6 (by decide) (fun c => ?_) (fun c => ?_)
  · rw [if_neg c] at h
    refine R_aload_n (pc := 11) d_X5_hasNumber_11 rfl rfl ?_
    refine R_iload_n (pc := 12) d_X5_hasNumber_12 rfl rfl ?_
    obtain ⟨k4, h⟩ := h
    obtain ⟨k5, h⟩ := h
    refine R_iald (pc := 13) k4 k5 d_X5_hasNumber_13 ?_
    refine N_i (fun x6 ex6 => ?_)
    have h := h x6 ex6
    refine R_istore_n (pc := 14) (L' := [some (.ref (g.1 + v0)), some (.ref (g.1 + v1)), some (.int v2), some (.int x6)]) d_X5_hasNumber_14 rfl (by decide) rfl ?_
    refine R_aload_n (pc := 15) d_X5_hasNumber_15 rfl rfl ?_
    refine R_aload_n (pc := 16) d_X5_hasNumber_16 rfl rfl ?_
    refine R_iload_n (pc := 17) d_X5_hasNumber_17 rfl rfl ?_
    refine R_callV (pc := 18) (As := [.ref (g.1 + v1), .int v2]) (rest := []) (c_X5_hasDigit (g := g) v0 v1 v2 M2 _ h) rfl rfl cal_RX5_46 ins_X5_hasDigit sel_X5_hasDigit (cls_at k1 clsOK5) (by decide) (by decide) rfl rfl (Nat.le_of_ble_eq_true rfl) d_X5_hasNumber_18 (k_Z (fun y8 M7 h => ?_)) (fun _ _ h9 => False.elim h9)
    try dsimp only at h
    refine R_if_eq (pc := 21) (tgt := 34) d_X5_hasNumber_21 (by decide) (fun c => ?_) (fun c => ?_)
    · rw [if_pos c] at h
      exact WP_sub (B_X5_hasNumber_34 Q M7 h) (by decide) (ls_n (ls_n (ls_n (ls_n ls_0))))
    · rw [if_neg c] at h
      refine R_aload_n (pc := 24) d_X5_hasNumber_24 rfl rfl ?_
      refine R_iload_n (pc := 25) d_X5_hasNumber_25 rfl rfl ?_
      refine R_dup2 (pc := 26) d_X5_hasNumber_26 rfl rfl ?_
      refine R_iald (pc := 27) k4 k5 d_X5_hasNumber_27 ?_
      refine R_iload_n (pc := 28) d_X5_hasNumber_28 rfl rfl ?_
      refine R_bipush (pc := 29) (v := 10) d_X5_hasNumber_29 (by decide) ?_
      refine R_imul (pc := 31) d_X5_hasNumber_31 ?_
      refine R_iadd (pc := 32) d_X5_hasNumber_32 ?_
      refine R_iast (pc := 33) k4 k5 d_X5_hasNumber_33 (N_M (fun M9 eM9 => ?_))
      have h := h M9 eM9
      exact WP_sub (B_X5_hasNumber_34 Q M9 h) (by decide) (ls_n (ls_n (ls_n (ls_n ls_0))))
  · rw [if_pos c] at h
    refine R_iconst (pc := 9) (v := 0) d_X5_hasNumber_9 (by decide) ?_
    exact R_retv (pc := 10) d_X5_hasNumber_10 h
/-! X5_hasCommand -/
theorem d_X5_hasCommand_0 : decode mX5_hasCommand.2.1 0 = .ok (.aload_n 0, 1) := by decide +kernel
theorem d_X5_hasCommand_1 : decode mX5_hasCommand.2.1 1 = .ok (.getfield 27, 3) := by decide +kernel
theorem d_X5_hasCommand_4 : decode mX5_hasCommand.2.1 4 = .ok (.invokevirtual 42, 3) := by decide +kernel
theorem d_X5_hasCommand_7 : decode mX5_hasCommand.2.1 7 = .ok (.astore_n 1, 1) := by decide +kernel
theorem d_X5_hasCommand_8 : decode mX5_hasCommand.2.1 8 = .ok (.aload_n 0, 1) := by decide +kernel
theorem d_X5_hasCommand_9 : decode mX5_hasCommand.2.1 9 = .ok (.bipush 98, 2) := by decide +kernel
theorem d_X5_hasCommand_11 : decode mX5_hasCommand.2.1 11 = .ok (.invokevirtual 38, 3) := by decide +kernel
theorem d_X5_hasCommand_14 : decode mX5_hasCommand.2.1 14 = .ok (.ifCond .eq 76, 3) := by decide +kernel
theorem d_X5_hasCommand_17 : decode mX5_hasCommand.2.1 17 = .ok (.aload_n 1, 1) := by decide +kernel
theorem d_X5_hasCommand_18 : decode mX5_hasCommand.2.1 18 = .ok (.iconst 0, 1) := by decide +kernel
theorem d_X5_hasCommand_19 : decode mX5_hasCommand.2.1 19 = .ok (.bipush 98, 2) := by decide +kernel
theorem d_X5_hasCommand_21 : decode mX5_hasCommand.2.1 21 = .ok (.iastore, 1) := by decide +kernel
theorem d_X5_hasCommand_22 : decode mX5_hasCommand.2.1 22 = .ok (.aload_n 0, 1) := by decide +kernel
theorem d_X5_hasCommand_23 : decode mX5_hasCommand.2.1 23 = .ok (.aload_n 1, 1) := by decide +kernel
theorem d_X5_hasCommand_24 : decode mX5_hasCommand.2.1 24 = .ok (.iconst 1, 1) := by decide +kernel
theorem d_X5_hasCommand_25 : decode mX5_hasCommand.2.1 25 = .ok (.invokevirtual 46, 3) := by decide +kernel
theorem d_X5_hasCommand_28 : decode mX5_hasCommand.2.1 28 = .ok (.ifCond .eq 60, 3) := by decide +kernel
theorem d_X5_hasCommand_31 : decode mX5_hasCommand.2.1 31 = .ok (.aload_n 0, 1) := by decide +kernel
theorem d_X5_hasCommand_32 : decode mX5_hasCommand.2.1 32 = .ok (.bipush 58, 2) := by decide +kernel
theorem d_X5_hasCommand_34 : decode mX5_hasCommand.2.1 34 = .ok (.invokevirtual 38, 3) := by decide +kernel
theorem d_X5_hasCommand_37 : decode mX5_hasCommand.2.1 37 = .ok (.ifCond .eq 51, 3) := by decide +kernel
theorem d_X5_hasCommand_40 : decode mX5_hasCommand.2.1 40 = .ok (.aload_n 0, 1) := by decide +kernel
theorem d_X5_hasCommand_41 : decode mX5_hasCommand.2.1 41 = .ok (.aload_n 1, 1) := by decide +kernel
theorem d_X5_hasCommand_42 : decode mX5_hasCommand.2.1 42 = .ok (.invokevirtual 50, 3) := by decide +kernel
theorem d_X5_hasCommand_45 : decode mX5_hasCommand.2.1 45 = .ok (.ifCond .eq 43, 3) := by decide +kernel
theorem d_X5_hasCommand_48 : decode mX5_hasCommand.2.1 48 = .ok (.aload_n 0, 1) := by decide +kernel
theorem d_X5_hasCommand_49 : decode mX5_hasCommand.2.1 49 = .ok (.bipush 64, 2) := by decide +kernel
theorem d_X5_hasCommand_51 : decode mX5_hasCommand.2.1 51 = .ok (.invokevirtual 38, 3) := by decide +kernel
theorem d_X5_hasCommand_54 : decode mX5_hasCommand.2.1 54 = .ok (.ifCond .eq 34, 3) := by decide +kernel
theorem d_X5_hasCommand_57 : decode mX5_hasCommand.2.1 57 = .ok (.aload_n 0, 1) := by decide +kernel
theorem d_X5_hasCommand_58 : decode mX5_hasCommand.2.1 58 = .ok (.aload_n 1, 1) := by decide +kernel
theorem d_X5_hasCommand_59 : decode mX5_hasCommand.2.1 59 = .ok (.iconst 3, 1) := by decide +kernel
theorem d_X5_hasCommand_60 : decode mX5_hasCommand.2.1 60 = .ok (.invokevirtual 54, 3) := by decide +kernel
theorem d_X5_hasCommand_63 : decode mX5_hasCommand.2.1 63 = .ok (.ifCond .eq 25, 3) := by decide +kernel
theorem d_X5_hasCommand_66 : decode mX5_hasCommand.2.1 66 = .ok (.aload_n 0, 1) := by decide +kernel
theorem d_X5_hasCommand_67 : decode mX5_hasCommand.2.1 67 = .ok (.bipush 46, 2) := by decide +kernel
theorem d_X5_hasCommand_69 : decode mX5_hasCommand.2.1 69 = .ok (.invokevirtual 38, 3) := by decide +kernel
theorem d_X5_hasCommand_72 : decode mX5_hasCommand.2.1 72 = .ok (.ifCond .eq 16, 3) := by decide +kernel
theorem d_X5_hasCommand_75 : decode mX5_hasCommand.2.1 75 = .ok (.aload_n 0, 1) := by decide +kernel
theorem d_X5_hasCommand_76 : decode mX5_hasCommand.2.1 76 = .ok (.aload_n 1, 1) := by decide +kernel
theorem d_X5_hasCommand_77 : decode mX5_hasCommand.2.1 77 = .ok (.iconst 4, 1) := by decide +kernel
theorem d_X5_hasCommand_78 : decode mX5_hasCommand.2.1 78 = .ok (.invokevirtual 46, 3) := by decide +kernel
theorem d_X5_hasCommand_81 : decode mX5_hasCommand.2.1 81 = .ok (.ifCond .eq 7, 3) := by decide +kernel
theorem d_X5_hasCommand_84 : decode mX5_hasCommand.2.1 84 = .ok (.iconst 1, 1) := by decide +kernel
theorem d_X5_hasCommand_85 : decode mX5_hasCommand.2.1 85 = .ok (.goto 4, 3) := by decide +kernel
theorem d_X5_hasCommand_88 : decode mX5_hasCommand.2.1 88 = .ok (.iconst 0, 1) := by decide +kernel
theorem d_X5_hasCommand_89 : decode mX5_hasCommand.2.1 89 = .ok (.ireturn, 1) := by decide +kernel
theorem d_X5_hasCommand_90 : decode mX5_hasCommand.2.1 90 = .ok (.aload_n 0, 1) := by decide +kernel
theorem d_X5_hasCommand_91 : decode mX5_hasCommand.2.1 91 = .ok (.bipush 120, 2) := by decide +kernel
theorem d_X5_hasCommand_93 : decode mX5_hasCommand.2.1 93 = .ok (.invokevirtual 38, 3) := by decide +kernel
theorem d_X5_hasCommand_96 : decode mX5_hasCommand.2.1 96 = .ok (.ifCond .eq 15, 3) := by decide +kernel
theorem d_X5_hasCommand_99 : decode mX5_hasCommand.2.1 99 = .ok (.aload_n 1, 1) := by decide +kernel
theorem d_X5_hasCommand_100 : decode mX5_hasCommand.2.1 100 = .ok (.iconst 0, 1) := by decide +kernel
theorem d_X5_hasCommand_101 : decode mX5_hasCommand.2.1 101 = .ok (.bipush 120, 2) := by decide +kernel
theorem d_X5_hasCommand_103 : decode mX5_hasCommand.2.1 103 = .ok (.iastore, 1) := by decide +kernel
theorem d_X5_hasCommand_104 : decode mX5_hasCommand.2.1 104 = .ok (.aload_n 0, 1) := by decide +kernel
theorem d_X5_hasCommand_105 : decode mX5_hasCommand.2.1 105 = .ok (.aload_n 1, 1) := by decide +kernel
theorem d_X5_hasCommand_106 : decode mX5_hasCommand.2.1 106 = .ok (.iconst 1, 1) := by decide +kernel
theorem d_X5_hasCommand_107 : decode mX5_hasCommand.2.1 107 = .ok (.invokevirtual 54, 3) := by decide +kernel
theorem d_X5_hasCommand_110 : decode mX5_hasCommand.2.1 110 = .ok (.ireturn, 1) := by decide +kernel
theorem d_X5_hasCommand_111 : decode mX5_hasCommand.2.1 111 = .ok (.aload_n 1, 1) := by decide +kernel
theorem d_X5_hasCommand_112 : decode mX5_hasCommand.2.1 112 = .ok (.iconst 0, 1) := by decide +kernel
theorem d_X5_hasCommand_113 : decode mX5_hasCommand.2.1 113 = .ok (.bipush 109, 2) := by decide +kernel
theorem d_X5_hasCommand_115 : decode mX5_hasCommand.2.1 115 = .ok (.iastore, 1) := by decide +kernel
theorem d_X5_hasCommand_116 : decode mX5_hasCommand.2.1 116 = .ok (.aload_n 0, 1) := by decide +kernel
theorem d_X5_hasCommand_117 : decode mX5_hasCommand.2.1 117 = .ok (.bipush 109, 2) := by decide +kernel
theorem d_X5_hasCommand_119 : decode mX5_hasCommand.2.1 119 = .ok (.invokevirtual 38, 3) := by decide +kernel
theorem d_X5_hasCommand_122 : decode mX5_hasCommand.2.1 122 = .ok (.ifCond .eq 34, 3) := by decide +kernel
theorem d_X5_hasCommand_125 : decode mX5_hasCommand.2.1 125 = .ok (.aload_n 0, 1) := by decide +kernel
theorem d_X5_hasCommand_126 : decode mX5_hasCommand.2.1 126 = .ok (.aload_n 1, 1) := by decide +kernel
theorem d_X5_hasCommand_127 : decode mX5_hasCommand.2.1 127 = .ok (.iconst 1, 1) := by decide +kernel
theorem d_X5_hasCommand_128 : decode mX5_hasCommand.2.1 128 = .ok (.invokevirtual 46, 3) := by decide +kernel
theorem d_X5_hasCommand_131 : decode mX5_hasCommand.2.1 131 = .ok (.ifCond .eq 25, 3) := by decide +kernel
theorem d_X5_hasCommand_134 : decode mX5_hasCommand.2.1 134 = .ok (.aload_n 0, 1) := by decide +kernel
theorem d_X5_hasCommand_135 : decode mX5_hasCommand.2.1 135 = .ok (.bipush 47, 2) := by decide +kernel
theorem d_X5_hasCommand_137 : decode mX5_hasCommand.2.1 137 = .ok (.invokevirtual 38, 3) := by decide +kernel
theorem d_X5_hasCommand_140 : decode mX5_hasCommand.2.1 140 = .ok (.ifCond .eq 16, 3) := by decide +kernel
theorem d_X5_hasCommand_143 : decode mX5_hasCommand.2.1 143 = .ok (.aload_n 0, 1) := by decide +kernel
theorem d_X5_hasCommand_144 : decode mX5_hasCommand.2.1 144 = .ok (.aload_n 1, 1) := by decide +kernel
theorem d_X5_hasCommand_145 : decode mX5_hasCommand.2.1 145 = .ok (.iconst 2, 1) := by decide +kernel
theorem d_X5_hasCommand_146 : decode mX5_hasCommand.2.1 146 = .ok (.invokevirtual 46, 3) := by decide +kernel
theorem d_X5_hasCommand_149 : decode mX5_hasCommand.2.1 149 = .ok (.ifCond .eq 7, 3) := by decide +kernel
theorem d_X5_hasCommand_152 : decode mX5_hasCommand.2.1 152 = .ok (.iconst 1, 1) := by decide +kernel
theorem d_X5_hasCommand_153 : decode mX5_hasCommand.2.1 153 = .ok (.goto 4, 3) := by decide +kernel
theorem d_X5_hasCommand_156 : decode mX5_hasCommand.2.1 156 = .ok (.iconst 0, 1) := by decide +kernel
theorem d_X5_hasCommand_157 : decode mX5_hasCommand.2.1 157 = .ok (.ireturn, 1) := by decide +kernel
def T_X5_hasCommand_157 (Q : Int32 → Mem → Prop) (s0 : Int32) (M : Mem) : Prop := ((s0 : Int32) = 0 ∨ (s0 : Int32) = 1) ∧ Q s0 M
set_option maxRecDepth 100000 in
set_option maxHeartbeats 4000000 in
theorem B_X5_hasCommand_157 {g : GG} (Q : Int32 → Mem → Prop) (s0 : Int32) (M : Mem) (h : T_X5_hasCommand_157 Q s0 M) : WP g 11 mX5_hasCommand 157 [none, none] [.int s0] M 0 (oZ Q noX) := by
  unfold T_X5_hasCommand_157 at h
  exact R_retv (pc := 157) d_X5_hasCommand_157 h
def T_X5_hasCommand_156 (Q : Int32 → Mem → Prop) (M : Mem) : Prop := T_X5_hasCommand_157 Q 0 M
set_option maxRecDepth 100000 in
set_option maxHeartbeats 4000000 in
theorem B_X5_hasCommand_156 {g : GG} (Q : Int32 → Mem → Prop) (M : Mem) (h : T_X5_hasCommand_156 Q  M) : WP g 11 mX5_hasCommand 156 [none, none] [] M 0 (oZ Q noX) := by
  unfold T_X5_hasCommand_156 at h
  refine R_iconst (pc := 156) (v := 0) d_X5_hasCommand_156 (by decide) ?_
  exact WP_sub (B_X5_hasCommand_157 Q 0 M h) (by decide) (ls_n (ls_n ls_0))
def T_X5_hasCommand_89 (Q : Int32 → Mem → Prop) (s0 : Int32) (M : Mem) : Prop := ((s0 : Int32) = 0 ∨ (s0 : Int32) = 1) ∧ Q s0 M
set_option maxRecDepth 100000 in
set_option maxHeartbeats 4000000 in
theorem B_X5_hasCommand_89 {g : GG} (Q : Int32 → Mem → Prop) (s0 : Int32) (M : Mem) (h : T_X5_hasCommand_89 Q s0 M) : WP g 11 mX5_hasCommand 89 [none, none] [.int s0] M 0 (oZ Q noX) := by
  unfold T_X5_hasCommand_89 at h
  exact R_retv (pc := 89) d_X5_hasCommand_89 h
def T_X5_hasCommand_88 (Q : Int32 → Mem → Prop) (M : Mem) : Prop := T_X5_hasCommand_89 Q 0 M
set_option maxRecDepth 100000 in
set_option maxHeartbeats 4000000 in
theorem B_X5_hasCommand_88 {g : GG} (Q : Int32 → Mem → Prop) (M : Mem) (h : T_X5_hasCommand_88 Q  M) : WP g 11 mX5_hasCommand 88 [none, none] [] M 0 (oZ Q noX) := by
  unfold T_X5_hasCommand_88 at h
  refine R_iconst (pc := 88) (v := 0) d_X5_hasCommand_88 (by decide) ?_
  exact WP_sub (B_X5_hasCommand_89 Q 0 M h) (by decide) (ls_n (ls_n ls_0))
def T_X5_hasCommand (Q : Int32 → Mem → Prop) (v0 : Nat) (M : Mem) : Prop := (kd v0 = 5) ∧ (kd (rf v0 3) = 4) ∧ T_X4_addRow (fun y4 M3 => T_X5_hasSign (fun y6 M5 => if y6 = 0 then (T_X5_hasSign (fun y8 M7 => if y8 = 0 then ((kd y4 = 9) ∧ (vp_in 0 (ln y4)) ∧ ∀ M11 : Mem, M11 = mset M7 y4 (Int32.toNatClampNeg 0) 109 → T_X5_hasSign (fun y13 M12 => if y13 = 0 then (T_X5_hasCommand_156 Q M12) else (T_X5_hasDigit (fun y15 M14 => if y15 = 0 then (T_X5_hasCommand_156 Q M14) else (T_X5_hasSign (fun y17 M16 => if y17 = 0 then (T_X5_hasCommand_156 Q M16) else (T_X5_hasDigit (fun y19 M18 => if y19 = 0 then (T_X5_hasCommand_156 Q M18) else (T_X5_hasCommand_157 Q 1 M18))  v0 y4 2 M16))  v0 47 M14))  v0 y4 1 M12))  v0 109 M11) else ((kd y4 = 9) ∧ (vp_in 0 (ln y4)) ∧ ∀ M22 : Mem, M22 = mset M7 y4 (Int32.toNatClampNeg 0) 120 → T_X5_hasNumber (fun y24 M23 => ((y24 : Int32) = 0 ∨ (y24 : Int32) = 1) ∧ Q y24 M23)  v0 y4 1 M22))  v0 120 M5) else ((kd y4 = 9) ∧ (vp_in 0 (ln y4)) ∧ ∀ M27 : Mem, M27 = mset M5 y4 (Int32.toNatClampNeg 0) 98 → T_X5_hasDigit (fun y29 M28 => if y29 = 0 then (T_X5_hasCommand_88 Q M28) else (T_X5_hasSign (fun y31 M30 => if y31 = 0 then (T_X5_hasCommand_88 Q M30) else (T_X5_hasVisitors (fun y33 M32 => if y33 = 0 then (T_X5_hasCommand_88 Q M32) else (T_X5_hasSign (fun y35 M34 => if y35 = 0 then (T_X5_hasCommand_88 Q M34) else (T_X5_hasNumber (fun y37 M36 => if y37 = 0 then (T_X5_hasCommand_88 Q M36) else (T_X5_hasSign (fun y39 M38 => if y39 = 0 then (T_X5_hasCommand_88 Q M38) else (T_X5_hasDigit (fun y41 M40 => if y41 = 0 then (T_X5_hasCommand_88 Q M40) else (T_X5_hasCommand_89 Q 1 M40))  v0 y4 4 M38))  v0 46 M36))  v0 y4 3 M34))  v0 64 M32))  v0 y4 M30))  v0 58 M28))  v0 y4 1 M27))  v0 98 M3)  (rf v0 3) M
set_option maxRecDepth 100000 in
set_option maxHeartbeats 4000000 in
theorem c_X5_hasCommand {g : GG} (v0 : Nat) (M : Mem) (Q : Int32 → Mem → Prop) (h : T_X5_hasCommand Q v0 M) : CT g 11 mX5_hasCommand [.ref (g.1 + v0)] M 0 (oZ Q noX) := by
  refine CT_of (L := [some (.ref (g.1 + v0)), none]) (by decide) rfl (Nat.le_of_ble_eq_true rfl) (ro_Z rfl) rfl ?_
  unfold T_X5_hasCommand at h
  refine R_aload_n (pc := 0) d_X5_hasCommand_0 rfl rfl ?_
  obtain ⟨k1, h⟩ := h
  refine R_getR (pc := 1) fld_RX5_27 rfl rfl k1 d_X5_hasCommand_1 ?_
  obtain ⟨k2, h⟩ := h
  refine R_callV (pc := 4) (As := []) (rest := []) (c_X4_addRow (g := g) (rf v0 3) M _ h) rfl rfl cal_RX5_42 ins_X4_addRow sel_X4_addRow (cls_at k2 clsOK4) (by decide) (by decide) rfl rfl (Nat.le_of_ble_eq_true rfl) d_X5_hasCommand_4 (k_R (fun y4 M3 h => ?_)) (fun _ _ h9 => False.elim h9)
  try dsimp only at h
  refine R_astore_n (pc := 7) (L' := [some (.ref (g.1 + v0)), some (.ref (g.1 + y4))]) d_X5_hasCommand_7 rfl (by decide) rfl ?_
  refine R_aload_n (pc := 8) d_X5_hasCommand_8 rfl rfl ?_
  refine R_bipush (pc := 9) (v := 98) d_X5_hasCommand_9 (by decide) ?_
  refine R_callV (pc := 11) (As := [.int 98]) (rest := []) (c_X5_hasSign (g := g) v0 98 M3 _ h) rfl rfl cal_RX5_38 ins_X5_hasSign sel_X5_hasSign (cls_at k1 clsOK5) (by decide) (by decide) rfl rfl (Nat.le_of_ble_eq_true rfl) d_X5_hasCommand_11 (k_Z (fun y6 M5 h => ?_)) (fun _ _ h9 => False.elim h9)
  try dsimp only at h
  refine R_if_eq (pc := 14) (tgt := 90) d_X5_hasCommand_14 (by decide) (fun c => ?_) (fun c => ?_)
  · rw [if_pos c] at h
    refine R_aload_n (pc := 90) d_X5_hasCommand_90 rfl rfl ?_
    refine R_bipush (pc := 91) (v := 120) d_X5_hasCommand_91 (by decide) ?_
    refine R_callV (pc := 93) (As := [.int 120]) (rest := []) (c_X5_hasSign (g := g) v0 120 M5 _ h) rfl rfl cal_RX5_38 ins_X5_hasSign sel_X5_hasSign (cls_at k1 clsOK5) (by decide) (by decide) rfl rfl (Nat.le_of_ble_eq_true rfl) d_X5_hasCommand_93 (k_Z (fun y8 M7 h => ?_)) (fun _ _ h9 => False.elim h9)
    try dsimp only at h
    refine R_if_eq (pc := 96) (tgt := 111) d_X5_hasCommand_96 (by decide) (fun c => ?_) (fun c => ?_)
    · rw [if_pos c] at h
      refine R_aload_n (pc := 111) d_X5_hasCommand_111 rfl rfl ?_
      refine R_iconst (pc := 112) (v := 0) d_X5_hasCommand_112 (by decide) ?_
      refine R_bipush (pc := 113) (v := 109) d_X5_hasCommand_113 (by decide) ?_
      obtain ⟨k9, h⟩ := h
      obtain ⟨k10, h⟩ := h
      refine R_iast (pc := 115) k9 k10 d_X5_hasCommand_115 (N_M (fun M11 eM11 => ?_))
      have h := h M11 eM11
      refine R_aload_n (pc := 116) d_X5_hasCommand_116 rfl rfl ?_
      refine R_bipush (pc := 117) (v := 109) d_X5_hasCommand_117 (by decide) ?_
      refine R_callV (pc := 119) (As := [.int 109]) (rest := []) (c_X5_hasSign (g := g) v0 109 M11 _ h) rfl rfl cal_RX5_38 ins_X5_hasSign sel_X5_hasSign (cls_at k1 clsOK5) (by decide) (by decide) rfl rfl (Nat.le_of_ble_eq_true rfl) d_X5_hasCommand_119 (k_Z (fun y13 M12 h => ?_)) (fun _ _ h9 => False.elim h9)
      try dsimp only at h
      refine R_if_eq (pc := 122) (tgt := 156) d_X5_hasCommand_122 (by decide) (fun c => ?_) (fun c => ?_)
      · rw [if_pos c] at h
        exact WP_sub (B_X5_hasCommand_156 Q M12 h) (by decide) (ls_n (ls_n ls_0))
      · rw [if_neg c] at h
        refine R_aload_n (pc := 125) d_X5_hasCommand_125 rfl rfl ?_
        refine R_aload_n (pc := 126) d_X5_hasCommand_126 rfl rfl ?_
        refine R_iconst (pc := 127) (v := 1) d_X5_hasCommand_127 (by decide) ?_
        refine R_callV (pc := 128) (As := [.ref (g.1 + y4), .int 1]) (rest := []) (c_X5_hasDigit (g := g) v0 y4 1 M12 _ h) rfl rfl cal_RX5_46 ins_X5_hasDigit sel_X5_hasDigit (cls_at k1 clsOK5) (by decide) (by decide) rfl rfl (Nat.le_of_ble_eq_true rfl) d_X5_hasCommand_128 (k_Z (fun y15 M14 h => ?_)) (fun _ _ h9 => False.elim h9)
        try dsimp only at h
        refine R_if_eq (pc := 131) (tgt := 156) d_X5_hasCommand_131 (by decide) (fun c => ?_) (fun c => ?_)
        · rw [if_pos c] at h
          exact WP_sub (B_X5_hasCommand_156 Q M14 h) (by decide) (ls_n (ls_n ls_0))
        · rw [if_neg c] at h
          refine R_aload_n (pc := 134) d_X5_hasCommand_134 rfl rfl ?_
          refine R_bipush (pc := 135) (v := 47) d_X5_hasCommand_135 (by decide) ?_
          refine R_callV (pc := 137) (As := [.int 47]) (rest := []) (c_X5_hasSign (g := g) v0 47 M14 _ h) rfl rfl cal_RX5_38 ins_X5_hasSign sel_X5_hasSign (cls_at k1 clsOK5) (by decide) (by decide) rfl rfl (Nat.le_of_ble_eq_true rfl) d_X5_hasCommand_137 (k_Z (fun y17 M16 h => ?_)) (fun _ _ h9 => False.elim h9)
          try dsimp only at h
          refine R_if_eq (pc := 140) (tgt := 156) d_X5_hasCommand_140 (by decide) (fun c => ?_) (fun c => ?_)
          · rw [if_pos c] at h
            exact WP_sub (B_X5_hasCommand_156 Q M16 h) (by decide) (ls_n (ls_n ls_0))
          · rw [if_neg c] at h
            refine R_aload_n (pc := 143) d_X5_hasCommand_143 rfl rfl ?_
            refine R_aload_n (pc := 144) d_X5_hasCommand_144 rfl rfl ?_
            refine R_iconst (pc := 145) (v := 2) d_X5_hasCommand_145 (by decide) ?_
            refine R_callV (pc := 146) (As := [.ref (g.1 + y4), .int 2]) (rest := []) (c_X5_hasDigit (g := g) v0 y4 2 M16 _ h) rfl rfl cal_RX5_46 ins_X5_hasDigit sel_X5_hasDigit (cls_at k1 clsOK5) (by decide) (by decide) rfl rfl (Nat.le_of_ble_eq_true rfl) d_X5_hasCommand_146 (k_Z (fun y19 M18 h => ?_)) (fun _ _ h9 => False.elim h9)
            try dsimp only at h
            refine R_if_eq (pc := 149) (tgt := 156) d_X5_hasCommand_149 (by decide) (fun c => ?_) (fun c => ?_)
            · rw [if_pos c] at h
              exact WP_sub (B_X5_hasCommand_156 Q M18 h) (by decide) (ls_n (ls_n ls_0))
            · rw [if_neg c] at h
              refine R_iconst (pc := 152) (v := 1) d_X5_hasCommand_152 (by decide) ?_
              refine R_goto (pc := 153) (tgt := 157) d_X5_hasCommand_153 (by decide) ?_
              exact WP_sub (B_X5_hasCommand_157 Q 1 M18 h) (by decide) (ls_n (ls_n ls_0))
    · rw [if_neg c] at h
      refine R_aload_n (pc := 99) d_X5_hasCommand_99 rfl rfl ?_
      refine R_iconst (pc := 100) (v := 0) d_X5_hasCommand_100 (by decide) ?_
      refine R_bipush (pc := 101) (v := 120) d_X5_hasCommand_101 (by decide) ?_
      obtain ⟨k20, h⟩ := h
      obtain ⟨k21, h⟩ := h
      refine R_iast (pc := 103) k20 k21 d_X5_hasCommand_103 (N_M (fun M22 eM22 => ?_))
      have h := h M22 eM22
      refine R_aload_n (pc := 104) d_X5_hasCommand_104 rfl rfl ?_
      refine R_aload_n (pc := 105) d_X5_hasCommand_105 rfl rfl ?_
      refine R_iconst (pc := 106) (v := 1) d_X5_hasCommand_106 (by decide) ?_
      refine R_callV (pc := 107) (As := [.ref (g.1 + y4), .int 1]) (rest := []) (c_X5_hasNumber (g := g) v0 y4 1 M22 _ h) rfl rfl cal_RX5_54 ins_X5_hasNumber sel_X5_hasNumber (cls_at k1 clsOK5) (by decide) (by decide) rfl rfl (Nat.le_of_ble_eq_true rfl) d_X5_hasCommand_107 (k_Z (fun y24 M23 h => ?_)) (fun _ _ h9 => False.elim h9)
      try dsimp only at h
      exact R_retv (pc := 110) d_X5_hasCommand_110 h
  · rw [if_neg c] at h
    refine R_aload_n (pc := 17) d_X5_hasCommand_17 rfl rfl ?_
    refine R_iconst (pc := 18) (v := 0) d_X5_hasCommand_18 (by decide) ?_
    refine R_bipush (pc := 19) (v := 98) d_X5_hasCommand_19 (by decide) ?_
    obtain ⟨k25, h⟩ := h
    obtain ⟨k26, h⟩ := h
    refine R_iast (pc := 21) k25 k26 d_X5_hasCommand_21 (N_M (fun M27 eM27 => ?_))
    have h := h M27 eM27
    refine R_aload_n (pc := 22) d_X5_hasCommand_22 rfl rfl ?_
    refine R_aload_n (pc := 23) d_X5_hasCommand_23 rfl rfl ?_
    refine R_iconst (pc := 24) (v := 1) d_X5_hasCommand_24 (by decide) ?_
    refine R_callV (pc := 25) (As := [.ref (g.1 + y4), .int 1]) (rest := []) (c_X5_hasDigit (g := g) v0 y4 1 M27 _ h) rfl rfl cal_RX5_46 ins_X5_hasDigit sel_X5_hasDigit (cls_at k1 clsOK5) (by decide) (by decide) rfl rfl (Nat.le_of_ble_eq_true rfl) d_X5_hasCommand_25 (k_Z (fun y29 M28 h => ?_)) (fun _ _ h9 => False.elim h9)
    try dsimp only at h
    refine R_if_eq (pc := 28) (tgt := 88) d_X5_hasCommand_28 (by decide) (fun c => ?_) (fun c => ?_)
    · rw [if_pos c] at h
      exact WP_sub (B_X5_hasCommand_88 Q M28 h) (by decide) (ls_n (ls_n ls_0))
    · rw [if_neg c] at h
      refine R_aload_n (pc := 31) d_X5_hasCommand_31 rfl rfl ?_
      refine R_bipush (pc := 32) (v := 58) d_X5_hasCommand_32 (by decide) ?_
      refine R_callV (pc := 34) (As := [.int 58]) (rest := []) (c_X5_hasSign (g := g) v0 58 M28 _ h) rfl rfl cal_RX5_38 ins_X5_hasSign sel_X5_hasSign (cls_at k1 clsOK5) (by decide) (by decide) rfl rfl (Nat.le_of_ble_eq_true rfl) d_X5_hasCommand_34 (k_Z (fun y31 M30 h => ?_)) (fun _ _ h9 => False.elim h9)
      try dsimp only at h
      refine R_if_eq (pc := 37) (tgt := 88) d_X5_hasCommand_37 (by decide) (fun c => ?_) (fun c => ?_)
      · rw [if_pos c] at h
        exact WP_sub (B_X5_hasCommand_88 Q M30 h) (by decide) (ls_n (ls_n ls_0))
      · rw [if_neg c] at h
        refine R_aload_n (pc := 40) d_X5_hasCommand_40 rfl rfl ?_
        refine R_aload_n (pc := 41) d_X5_hasCommand_41 rfl rfl ?_
        refine R_callV (pc := 42) (As := [.ref (g.1 + y4)]) (rest := []) (c_X5_hasVisitors (g := g) v0 y4 M30 _ h) rfl rfl cal_RX5_50 ins_X5_hasVisitors sel_X5_hasVisitors (cls_at k1 clsOK5) (by decide) (by decide) rfl rfl (Nat.le_of_ble_eq_true rfl) d_X5_hasCommand_42 (k_Z (fun y33 M32 h => ?_)) (fun _ _ h9 => False.elim h9)
        try dsimp only at h
        refine R_if_eq (pc := 45) (tgt := 88) d_X5_hasCommand_45 (by decide) (fun c => ?_) (fun c => ?_)
        · rw [if_pos c] at h
          exact WP_sub (B_X5_hasCommand_88 Q M32 h) (by decide) (ls_n (ls_n ls_0))
        · rw [if_neg c] at h
          refine R_aload_n (pc := 48) d_X5_hasCommand_48 rfl rfl ?_
          refine R_bipush (pc := 49) (v := 64) d_X5_hasCommand_49 (by decide) ?_
          refine R_callV (pc := 51) (As := [.int 64]) (rest := []) (c_X5_hasSign (g := g) v0 64 M32 _ h) rfl rfl cal_RX5_38 ins_X5_hasSign sel_X5_hasSign (cls_at k1 clsOK5) (by decide) (by decide) rfl rfl (Nat.le_of_ble_eq_true rfl) d_X5_hasCommand_51 (k_Z (fun y35 M34 h => ?_)) (fun _ _ h9 => False.elim h9)
          try dsimp only at h
          refine R_if_eq (pc := 54) (tgt := 88) d_X5_hasCommand_54 (by decide) (fun c => ?_) (fun c => ?_)
          · rw [if_pos c] at h
            exact WP_sub (B_X5_hasCommand_88 Q M34 h) (by decide) (ls_n (ls_n ls_0))
          · rw [if_neg c] at h
            refine R_aload_n (pc := 57) d_X5_hasCommand_57 rfl rfl ?_
            refine R_aload_n (pc := 58) d_X5_hasCommand_58 rfl rfl ?_
            refine R_iconst (pc := 59) (v := 3) d_X5_hasCommand_59 (by decide) ?_
            refine R_callV (pc := 60) (As := [.ref (g.1 + y4), .int 3]) (rest := []) (c_X5_hasNumber (g := g) v0 y4 3 M34 _ h) rfl rfl cal_RX5_54 ins_X5_hasNumber sel_X5_hasNumber (cls_at k1 clsOK5) (by decide) (by decide) rfl rfl (Nat.le_of_ble_eq_true rfl) d_X5_hasCommand_60 (k_Z (fun y37 M36 h => ?_)) (fun _ _ h9 => False.elim h9)
            try dsimp only at h
            refine R_if_eq (pc := 63) (tgt := 88) d_X5_hasCommand_63 (by decide) (fun c => ?_) (fun c => ?_)
            · rw [if_pos c] at h
              exact WP_sub (B_X5_hasCommand_88 Q M36 h) (by decide) (ls_n (ls_n ls_0))
            · rw [if_neg c] at h
              refine R_aload_n (pc := 66) d_X5_hasCommand_66 rfl rfl ?_
              refine R_bipush (pc := 67) (v := 46) d_X5_hasCommand_67 (by decide) ?_
              refine R_callV (pc := 69) (As := [.int 46]) (rest := []) (c_X5_hasSign (g := g) v0 46 M36 _ h) rfl rfl cal_RX5_38 ins_X5_hasSign sel_X5_hasSign (cls_at k1 clsOK5) (by decide) (by decide) rfl rfl (Nat.le_of_ble_eq_true rfl) d_X5_hasCommand_69 (k_Z (fun y39 M38 h => ?_)) (fun _ _ h9 => False.elim h9)
              try dsimp only at h
              refine R_if_eq (pc := 72) (tgt := 88) d_X5_hasCommand_72 (by decide) (fun c => ?_) (fun c => ?_)
              · rw [if_pos c] at h
                exact WP_sub (B_X5_hasCommand_88 Q M38 h) (by decide) (ls_n (ls_n ls_0))
              · rw [if_neg c] at h
                refine R_aload_n (pc := 75) d_X5_hasCommand_75 rfl rfl ?_
                refine R_aload_n (pc := 76) d_X5_hasCommand_76 rfl rfl ?_
                refine R_iconst (pc := 77) (v := 4) d_X5_hasCommand_77 (by decide) ?_
                refine R_callV (pc := 78) (As := [.ref (g.1 + y4), .int 4]) (rest := []) (c_X5_hasDigit (g := g) v0 y4 4 M38 _ h) rfl rfl cal_RX5_46 ins_X5_hasDigit sel_X5_hasDigit (cls_at k1 clsOK5) (by decide) (by decide) rfl rfl (Nat.le_of_ble_eq_true rfl) d_X5_hasCommand_78 (k_Z (fun y41 M40 h => ?_)) (fun _ _ h9 => False.elim h9)
                try dsimp only at h
                refine R_if_eq (pc := 81) (tgt := 88) d_X5_hasCommand_81 (by decide) (fun c => ?_) (fun c => ?_)
                · rw [if_pos c] at h
                  exact WP_sub (B_X5_hasCommand_88 Q M40 h) (by decide) (ls_n (ls_n ls_0))
                · rw [if_neg c] at h
                  refine R_iconst (pc := 84) (v := 1) d_X5_hasCommand_84 (by decide) ?_
                  refine R_goto (pc := 85) (tgt := 89) d_X5_hasCommand_85 (by decide) ?_
                  exact WP_sub (B_X5_hasCommand_89 Q 1 M40 h) (by decide) (ls_n (ls_n ls_0))
/-! X5_findError -/
theorem d_X5_findError_0 : decode mX5_findError.2.1 0 = .ok (.aload_n 0, 1) := by decide +kernel
theorem d_X5_findError_1 : decode mX5_findError.2.1 1 = .ok (.iconst 0, 1) := by decide +kernel
theorem d_X5_findError_2 : decode mX5_findError.2.1 2 = .ok (.putfield 19, 3) := by decide +kernel
theorem d_X5_findError_5 : decode mX5_findError.2.1 5 = .ok (.aload_n 0, 1) := by decide +kernel
theorem d_X5_findError_6 : decode mX5_findError.2.1 6 = .ok (.getfield 27, 3) := by decide +kernel
theorem d_X5_findError_9 : decode mX5_findError.2.1 9 = .ok (.invokevirtual 31, 3) := by decide +kernel
theorem d_X5_findError_12 : decode mX5_findError.2.1 12 = .ok (.iconst 0, 1) := by decide +kernel
theorem d_X5_findError_13 : decode mX5_findError.2.1 13 = .ok (.istore_n 1, 1) := by decide +kernel
theorem d_X5_findError_14 : decode mX5_findError.2.1 14 = .ok (.iload_n 1, 1) := by decide +kernel
theorem d_X5_findError_15 : decode mX5_findError.2.1 15 = .ok (.bipush 27, 2) := by decide +kernel
theorem d_X5_findError_17 : decode mX5_findError.2.1 17 = .ok (.if_icmp .ge 48, 3) := by decide +kernel
theorem d_X5_findError_20 : decode mX5_findError.2.1 20 = .ok (.aload_n 0, 1) := by decide +kernel
theorem d_X5_findError_21 : decode mX5_findError.2.1 21 = .ok (.invokevirtual 34, 3) := by decide +kernel
theorem d_X5_findError_24 : decode mX5_findError.2.1 24 = .ok (.ifCond .ne 8, 3) := by decide +kernel
theorem d_X5_findError_27 : decode mX5_findError.2.1 27 = .ok (.aload_n 0, 1) := by decide +kernel
theorem d_X5_findError_28 : decode mX5_findError.2.1 28 = .ok (.getfield 19, 3) := by decide +kernel
theorem d_X5_findError_31 : decode mX5_findError.2.1 31 = .ok (.ireturn, 1) := by decide +kernel
theorem d_X5_findError_32 : decode mX5_findError.2.1 32 = .ok (.aload_n 0, 1) := by decide +kernel
theorem d_X5_findError_33 : decode mX5_findError.2.1 33 = .ok (.getfield 19, 3) := by decide +kernel
theorem d_X5_findError_36 : decode mX5_findError.2.1 36 = .ok (.aload_n 0, 1) := by decide +kernel
theorem d_X5_findError_37 : decode mX5_findError.2.1 37 = .ok (.getfield 15, 3) := by decide +kernel
theorem d_X5_findError_40 : decode mX5_findError.2.1 40 = .ok (.if_icmp .ne 5, 3) := by decide +kernel
theorem d_X5_findError_43 : decode mX5_findError.2.1 43 = .ok (.iconst (-1), 1) := by decide +kernel
theorem d_X5_findError_44 : decode mX5_findError.2.1 44 = .ok (.ireturn, 1) := by decide +kernel
theorem d_X5_findError_45 : decode mX5_findError.2.1 45 = .ok (.aload_n 0, 1) := by decide +kernel
theorem d_X5_findError_46 : decode mX5_findError.2.1 46 = .ok (.bipush 59, 2) := by decide +kernel
theorem d_X5_findError_48 : decode mX5_findError.2.1 48 = .ok (.invokevirtual 38, 3) := by decide +kernel
theorem d_X5_findError_51 : decode mX5_findError.2.1 51 = .ok (.ifCond .ne 8, 3) := by decide +kernel
theorem d_X5_findError_54 : decode mX5_findError.2.1 54 = .ok (.aload_n 0, 1) := by decide +kernel
theorem d_X5_findError_55 : decode mX5_findError.2.1 55 = .ok (.getfield 19, 3) := by decide +kernel
theorem d_X5_findError_58 : decode mX5_findError.2.1 58 = .ok (.ireturn, 1) := by decide +kernel
theorem d_X5_findError_59 : decode mX5_findError.2.1 59 = .ok (.iinc 1 1, 3) := by decide +kernel
theorem d_X5_findError_62 : decode mX5_findError.2.1 62 = .ok (.goto (-48), 3) := by decide +kernel
theorem d_X5_findError_65 : decode mX5_findError.2.1 65 = .ok (.aload_n 0, 1) := by decide +kernel
theorem d_X5_findError_66 : decode mX5_findError.2.1 66 = .ok (.getfield 19, 3) := by decide +kernel
theorem d_X5_findError_69 : decode mX5_findError.2.1 69 = .ok (.ireturn, 1) := by decide +kernel
def T_X5_findError_14 (Q : Int32 → Mem → Prop) : Nat → Nat → Int32 → Mem → Prop
  | 0, _, _, _ => False
  | n + 1, v0, v1, M => if (27 : Int32) ≤ v1 then ((kd v0 = 5) ∧ Q (M.1 v0 2) M) else ((kd v0 = 5) ∧ T_X5_hasCommand (fun y4 M3 => if y4 = 0 then (Q (M3.1 v0 2) M3) else (if (M3.1 v0 2) = (M3.1 v0 1) then (Q (-1) M3) else (T_X5_hasSign (fun y6 M5 => if y6 = 0 then (Q (M5.1 v0 2) M5) else (∀ x7 : Int32, x7 = v1 + 1 → (T_X5_findError_14 Q n) v0 x7 M5))  v0 59 M3)))  v0 M)
set_option maxRecDepth 100000 in
set_option maxHeartbeats 4000000 in
theorem B_X5_findError_14 {g : GG} (Q : Int32 → Mem → Prop) : ∀ (n : Nat) (v0 : Nat) (v1 : Int32) (M : Mem), T_X5_findError_14 Q n v0 v1 M → WP g 12 mX5_findError 14 [some (.ref (g.1 + v0)), some (.int v1)] [] M 0 (oI Q noX) := by
  intro n
  induction n with
  | zero => intro v0 v1 M h; exact h.elim
  | succ n hκ14 =>
    intro v0 v1 M h
    unfold T_X5_findError_14 at h
    refine R_iload_n (pc := 14) d_X5_findError_14 rfl rfl ?_
    refine R_bipush (pc := 15) (v := 27) d_X5_findError_15 (by decide) ?_
    refine R_icmp_ge (pc := 17) (tgt := 65) d_X5_findError_17 (by decide) (fun c => ?_) (fun c => ?_)
    · rw [if_pos c] at h
      refine R_aload_n (pc := 65) d_X5_findError_65 rfl rfl ?_
      obtain ⟨k1, h⟩ := h
      refine R_getI (pc := 66) fld_RX5_19 rfl rfl k1 d_X5_findError_66 ?_
      exact R_retv (pc := 69) d_X5_findError_69 h
    · rw [if_neg c] at h
      refine R_aload_n (pc := 20) d_X5_findError_20 rfl rfl ?_
      obtain ⟨k2, h⟩ := h
      refine R_callV (pc := 21) (As := []) (rest := []) (c_X5_hasCommand (g := g) v0 M _ h) rfl rfl cal_RX5_34 ins_X5_hasCommand sel_X5_hasCommand (cls_at k2 clsOK5) (by decide) (by decide) rfl rfl (Nat.le_of_ble_eq_true rfl) d_X5_findError_21 (k_Z (fun y4 M3 h => ?_)) (fun _ _ h9 => False.elim h9)
      try dsimp only at h
      refine R_if_ne (pc := 24) (tgt := 32) d_X5_findError_24 (by decide) (fun c => ?_) (fun c => ?_)
      · rw [if_neg c] at h
        refine R_aload_n (pc := 32) d_X5_findError_32 rfl rfl ?_
        refine R_getI (pc := 33) fld_RX5_19 rfl rfl k2 d_X5_findError_33 ?_
        refine R_aload_n (pc := 36) d_X5_findError_36 rfl rfl ?_
        refine R_getI (pc := 37) fld_RX5_15 rfl rfl k2 d_X5_findError_37 ?_
        refine R_icmp_ne (pc := 40) (tgt := 45) d_X5_findError_40 (by decide) (fun c => ?_) (fun c => ?_)
        · rw [if_neg c] at h
          refine R_aload_n (pc := 45) d_X5_findError_45 rfl rfl ?_
          refine R_bipush (pc := 46) (v := 59) d_X5_findError_46 (by decide) ?_
          refine R_callV (pc := 48) (As := [.int 59]) (rest := []) (c_X5_hasSign (g := g) v0 59 M3 _ h) rfl rfl cal_RX5_38 ins_X5_hasSign sel_X5_hasSign (cls_at k2 clsOK5) (by decide) (by decide) rfl rfl (Nat.le_of_ble_eq_true rfl) d_X5_findError_48 (k_Z (fun y6 M5 h => ?_)) (fun _ _ h9 => False.elim h9)
          try dsimp only at h
          refine R_if_ne (pc := 51) (tgt := 59) d_X5_findError_51 (by decide) (fun c => ?_) (fun c => ?_)
          · rw [if_neg c] at h
            obtain ⟨x7, ex7⟩ : ∃ z : Int32, z = v1 + 1 := ⟨_, rfl⟩
            have h := h x7 ex7
            refine R_iinc (pc := 59) (v := x7) (L' := [some (.ref (g.1 + v0)), some (.int x7)]) d_X5_findError_59 rfl (by rw [ex7]; rfl) (by decide) rfl ?_
            refine R_goto (pc := 62) (tgt := 14) d_X5_findError_62 (by decide) ?_
            exact WP_sub (hκ14 v0 x7 M5 h) (by decide) (ls_s (ls_s ls_0))
          · rw [if_pos c] at h
            refine R_aload_n (pc := 54) d_X5_findError_54 rfl rfl ?_
            refine R_getI (pc := 55) fld_RX5_19 rfl rfl k2 d_X5_findError_55 ?_
            exact R_retv (pc := 58) d_X5_findError_58 h
        · rw [if_pos c] at h
          refine R_iconst (pc := 43) (v := (-1)) d_X5_findError_43 (by decide) ?_
          exact R_retv (pc := 44) d_X5_findError_44 h
      · rw [if_pos c] at h
        refine R_aload_n (pc := 27) d_X5_findError_27 rfl rfl ?_
        refine R_getI (pc := 28) fld_RX5_19 rfl rfl k2 d_X5_findError_28 ?_
        exact R_retv (pc := 31) d_X5_findError_31 h
def T_X5_findError (Q : Int32 → Mem → Prop) (v0 : Nat) (M : Mem) : Prop := (kd v0 = 5) ∧ ∀ M2 : Mem, M2 = mset M v0 2 0 → (kd (rf v0 3) = 4) ∧ T_X4_clear (fun M4 => (∃ N : Nat, T_X5_findError_14 Q N v0 0 M4))  (rf v0 3) M2
set_option maxRecDepth 100000 in
set_option maxHeartbeats 4000000 in
theorem c_X5_findError {g : GG} (v0 : Nat) (M : Mem) (Q : Int32 → Mem → Prop) (h : T_X5_findError Q v0 M) : CT g 12 mX5_findError [.ref (g.1 + v0)] M 0 (oI Q noX) := by
  refine CT_of (L := [some (.ref (g.1 + v0)), none]) (by decide) rfl (Nat.le_of_ble_eq_true rfl) (ro_I rfl) rfl ?_
  unfold T_X5_findError at h
  refine R_aload_n (pc := 0) d_X5_findError_0 rfl rfl ?_
  refine R_iconst (pc := 1) (v := 0) d_X5_findError_1 (by decide) ?_
  obtain ⟨k1, h⟩ := h
  refine R_putI (pc := 2) fld_RX5_19 rfl rfl rfl k1 rfl rfl d_X5_findError_2 (N_M (fun M2 eM2 => ?_))
  have h := h M2 eM2
  refine R_aload_n (pc := 5) d_X5_findError_5 rfl rfl ?_
  refine R_getR (pc := 6) fld_RX5_27 rfl rfl k1 d_X5_findError_6 ?_
  obtain ⟨k3, h⟩ := h
  refine R_callV (pc := 9) (As := []) (rest := []) (c_X4_clear (g := g) (rf v0 3) M2 _ h) rfl rfl cal_RX5_31 ins_X4_clear sel_X4_clear (cls_at k3 clsOK4) (by decide) (by decide) rfl rfl (Nat.le_of_ble_eq_true rfl) d_X5_findError_9 (k_V (fun M4 h => ?_)) (fun _ _ h9 => False.elim h9)
  try dsimp only at h
  refine R_iconst (pc := 12) (v := 0) d_X5_findError_12 (by decide) ?_
  refine R_istore_n (pc := 13) (L' := [some (.ref (g.1 + v0)), some (.int 0)]) d_X5_findError_13 rfl (by decide) rfl ?_
  obtain ⟨N, h⟩ := h
  exact WP_sub (B_X5_findError_14 Q N v0 0 M4 h) (by decide) (ls_s (ls_s ls_0))
/-! X6_addInmate -/
theorem d_X6_addInmate_0 : decode mX6_addInmate.2.1 0 = .ok (.iload_n 1, 1) := by decide +kernel
theorem d_X6_addInmate_1 : decode mX6_addInmate.2.1 1 = .ok (.iconst 4, 1) := by decide +kernel
theorem d_X6_addInmate_2 : decode mX6_addInmate.2.1 2 = .ok (.invokestatic 64, 3) := by decide +kernel
theorem d_X6_addInmate_5 : decode mX6_addInmate.2.1 5 = .ok (.ifCond .eq 11, 3) := by decide +kernel
theorem d_X6_addInmate_8 : decode mX6_addInmate.2.1 8 = .ok (.iload_n 2, 1) := by decide +kernel
theorem d_X6_addInmate_9 : decode mX6_addInmate.2.1 9 = .ok (.iconst 3, 1) := by decide +kernel
theorem d_X6_addInmate_10 : decode mX6_addInmate.2.1 10 = .ok (.invokestatic 64, 3) := by decide +kernel
theorem d_X6_addInmate_13 : decode mX6_addInmate.2.1 13 = .ok (.ifCond .ne 13, 3) := by decide +kernel
theorem d_X6_addInmate_16 : decode mX6_addInmate.2.1 16 = .ok (.new 68, 3) := by decide +kernel
theorem d_X6_addInmate_19 : decode mX6_addInmate.2.1 19 = .ok (.dup, 1) := by decide +kernel
theorem d_X6_addInmate_20 : decode mX6_addInmate.2.1 20 = .ok (.ldc 70, 2) := by decide +kernel
theorem d_X6_addInmate_22 : decode mX6_addInmate.2.1 22 = .ok (.invokespecial 72, 3) := by decide +kernel
theorem d_X6_addInmate_25 : decode mX6_addInmate.2.1 25 = .ok (.athrow, 1) := by decide +kernel
theorem d_X6_addInmate_26 : decode mX6_addInmate.2.1 26 = .ok (.aload_n 0, 1) := by decide +kernel
theorem d_X6_addInmate_27 : decode mX6_addInmate.2.1 27 = .ok (.getfield 10, 3) := by decide +kernel
theorem d_X6_addInmate_30 : decode mX6_addInmate.2.1 30 = .ok (.getfield 75, 3) := by decide +kernel
theorem d_X6_addInmate_33 : decode mX6_addInmate.2.1 33 = .ok (.invokevirtual 78, 3) := by decide +kernel
theorem d_X6_addInmate_36 : decode mX6_addInmate.2.1 36 = .ok (.ifCond .eq 13, 3) := by decide +kernel
theorem d_X6_addInmate_39 : decode mX6_addInmate.2.1 39 = .ok (.new 82, 3) := by decide +kernel
theorem d_X6_addInmate_42 : decode mX6_addInmate.2.1 42 = .ok (.dup, 1) := by decide +kernel
theorem d_X6_addInmate_43 : decode mX6_addInmate.2.1 43 = .ok (.ldc 84, 2) := by decide +kernel
theorem d_X6_addInmate_45 : decode mX6_addInmate.2.1 45 = .ok (.invokespecial 86, 3) := by decide +kernel
theorem d_X6_addInmate_48 : decode mX6_addInmate.2.1 48 = .ok (.athrow, 1) := by decide +kernel
theorem d_X6_addInmate_49 : decode mX6_addInmate.2.1 49 = .ok (.aload_n 0, 1) := by decide +kernel
theorem d_X6_addInmate_50 : decode mX6_addInmate.2.1 50 = .ok (.getfield 26, 3) := by decide +kernel
theorem d_X6_addInmate_53 : decode mX6_addInmate.2.1 53 = .ok (.aload_n 0, 1) := by decide +kernel
theorem d_X6_addInmate_54 : decode mX6_addInmate.2.1 54 = .ok (.getfield 10, 3) := by decide +kernel
theorem d_X6_addInmate_57 : decode mX6_addInmate.2.1 57 = .ok (.invokevirtual 87, 3) := by decide +kernel
theorem d_X6_addInmate_60 : decode mX6_addInmate.2.1 60 = .ok (.aload_n 0, 1) := by decide +kernel
theorem d_X6_addInmate_61 : decode mX6_addInmate.2.1 61 = .ok (.getfield 10, 3) := by decide +kernel
theorem d_X6_addInmate_64 : decode mX6_addInmate.2.1 64 = .ok (.getfield 75, 3) := by decide +kernel
theorem d_X6_addInmate_67 : decode mX6_addInmate.2.1 67 = .ok (.invokevirtual 90, 3) := by decide +kernel
theorem d_X6_addInmate_70 : decode mX6_addInmate.2.1 70 = .ok (.astore_n 3, 1) := by decide +kernel
theorem d_X6_addInmate_71 : decode mX6_addInmate.2.1 71 = .ok (.aload_n 3, 1) := by decide +kernel
theorem d_X6_addInmate_72 : decode mX6_addInmate.2.1 72 = .ok (.iconst 0, 1) := by decide +kernel
theorem d_X6_addInmate_73 : decode mX6_addInmate.2.1 73 = .ok (.iload_n 1, 1) := by decide +kernel
theorem d_X6_addInmate_74 : decode mX6_addInmate.2.1 74 = .ok (.iastore, 1) := by decide +kernel
theorem d_X6_addInmate_75 : decode mX6_addInmate.2.1 75 = .ok (.aload_n 3, 1) := by decide +kernel
theorem d_X6_addInmate_76 : decode mX6_addInmate.2.1 76 = .ok (.iconst 1, 1) := by decide +kernel
theorem d_X6_addInmate_77 : decode mX6_addInmate.2.1 77 = .ok (.iload_n 2, 1) := by decide +kernel
theorem d_X6_addInmate_78 : decode mX6_addInmate.2.1 78 = .ok (.iastore, 1) := by decide +kernel
theorem d_X6_addInmate_79 : decode mX6_addInmate.2.1 79 = .ok (.aload_n 3, 1) := by decide +kernel
theorem d_X6_addInmate_80 : decode mX6_addInmate.2.1 80 = .ok (.iconst 2, 1) := by decide +kernel
theorem d_X6_addInmate_81 : decode mX6_addInmate.2.1 81 = .ok (.iconst 0, 1) := by decide +kernel
theorem d_X6_addInmate_82 : decode mX6_addInmate.2.1 82 = .ok (.iastore, 1) := by decide +kernel
theorem d_X6_addInmate_83 : decode mX6_addInmate.2.1 83 = .ok (.aload_n 0, 1) := by decide +kernel
theorem d_X6_addInmate_84 : decode mX6_addInmate.2.1 84 = .ok (.getfield 10, 3) := by decide +kernel
theorem d_X6_addInmate_87 : decode mX6_addInmate.2.1 87 = .ok (.getfield 75, 3) := by decide +kernel
theorem d_X6_addInmate_90 : decode mX6_addInmate.2.1 90 = .ok (.getfield 94, 3) := by decide +kernel
theorem d_X6_addInmate_93 : decode mX6_addInmate.2.1 93 = .ok (.iconst 1, 1) := by decide +kernel
theorem d_X6_addInmate_94 : decode mX6_addInmate.2.1 94 = .ok (.isub, 1) := by decide +kernel
theorem d_X6_addInmate_95 : decode mX6_addInmate.2.1 95 = .ok (.ireturn, 1) := by decide +kernel
def T_X6_addInmate_16 (Q : Int32 → Mem → Prop) (X : String → Mem → Prop) (M : Mem) : Prop := X "java/lang/IllegalArgumentException" M
set_option maxRecDepth 100000 in
set_option maxHeartbeats 4000000 in
theorem B_X6_addInmate_16 {g : GG} (Q : Int32 → Mem → Prop) (X : String → Mem → Prop) (M : Mem) (h : T_X6_addInmate_16 Q X  M) : WP g 13 mX6_addInmate 16 [none, none, none, none] [] M 1 (oI Q X) := by
  unfold T_X6_addInmate_16 at h
  exact R_throw rfl rfl thr_RX6_68_70_72 (by decide) (by decide) (Nat.le_of_ble_eq_true rfl) d_X6_addInmate_16 d_X6_addInmate_19 d_X6_addInmate_20 d_X6_addInmate_22 d_X6_addInmate_25 h
def T_X6_addInmate (Q : Int32 → Mem → Prop) (X : String → Mem → Prop) (v0 : Nat) (v1 : Int32) (v2 : Int32) (M : Mem) : Prop := T_X6_isBelow (fun y2 M1 => if y2 = 0 then (T_X6_addInmate_16 Q X M1) else (T_X6_isBelow (fun y4 M3 => if y4 = 0 then (T_X6_addInmate_16 Q X M3) else ((kd v0 = 6) ∧ (kd (rf v0 0) = 3) ∧ (kd (rf (rf v0 0) 2) = 4) ∧ T_X4_isFull (fun y9 M8 => if y9 = 0 then ((kd (rf v0 3) = 1) ∧ T_X1_keep (fun M11 => T_X4_addRow (fun y13 M12 => (kd y13 = 9) ∧ (vp_in 0 (ln y13)) ∧ ∀ M16 : Mem, M16 = mset M12 y13 (Int32.toNatClampNeg 0) v1 → (vp_in 1 (ln y13)) ∧ ∀ M18 : Mem, M18 = mset M16 y13 (Int32.toNatClampNeg 1) v2 → (vp_in 2 (ln y13)) ∧ ∀ M20 : Mem, M20 = mset M18 y13 (Int32.toNatClampNeg 2) 0 → Q ((M20.1 (rf (rf v0 0) 2) 2) - 1) M20)  (rf (rf v0 0) 2) M11)  (rf v0 3) (rf v0 0) M8) else (X "java/lang/IllegalStateException" M8))  (rf (rf v0 0) 2) M3))  v2 3 M1))  v1 4 M
set_option maxRecDepth 100000 in
set_option maxHeartbeats 4000000 in
theorem c_X6_addInmate {g : GG} (v0 : Nat) (v1 : Int32) (v2 : Int32) (M : Mem) (Q : Int32 → Mem → Prop) (X : String → Mem → Prop) (h : T_X6_addInmate Q X v0 v1 v2 M) : CT g 13 mX6_addInmate [.ref (g.1 + v0), .int v1, .int v2] M 1 (oI Q X) := by
  refine CT_of (L := [some (.ref (g.1 + v0)), some (.int v1), some (.int v2), none]) (by decide) rfl (Nat.le_of_ble_eq_true rfl) (ro_I rfl) rfl ?_
  unfold T_X6_addInmate at h
  refine R_iload_n (pc := 0) d_X6_addInmate_0 rfl rfl ?_
  refine R_iconst (pc := 1) (v := 4) d_X6_addInmate_1 (by decide) ?_
  refine R_callS (pc := 2) (As := [.int v1, .int 4]) (rest := []) (c_X6_isBelow (g := g) v1 4 M _ h) rfl rfl cal_RX6_64 sta_X6_isBelow (by decide) (by decide) rfl rfl (Nat.le_of_ble_eq_true rfl) d_X6_addInmate_2 (k_Z (fun y2 M1 h => ?_)) (fun _ _ h9 => False.elim h9)
  try dsimp only at h
  refine R_if_eq (pc := 5) (tgt := 16) d_X6_addInmate_5 (by decide) (fun c => ?_) (fun c => ?_)
  · rw [if_pos c] at h
    exact WP_sub (B_X6_addInmate_16 Q X M1 h) (by decide) (ls_n (ls_n (ls_n (ls_n ls_0))))
  · rw [if_neg c] at h
    refine R_iload_n (pc := 8) d_X6_addInmate_8 rfl rfl ?_
    refine R_iconst (pc := 9) (v := 3) d_X6_addInmate_9 (by decide) ?_
    refine R_callS (pc := 10) (As := [.int v2, .int 3]) (rest := []) (c_X6_isBelow (g := g) v2 3 M1 _ h) rfl rfl cal_RX6_64 sta_X6_isBelow (by decide) (by decide) rfl rfl (Nat.le_of_ble_eq_true rfl) d_X6_addInmate_10 (k_Z (fun y4 M3 h => ?_)) (fun _ _ h9 => False.elim h9)
    try dsimp only at h
    refine R_if_ne (pc := 13) (tgt := 26) d_X6_addInmate_13 (by decide) (fun c => ?_) (fun c => ?_)
    · rw [if_neg c] at h
      refine R_aload_n (pc := 26) d_X6_addInmate_26 rfl rfl ?_
      obtain ⟨k5, h⟩ := h
      refine R_getR (pc := 27) fld_RX6_10 rfl rfl k5 d_X6_addInmate_27 ?_
      obtain ⟨k6, h⟩ := h
      refine R_getR (pc := 30) fld_RX6_75 rfl rfl k6 d_X6_addInmate_30 ?_
      obtain ⟨k7, h⟩ := h
      refine R_callV (pc := 33) (As := []) (rest := []) (c_X4_isFull (g := g) (rf (rf v0 0) 2) M3 _ h) rfl rfl cal_RX6_78 ins_X4_isFull sel_X4_isFull (cls_at k7 clsOK4) (by decide) (by decide) rfl rfl (Nat.le_of_ble_eq_true rfl) d_X6_addInmate_33 (k_Z (fun y9 M8 h => ?_)) (fun _ _ h9 => False.elim h9)
      try dsimp only at h
      refine R_if_eq (pc := 36) (tgt := 49) d_X6_addInmate_36 (by decide) (fun c => ?_) (fun c => ?_)
      · rw [if_pos c] at h
        refine R_aload_n (pc := 49) d_X6_addInmate_49 rfl rfl ?_
        refine R_getR (pc := 50) fld_RX6_26 rfl rfl k5 d_X6_addInmate_50 ?_
        refine R_aload_n (pc := 53) d_X6_addInmate_53 rfl rfl ?_
        refine R_getR (pc := 54) fld_RX6_10 rfl rfl k5 d_X6_addInmate_54 ?_
        obtain ⟨k10, h⟩ := h
        refine R_callV (pc := 57) (As := [.ref (g.1 + (rf v0 0))]) (rest := []) (c_X1_keep (g := g) (rf v0 3) (rf v0 0) M8 _ h) rfl rfl cal_RX6_87 ins_X1_keep sel_X1_keep (cls_at k10 clsOK1) (by decide) (by decide) rfl rfl (Nat.le_of_ble_eq_true rfl) d_X6_addInmate_57 (k_V (fun M11 h => ?_)) (fun _ _ h9 => False.elim h9)
        try dsimp only at h
        refine R_aload_n (pc := 60) d_X6_addInmate_60 rfl rfl ?_
        refine R_getR (pc := 61) fld_RX6_10 rfl rfl k5 d_X6_addInmate_61 ?_
        refine R_getR (pc := 64) fld_RX6_75 rfl rfl k6 d_X6_addInmate_64 ?_
        refine R_callV (pc := 67) (As := []) (rest := []) (c_X4_addRow (g := g) (rf (rf v0 0) 2) M11 _ h) rfl rfl cal_RX6_90 ins_X4_addRow sel_X4_addRow (cls_at k7 clsOK4) (by decide) (by decide) rfl rfl (Nat.le_of_ble_eq_true rfl) d_X6_addInmate_67 (k_R (fun y13 M12 h => ?_)) (fun _ _ h9 => False.elim h9)
        try dsimp only at h
        refine R_astore_n (pc := 70) (L' := [some (.ref (g.1 + v0)), some (.int v1), some (.int v2), some (.ref (g.1 + y13))]) d_X6_addInmate_70 rfl (by decide) rfl ?_
        refine R_aload_n (pc := 71) d_X6_addInmate_71 rfl rfl ?_
        refine R_iconst (pc := 72) (v := 0) d_X6_addInmate_72 (by decide) ?_
        refine R_iload_n (pc := 73) d_X6_addInmate_73 rfl rfl ?_
        obtain ⟨k14, h⟩ := h
        obtain ⟨k15, h⟩ := h
        refine R_iast (pc := 74) k14 k15 d_X6_addInmate_74 (N_M (fun M16 eM16 => ?_))
        have h := h M16 eM16
        refine R_aload_n (pc := 75) d_X6_addInmate_75 rfl rfl ?_
        refine R_iconst (pc := 76) (v := 1) d_X6_addInmate_76 (by decide) ?_
        refine R_iload_n (pc := 77) d_X6_addInmate_77 rfl rfl ?_
        obtain ⟨k17, h⟩ := h
        refine R_iast (pc := 78) k14 k17 d_X6_addInmate_78 (N_M (fun M18 eM18 => ?_))
        have h := h M18 eM18
        refine R_aload_n (pc := 79) d_X6_addInmate_79 rfl rfl ?_
        refine R_iconst (pc := 80) (v := 2) d_X6_addInmate_80 (by decide) ?_
        refine R_iconst (pc := 81) (v := 0) d_X6_addInmate_81 (by decide) ?_
        obtain ⟨k19, h⟩ := h
        refine R_iast (pc := 82) k14 k19 d_X6_addInmate_82 (N_M (fun M20 eM20 => ?_))
        have h := h M20 eM20
        refine R_aload_n (pc := 83) d_X6_addInmate_83 rfl rfl ?_
        refine R_getR (pc := 84) fld_RX6_10 rfl rfl k5 d_X6_addInmate_84 ?_
        refine R_getR (pc := 87) fld_RX6_75 rfl rfl k6 d_X6_addInmate_87 ?_
        refine R_getI (pc := 90) fld_RX6_94 rfl rfl k7 d_X6_addInmate_90 ?_
        refine R_iconst (pc := 93) (v := 1) d_X6_addInmate_93 (by decide) ?_
        refine R_isub (pc := 94) d_X6_addInmate_94 ?_
        exact R_retv (pc := 95) d_X6_addInmate_95 h
      · rw [if_neg c] at h
        exact R_throw rfl rfl thr_RX6_82_84_86 (by decide) (by decide) (Nat.le_of_ble_eq_true rfl) d_X6_addInmate_39 d_X6_addInmate_42 d_X6_addInmate_43 d_X6_addInmate_45 d_X6_addInmate_48 h
    · rw [if_pos c] at h
      exact WP_sub (B_X6_addInmate_16 Q X M3 h) (by decide) (ls_n (ls_n (ls_n (ls_n ls_0))))
/-! X6_addVisitor -/
theorem d_X6_addVisitor_0 : decode mX6_addVisitor.2.1 0 = .ok (.iload_n 1, 1) := by decide +kernel
theorem d_X6_addVisitor_1 : decode mX6_addVisitor.2.1 1 = .ok (.iconst 3, 1) := by decide +kernel
theorem d_X6_addVisitor_2 : decode mX6_addVisitor.2.1 2 = .ok (.invokestatic 64, 3) := by decide +kernel
theorem d_X6_addVisitor_5 : decode mX6_addVisitor.2.1 5 = .ok (.ifCond .ne 13, 3) := by decide +kernel
theorem d_X6_addVisitor_8 : decode mX6_addVisitor.2.1 8 = .ok (.new 68, 3) := by decide +kernel
theorem d_X6_addVisitor_11 : decode mX6_addVisitor.2.1 11 = .ok (.dup, 1) := by decide +kernel
theorem d_X6_addVisitor_12 : decode mX6_addVisitor.2.1 12 = .ok (.ldc 98, 2) := by decide +kernel
theorem d_X6_addVisitor_14 : decode mX6_addVisitor.2.1 14 = .ok (.invokespecial 72, 3) := by decide +kernel
theorem d_X6_addVisitor_17 : decode mX6_addVisitor.2.1 17 = .ok (.athrow, 1) := by decide +kernel
theorem d_X6_addVisitor_18 : decode mX6_addVisitor.2.1 18 = .ok (.aload_n 0, 1) := by decide +kernel
theorem d_X6_addVisitor_19 : decode mX6_addVisitor.2.1 19 = .ok (.getfield 10, 3) := by decide +kernel
theorem d_X6_addVisitor_22 : decode mX6_addVisitor.2.1 22 = .ok (.getfield 100, 3) := by decide +kernel
theorem d_X6_addVisitor_25 : decode mX6_addVisitor.2.1 25 = .ok (.invokevirtual 78, 3) := by decide +kernel
theorem d_X6_addVisitor_28 : decode mX6_addVisitor.2.1 28 = .ok (.ifCond .eq 13, 3) := by decide +kernel
theorem d_X6_addVisitor_31 : decode mX6_addVisitor.2.1 31 = .ok (.new 82, 3) := by decide +kernel
theorem d_X6_addVisitor_34 : decode mX6_addVisitor.2.1 34 = .ok (.dup, 1) := by decide +kernel
theorem d_X6_addVisitor_35 : decode mX6_addVisitor.2.1 35 = .ok (.ldc 103, 2) := by decide +kernel
theorem d_X6_addVisitor_37 : decode mX6_addVisitor.2.1 37 = .ok (.invokespecial 86, 3) := by decide +kernel
theorem d_X6_addVisitor_40 : decode mX6_addVisitor.2.1 40 = .ok (.athrow, 1) := by decide +kernel
theorem d_X6_addVisitor_41 : decode mX6_addVisitor.2.1 41 = .ok (.aload_n 0, 1) := by decide +kernel
theorem d_X6_addVisitor_42 : decode mX6_addVisitor.2.1 42 = .ok (.getfield 26, 3) := by decide +kernel
theorem d_X6_addVisitor_45 : decode mX6_addVisitor.2.1 45 = .ok (.aload_n 0, 1) := by decide +kernel
theorem d_X6_addVisitor_46 : decode mX6_addVisitor.2.1 46 = .ok (.getfield 10, 3) := by decide +kernel
theorem d_X6_addVisitor_49 : decode mX6_addVisitor.2.1 49 = .ok (.invokevirtual 87, 3) := by decide +kernel
theorem d_X6_addVisitor_52 : decode mX6_addVisitor.2.1 52 = .ok (.aload_n 0, 1) := by decide +kernel
theorem d_X6_addVisitor_53 : decode mX6_addVisitor.2.1 53 = .ok (.getfield 10, 3) := by decide +kernel
theorem d_X6_addVisitor_56 : decode mX6_addVisitor.2.1 56 = .ok (.getfield 100, 3) := by decide +kernel
theorem d_X6_addVisitor_59 : decode mX6_addVisitor.2.1 59 = .ok (.invokevirtual 90, 3) := by decide +kernel
theorem d_X6_addVisitor_62 : decode mX6_addVisitor.2.1 62 = .ok (.astore_n 2, 1) := by decide +kernel
theorem d_X6_addVisitor_63 : decode mX6_addVisitor.2.1 63 = .ok (.aload_n 2, 1) := by decide +kernel
theorem d_X6_addVisitor_64 : decode mX6_addVisitor.2.1 64 = .ok (.iconst 0, 1) := by decide +kernel
theorem d_X6_addVisitor_65 : decode mX6_addVisitor.2.1 65 = .ok (.iload_n 1, 1) := by decide +kernel
theorem d_X6_addVisitor_66 : decode mX6_addVisitor.2.1 66 = .ok (.iastore, 1) := by decide +kernel
theorem d_X6_addVisitor_67 : decode mX6_addVisitor.2.1 67 = .ok (.aload_n 0, 1) := by decide +kernel
theorem d_X6_addVisitor_68 : decode mX6_addVisitor.2.1 68 = .ok (.getfield 10, 3) := by decide +kernel
theorem d_X6_addVisitor_71 : decode mX6_addVisitor.2.1 71 = .ok (.getfield 100, 3) := by decide +kernel
theorem d_X6_addVisitor_74 : decode mX6_addVisitor.2.1 74 = .ok (.getfield 94, 3) := by decide +kernel
theorem d_X6_addVisitor_77 : decode mX6_addVisitor.2.1 77 = .ok (.iconst 1, 1) := by decide +kernel
theorem d_X6_addVisitor_78 : decode mX6_addVisitor.2.1 78 = .ok (.isub, 1) := by decide +kernel
theorem d_X6_addVisitor_79 : decode mX6_addVisitor.2.1 79 = .ok (.ireturn, 1) := by decide +kernel
def T_X6_addVisitor (Q : Int32 → Mem → Prop) (X : String → Mem → Prop) (v0 : Nat) (v1 : Int32) (M : Mem) : Prop := T_X6_isBelow (fun y2 M1 => if y2 = 0 then (X "java/lang/IllegalArgumentException" M1) else ((kd v0 = 6) ∧ (kd (rf v0 0) = 3) ∧ (kd (rf (rf v0 0) 3) = 4) ∧ T_X4_isFull (fun y7 M6 => if y7 = 0 then ((kd (rf v0 3) = 1) ∧ T_X1_keep (fun M9 => T_X4_addRow (fun y11 M10 => (kd y11 = 9) ∧ (vp_in 0 (ln y11)) ∧ ∀ M14 : Mem, M14 = mset M10 y11 (Int32.toNatClampNeg 0) v1 → Q ((M14.1 (rf (rf v0 0) 3) 2) - 1) M14)  (rf (rf v0 0) 3) M9)  (rf v0 3) (rf v0 0) M6) else (X "java/lang/IllegalStateException" M6))  (rf (rf v0 0) 3) M1))  v1 3 M
set_option maxRecDepth 100000 in
set_option maxHeartbeats 4000000 in
theorem c_X6_addVisitor {g : GG} (v0 : Nat) (v1 : Int32) (M : Mem) (Q : Int32 → Mem → Prop) (X : String → Mem → Prop) (h : T_X6_addVisitor Q X v0 v1 M) : CT g 13 mX6_addVisitor [.ref (g.1 + v0), .int v1] M 1 (oI Q X) := by
  refine CT_of (L := [some (.ref (g.1 + v0)), some (.int v1), none]) (by decide) rfl (Nat.le_of_ble_eq_true rfl) (ro_I rfl) rfl ?_
  unfold T_X6_addVisitor at h
  refine R_iload_n (pc := 0) d_X6_addVisitor_0 rfl rfl ?_
  refine R_iconst (pc := 1) (v := 3) d_X6_addVisitor_1 (by decide) ?_
  refine R_callS (pc := 2) (As := [.int v1, .int 3]) (rest := []) (c_X6_isBelow (g := g) v1 3 M _ h) rfl rfl cal_RX6_64 sta_X6_isBelow (by decide) (by decide) rfl rfl (Nat.le_of_ble_eq_true rfl) d_X6_addVisitor_2 (k_Z (fun y2 M1 h => ?_)) (fun _ _ h9 => False.elim h9)
  try dsimp only at h
  refine R_if_ne (pc := 5) (tgt := 18) d_X6_addVisitor_5 (by decide) (fun c => ?_) (fun c => ?_)
  · rw [if_neg c] at h
    refine R_aload_n (pc := 18) d_X6_addVisitor_18 rfl rfl ?_
    obtain ⟨k3, h⟩ := h
    refine R_getR (pc := 19) fld_RX6_10 rfl rfl k3 d_X6_addVisitor_19 ?_
    obtain ⟨k4, h⟩ := h
    refine R_getR (pc := 22) fld_RX6_100 rfl rfl k4 d_X6_addVisitor_22 ?_
    obtain ⟨k5, h⟩ := h
    refine R_callV (pc := 25) (As := []) (rest := []) (c_X4_isFull (g := g) (rf (rf v0 0) 3) M1 _ h) rfl rfl cal_RX6_78 ins_X4_isFull sel_X4_isFull (cls_at k5 clsOK4) (by decide) (by decide) rfl rfl (Nat.le_of_ble_eq_true rfl) d_X6_addVisitor_25 (k_Z (fun y7 M6 h => ?_)) (fun _ _ h9 => False.elim h9)
    try dsimp only at h
    refine R_if_eq (pc := 28) (tgt := 41) d_X6_addVisitor_28 (by decide) (fun c => ?_) (fun c => ?_)
    · rw [if_pos c] at h
      refine R_aload_n (pc := 41) d_X6_addVisitor_41 rfl rfl ?_
      refine R_getR (pc := 42) fld_RX6_26 rfl rfl k3 d_X6_addVisitor_42 ?_
      refine R_aload_n (pc := 45) d_X6_addVisitor_45 rfl rfl ?_
      refine R_getR (pc := 46) fld_RX6_10 rfl rfl k3 d_X6_addVisitor_46 ?_
      obtain ⟨k8, h⟩ := h
      refine R_callV (pc := 49) (As := [.ref (g.1 + (rf v0 0))]) (rest := []) (c_X1_keep (g := g) (rf v0 3) (rf v0 0) M6 _ h) rfl rfl cal_RX6_87 ins_X1_keep sel_X1_keep (cls_at k8 clsOK1) (by decide) (by decide) rfl rfl (Nat.le_of_ble_eq_true rfl) d_X6_addVisitor_49 (k_V (fun M9 h => ?_)) (fun _ _ h9 => False.elim h9)
      try dsimp only at h
      refine R_aload_n (pc := 52) d_X6_addVisitor_52 rfl rfl ?_
      refine R_getR (pc := 53) fld_RX6_10 rfl rfl k3 d_X6_addVisitor_53 ?_
      refine R_getR (pc := 56) fld_RX6_100 rfl rfl k4 d_X6_addVisitor_56 ?_
      refine R_callV (pc := 59) (As := []) (rest := []) (c_X4_addRow (g := g) (rf (rf v0 0) 3) M9 _ h) rfl rfl cal_RX6_90 ins_X4_addRow sel_X4_addRow (cls_at k5 clsOK4) (by decide) (by decide) rfl rfl (Nat.le_of_ble_eq_true rfl) d_X6_addVisitor_59 (k_R (fun y11 M10 h => ?_)) (fun _ _ h9 => False.elim h9)
      try dsimp only at h
      refine R_astore_n (pc := 62) (L' := [some (.ref (g.1 + v0)), some (.int v1), some (.ref (g.1 + y11))]) d_X6_addVisitor_62 rfl (by decide) rfl ?_
      refine R_aload_n (pc := 63) d_X6_addVisitor_63 rfl rfl ?_
      refine R_iconst (pc := 64) (v := 0) d_X6_addVisitor_64 (by decide) ?_
      refine R_iload_n (pc := 65) d_X6_addVisitor_65 rfl rfl ?_
      obtain ⟨k12, h⟩ := h
      obtain ⟨k13, h⟩ := h
      refine R_iast (pc := 66) k12 k13 d_X6_addVisitor_66 (N_M (fun M14 eM14 => ?_))
      have h := h M14 eM14
      refine R_aload_n (pc := 67) d_X6_addVisitor_67 rfl rfl ?_
      refine R_getR (pc := 68) fld_RX6_10 rfl rfl k3 d_X6_addVisitor_68 ?_
      refine R_getR (pc := 71) fld_RX6_100 rfl rfl k4 d_X6_addVisitor_71 ?_
      refine R_getI (pc := 74) fld_RX6_94 rfl rfl k5 d_X6_addVisitor_74 ?_
      refine R_iconst (pc := 77) (v := 1) d_X6_addVisitor_77 (by decide) ?_
      refine R_isub (pc := 78) d_X6_addVisitor_78 ?_
      exact R_retv (pc := 79) d_X6_addVisitor_79 h
    · rw [if_neg c] at h
      exact R_throw rfl rfl thr_RX6_82_103_86 (by decide) (by decide) (Nat.le_of_ble_eq_true rfl) d_X6_addVisitor_31 d_X6_addVisitor_34 d_X6_addVisitor_35 d_X6_addVisitor_37 d_X6_addVisitor_40 h
  · rw [if_pos c] at h
    exact R_throw rfl rfl thr_RX6_68_98_72 (by decide) (by decide) (Nat.le_of_ble_eq_true rfl) d_X6_addVisitor_8 d_X6_addVisitor_11 d_X6_addVisitor_12 d_X6_addVisitor_14 d_X6_addVisitor_17 h
/-! X6_addRoom -/
theorem d_X6_addRoom_0 : decode mX6_addRoom.2.1 0 = .ok (.iload_n 1, 1) := by decide +kernel
theorem d_X6_addRoom_1 : decode mX6_addRoom.2.1 1 = .ok (.iconst 4, 1) := by decide +kernel
theorem d_X6_addRoom_2 : decode mX6_addRoom.2.1 2 = .ok (.invokestatic 64, 3) := by decide +kernel
theorem d_X6_addRoom_5 : decode mX6_addRoom.2.1 5 = .ok (.ifCond .eq 13, 3) := by decide +kernel
theorem d_X6_addRoom_8 : decode mX6_addRoom.2.1 8 = .ok (.iload_n 2, 1) := by decide +kernel
theorem d_X6_addRoom_9 : decode mX6_addRoom.2.1 9 = .ok (.iconst 1, 1) := by decide +kernel
theorem d_X6_addRoom_10 : decode mX6_addRoom.2.1 10 = .ok (.if_icmp .lt 8, 3) := by decide +kernel
theorem d_X6_addRoom_13 : decode mX6_addRoom.2.1 13 = .ok (.iload_n 2, 1) := by decide +kernel
theorem d_X6_addRoom_14 : decode mX6_addRoom.2.1 14 = .ok (.iconst 3, 1) := by decide +kernel
theorem d_X6_addRoom_15 : decode mX6_addRoom.2.1 15 = .ok (.if_icmp .le 13, 3) := by decide +kernel
theorem d_X6_addRoom_18 : decode mX6_addRoom.2.1 18 = .ok (.new 68, 3) := by decide +kernel
theorem d_X6_addRoom_21 : decode mX6_addRoom.2.1 21 = .ok (.dup, 1) := by decide +kernel
theorem d_X6_addRoom_22 : decode mX6_addRoom.2.1 22 = .ok (.ldc 105, 2) := by decide +kernel
theorem d_X6_addRoom_24 : decode mX6_addRoom.2.1 24 = .ok (.invokespecial 72, 3) := by decide +kernel
theorem d_X6_addRoom_27 : decode mX6_addRoom.2.1 27 = .ok (.athrow, 1) := by decide +kernel
theorem d_X6_addRoom_28 : decode mX6_addRoom.2.1 28 = .ok (.aload_n 0, 1) := by decide +kernel
theorem d_X6_addRoom_29 : decode mX6_addRoom.2.1 29 = .ok (.getfield 10, 3) := by decide +kernel
theorem d_X6_addRoom_32 : decode mX6_addRoom.2.1 32 = .ok (.getfield 107, 3) := by decide +kernel
theorem d_X6_addRoom_35 : decode mX6_addRoom.2.1 35 = .ok (.invokevirtual 78, 3) := by decide +kernel
theorem d_X6_addRoom_38 : decode mX6_addRoom.2.1 38 = .ok (.ifCond .eq 13, 3) := by decide +kernel
theorem d_X6_addRoom_41 : decode mX6_addRoom.2.1 41 = .ok (.new 82, 3) := by decide +kernel
theorem d_X6_addRoom_44 : decode mX6_addRoom.2.1 44 = .ok (.dup, 1) := by decide +kernel
theorem d_X6_addRoom_45 : decode mX6_addRoom.2.1 45 = .ok (.ldc 110, 2) := by decide +kernel
theorem d_X6_addRoom_47 : decode mX6_addRoom.2.1 47 = .ok (.invokespecial 86, 3) := by decide +kernel
theorem d_X6_addRoom_50 : decode mX6_addRoom.2.1 50 = .ok (.athrow, 1) := by decide +kernel
theorem d_X6_addRoom_51 : decode mX6_addRoom.2.1 51 = .ok (.aload_n 0, 1) := by decide +kernel
theorem d_X6_addRoom_52 : decode mX6_addRoom.2.1 52 = .ok (.getfield 26, 3) := by decide +kernel
theorem d_X6_addRoom_55 : decode mX6_addRoom.2.1 55 = .ok (.aload_n 0, 1) := by decide +kernel
theorem d_X6_addRoom_56 : decode mX6_addRoom.2.1 56 = .ok (.getfield 10, 3) := by decide +kernel
theorem d_X6_addRoom_59 : decode mX6_addRoom.2.1 59 = .ok (.invokevirtual 87, 3) := by decide +kernel
theorem d_X6_addRoom_62 : decode mX6_addRoom.2.1 62 = .ok (.aload_n 0, 1) := by decide +kernel
theorem d_X6_addRoom_63 : decode mX6_addRoom.2.1 63 = .ok (.getfield 10, 3) := by decide +kernel
theorem d_X6_addRoom_66 : decode mX6_addRoom.2.1 66 = .ok (.getfield 107, 3) := by decide +kernel
theorem d_X6_addRoom_69 : decode mX6_addRoom.2.1 69 = .ok (.invokevirtual 90, 3) := by decide +kernel
theorem d_X6_addRoom_72 : decode mX6_addRoom.2.1 72 = .ok (.astore 4, 2) := by decide +kernel
theorem d_X6_addRoom_74 : decode mX6_addRoom.2.1 74 = .ok (.aload 4, 2) := by decide +kernel
theorem d_X6_addRoom_76 : decode mX6_addRoom.2.1 76 = .ok (.iconst 0, 1) := by decide +kernel
theorem d_X6_addRoom_77 : decode mX6_addRoom.2.1 77 = .ok (.iload_n 1, 1) := by decide +kernel
theorem d_X6_addRoom_78 : decode mX6_addRoom.2.1 78 = .ok (.iastore, 1) := by decide +kernel
theorem d_X6_addRoom_79 : decode mX6_addRoom.2.1 79 = .ok (.aload 4, 2) := by decide +kernel
theorem d_X6_addRoom_81 : decode mX6_addRoom.2.1 81 = .ok (.iconst 1, 1) := by decide +kernel
theorem d_X6_addRoom_82 : decode mX6_addRoom.2.1 82 = .ok (.iload_n 2, 1) := by decide +kernel
theorem d_X6_addRoom_83 : decode mX6_addRoom.2.1 83 = .ok (.iastore, 1) := by decide +kernel
theorem d_X6_addRoom_84 : decode mX6_addRoom.2.1 84 = .ok (.aload 4, 2) := by decide +kernel
theorem d_X6_addRoom_86 : decode mX6_addRoom.2.1 86 = .ok (.iconst 2, 1) := by decide +kernel
theorem d_X6_addRoom_87 : decode mX6_addRoom.2.1 87 = .ok (.iload_n 3, 1) := by decide +kernel
theorem d_X6_addRoom_88 : decode mX6_addRoom.2.1 88 = .ok (.ifCond .eq 7, 3) := by decide +kernel
theorem d_X6_addRoom_91 : decode mX6_addRoom.2.1 91 = .ok (.iconst 1, 1) := by decide +kernel
theorem d_X6_addRoom_92 : decode mX6_addRoom.2.1 92 = .ok (.goto 4, 3) := by decide +kernel
theorem d_X6_addRoom_95 : decode mX6_addRoom.2.1 95 = .ok (.iconst 0, 1) := by decide +kernel
theorem d_X6_addRoom_96 : decode mX6_addRoom.2.1 96 = .ok (.iastore, 1) := by decide +kernel
theorem d_X6_addRoom_97 : decode mX6_addRoom.2.1 97 = .ok (.aload 4, 2) := by decide +kernel
theorem d_X6_addRoom_99 : decode mX6_addRoom.2.1 99 = .ok (.iconst 3, 1) := by decide +kernel
theorem d_X6_addRoom_100 : decode mX6_addRoom.2.1 100 = .ok (.iconst 1, 1) := by decide +kernel
theorem d_X6_addRoom_101 : decode mX6_addRoom.2.1 101 = .ok (.iastore, 1) := by decide +kernel
theorem d_X6_addRoom_102 : decode mX6_addRoom.2.1 102 = .ok (.aload_n 0, 1) := by decide +kernel
theorem d_X6_addRoom_103 : decode mX6_addRoom.2.1 103 = .ok (.getfield 10, 3) := by decide +kernel
theorem d_X6_addRoom_106 : decode mX6_addRoom.2.1 106 = .ok (.getfield 107, 3) := by decide +kernel
theorem d_X6_addRoom_109 : decode mX6_addRoom.2.1 109 = .ok (.getfield 94, 3) := by decide +kernel
theorem d_X6_addRoom_112 : decode mX6_addRoom.2.1 112 = .ok (.iconst 1, 1) := by decide +kernel
theorem d_X6_addRoom_113 : decode mX6_addRoom.2.1 113 = .ok (.isub, 1) := by decide +kernel
theorem d_X6_addRoom_114 : decode mX6_addRoom.2.1 114 = .ok (.ireturn, 1) := by decide +kernel
def T_X6_addRoom_96 (Q : Int32 → Mem → Prop) (X : String → Mem → Prop) (v0 : Nat) (v4 : Nat) (s0 : Int32) (s1 : Int32) (s2 : Nat) (M : Mem) : Prop := (kd s2 = 9) ∧ (vp_in s1 (ln s2)) ∧ ∀ M3 : Mem, M3 = mset M s2 (Int32.toNatClampNeg s1) s0 → (kd v4 = 9) ∧ (vp_in 3 (ln v4)) ∧ ∀ M6 : Mem, M6 = mset M3 v4 (Int32.toNatClampNeg 3) 1 → (kd v0 = 6) ∧ (kd (rf v0 0) = 3) ∧ (kd (rf (rf v0 0) 4) = 4) ∧ Q ((M6.1 (rf (rf v0 0) 4) 2) - 1) M6
set_option maxRecDepth 100000 in
set_option maxHeartbeats 4000000 in
theorem B_X6_addRoom_96 {g : GG} (Q : Int32 → Mem → Prop) (X : String → Mem → Prop) (v0 : Nat) (v4 : Nat) (s0 : Int32) (s1 : Int32) (s2 : Nat) (M : Mem) (h : T_X6_addRoom_96 Q X v0 v4 s0 s1 s2 M) : WP g 13 mX6_addRoom 96 [some (.ref (g.1 + v0)), none, none, none, some (.ref (g.1 + v4))] [.int s0, .int s1, .ref (g.1 + s2)] M 1 (oI Q X) := by
  unfold T_X6_addRoom_96 at h
  obtain ⟨k1, h⟩ := h
  obtain ⟨k2, h⟩ := h
  refine R_iast (pc := 96) k1 k2 d_X6_addRoom_96 (N_M (fun M3 eM3 => ?_))
  have h := h M3 eM3
  refine R_aload (pc := 97) d_X6_addRoom_97 rfl ?_
  refine R_iconst (pc := 99) (v := 3) d_X6_addRoom_99 (by decide) ?_
  refine R_iconst (pc := 100) (v := 1) d_X6_addRoom_100 (by decide) ?_
  obtain ⟨k4, h⟩ := h
  obtain ⟨k5, h⟩ := h
  refine R_iast (pc := 101) k4 k5 d_X6_addRoom_101 (N_M (fun M6 eM6 => ?_))
  have h := h M6 eM6
  refine R_aload_n (pc := 102) d_X6_addRoom_102 rfl rfl ?_
  obtain ⟨k7, h⟩ := h
  refine R_getR (pc := 103) fld_RX6_10 rfl rfl k7 d_X6_addRoom_103 ?_
  obtain ⟨k8, h⟩ := h
  refine R_getR (pc := 106) fld_RX6_107 rfl rfl k8 d_X6_addRoom_106 ?_
  obtain ⟨k9, h⟩ := h
  refine R_getI (pc := 109) fld_RX6_94 rfl rfl k9 d_X6_addRoom_109 ?_
  refine R_iconst (pc := 112) (v := 1) d_X6_addRoom_112 (by decide) ?_
  refine R_isub (pc := 113) d_X6_addRoom_113 ?_
  exact R_retv (pc := 114) d_X6_addRoom_114 h
def T_X6_addRoom_18 (Q : Int32 → Mem → Prop) (X : String → Mem → Prop) (M : Mem) : Prop := X "java/lang/IllegalArgumentException" M
set_option maxRecDepth 100000 in
set_option maxHeartbeats 4000000 in
theorem B_X6_addRoom_18 {g : GG} (Q : Int32 → Mem → Prop) (X : String → Mem → Prop) (M : Mem) (h : T_X6_addRoom_18 Q X  M) : WP g 13 mX6_addRoom 18 [none, none, none, none, none] [] M 1 (oI Q X) := by
  unfold T_X6_addRoom_18 at h
  exact R_throw rfl rfl thr_RX6_68_105_72 (by decide) (by decide) (Nat.le_of_ble_eq_true rfl) d_X6_addRoom_18 d_X6_addRoom_21 d_X6_addRoom_22 d_X6_addRoom_24 d_X6_addRoom_27 h
def T_X6_addRoom (Q : Int32 → Mem → Prop) (X : String → Mem → Prop) (v0 : Nat) (v1 : Int32) (v2 : Int32) (v3 : Int32) (M : Mem) : Prop := T_X6_isBelow (fun y2 M1 => if y2 = 0 then (T_X6_addRoom_18 Q X M1) else (if v2 < (1 : Int32) then (T_X6_addRoom_18 Q X M1) else (if v2 ≤ (3 : Int32) then ((kd v0 = 6) ∧ (kd (rf v0 0) = 3) ∧ (kd (rf (rf v0 0) 4) = 4) ∧ T_X4_isFull (fun y7 M6 => if y7 = 0 then ((kd (rf v0 3) = 1) ∧ T_X1_keep (fun M9 => T_X4_addRow (fun y11 M10 => (kd y11 = 9) ∧ (vp_in 0 (ln y11)) ∧ ∀ M14 : Mem, M14 = mset M10 y11 (Int32.toNatClampNeg 0) v1 → (vp_in 1 (ln y11)) ∧ ∀ M16 : Mem, M16 = mset M14 y11 (Int32.toNatClampNeg 1) v2 → if v3 = 0 then (T_X6_addRoom_96 Q X v0 y11 0 2 y11 M16) else (T_X6_addRoom_96 Q X v0 y11 1 2 y11 M16))  (rf (rf v0 0) 4) M9)  (rf v0 3) (rf v0 0) M6) else (X "java/lang/IllegalStateException" M6))  (rf (rf v0 0) 4) M1) else (T_X6_addRoom_18 Q X M1))))  v1 4 M
set_option maxRecDepth 100000 in
set_option maxHeartbeats 4000000 in
theorem c_X6_addRoom {g : GG} (v0 : Nat) (v1 : Int32) (v2 : Int32) (v3 : Int32) (M : Mem) (Q : Int32 → Mem → Prop) (X : String → Mem → Prop) (h : T_X6_addRoom Q X v0 v1 v2 v3 M) : CT g 13 mX6_addRoom [.ref (g.1 + v0), .int v1, .int v2, .int v3] M 1 (oI Q X) := by
  refine CT_of (L := [some (.ref (g.1 + v0)), some (.int v1), some (.int v2), some (.int v3), none]) (by decide) rfl (Nat.le_of_ble_eq_true rfl) (ro_I rfl) rfl ?_
  unfold T_X6_addRoom at h
  refine R_iload_n (pc := 0) d_X6_addRoom_0 rfl rfl ?_
  refine R_iconst (pc := 1) (v := 4) d_X6_addRoom_1 (by decide) ?_
  refine R_callS (pc := 2) (As := [.int v1, .int 4]) (rest := []) (c_X6_isBelow (g := g) v1 4 M _ h) rfl rfl cal_RX6_64 sta_X6_isBelow (by decide) (by decide) rfl rfl (Nat.le_of_ble_eq_true rfl) d_X6_addRoom_2 (k_Z (fun y2 M1 h => ?_)) (fun _ _ h9 => False.elim h9)
  try dsimp only at h
  refine R_if_eq (pc := 5) (tgt := 18) d_X6_addRoom_5 (by decide) (fun c => ?_) (fun c => ?_)
  · rw [if_pos c] at h
    exact WP_sub (B_X6_addRoom_18 Q X M1 h) (by decide) (ls_n (ls_n (ls_n (ls_n (ls_n ls_0)))))
  · rw [if_neg c] at h
    refine R_iload_n (pc := 8) d_X6_addRoom_8 rfl rfl ?_
    refine R_iconst (pc := 9) (v := 1) d_X6_addRoom_9 (by decide) ?_
    refine R_icmp_lt (pc := 10) (tgt := 18) d_X6_addRoom_10 (by decide) (fun c => ?_) (fun c => ?_)
    · rw [if_pos c] at h
      exact WP_sub (B_X6_addRoom_18 Q X M1 h) (by decide) (ls_n (ls_n (ls_n (ls_n (ls_n ls_0)))))
    · rw [if_neg c] at h
      refine R_iload_n (pc := 13) d_X6_addRoom_13 rfl rfl ?_
      refine R_iconst (pc := 14) (v := 3) d_X6_addRoom_14 (by decide) ?_
      refine R_icmp_le (pc := 15) (tgt := 28) d_X6_addRoom_15 (by decide) (fun c => ?_) (fun c => ?_)
      · rw [if_pos c] at h
        refine R_aload_n (pc := 28) d_X6_addRoom_28 rfl rfl ?_
        obtain ⟨k3, h⟩ := h
        refine R_getR (pc := 29) fld_RX6_10 rfl rfl k3 d_X6_addRoom_29 ?_
        obtain ⟨k4, h⟩ := h
        refine R_getR (pc := 32) fld_RX6_107 rfl rfl k4 d_X6_addRoom_32 ?_
        obtain ⟨k5, h⟩ := h
        refine R_callV (pc := 35) (As := []) (rest := []) (c_X4_isFull (g := g) (rf (rf v0 0) 4) M1 _ h) rfl rfl cal_RX6_78 ins_X4_isFull sel_X4_isFull (cls_at k5 clsOK4) (by decide) (by decide) rfl rfl (Nat.le_of_ble_eq_true rfl) d_X6_addRoom_35 (k_Z (fun y7 M6 h => ?_)) (fun _ _ h9 => False.elim h9)
        try dsimp only at h
        refine R_if_eq (pc := 38) (tgt := 51) d_X6_addRoom_38 (by decide) (fun c => ?_) (fun c => ?_)
        · rw [if_pos c] at h
          refine R_aload_n (pc := 51) d_X6_addRoom_51 rfl rfl ?_
          refine R_getR (pc := 52) fld_RX6_26 rfl rfl k3 d_X6_addRoom_52 ?_
          refine R_aload_n (pc := 55) d_X6_addRoom_55 rfl rfl ?_
          refine R_getR (pc := 56) fld_RX6_10 rfl rfl k3 d_X6_addRoom_56 ?_
          obtain ⟨k8, h⟩ := h
          refine R_callV (pc := 59) (As := [.ref (g.1 + (rf v0 0))]) (rest := []) (c_X1_keep (g := g) (rf v0 3) (rf v0 0) M6 _ h) rfl rfl cal_RX6_87 ins_X1_keep sel_X1_keep (cls_at k8 clsOK1) (by decide) (by decide) rfl rfl (Nat.le_of_ble_eq_true rfl) d_X6_addRoom_59 (k_V (fun M9 h => ?_)) (fun _ _ h9 => False.elim h9)
          try dsimp only at h
          refine R_aload_n (pc := 62) d_X6_addRoom_62 rfl rfl ?_
          refine R_getR (pc := 63) fld_RX6_10 rfl rfl k3 d_X6_addRoom_63 ?_
          refine R_getR (pc := 66) fld_RX6_107 rfl rfl k4 d_X6_addRoom_66 ?_
          refine R_callV (pc := 69) (As := []) (rest := []) (c_X4_addRow (g := g) (rf (rf v0 0) 4) M9 _ h) rfl rfl cal_RX6_90 ins_X4_addRow sel_X4_addRow (cls_at k5 clsOK4) (by decide) (by decide) rfl rfl (Nat.le_of_ble_eq_true rfl) d_X6_addRoom_69 (k_R (fun y11 M10 h => ?_)) (fun _ _ h9 => False.elim h9)
          try dsimp only at h
          refine R_astore (pc := 72) (L' := [some (.ref (g.1 + v0)), some (.int v1), some (.int v2), some (.int v3), some (.ref (g.1 + y11))]) d_X6_addRoom_72 (by decide) rfl ?_
          refine R_aload (pc := 74) d_X6_addRoom_74 rfl ?_
          refine R_iconst (pc := 76) (v := 0) d_X6_addRoom_76 (by decide) ?_
          refine R_iload_n (pc := 77) d_X6_addRoom_77 rfl rfl ?_
          obtain ⟨k12, h⟩ := h
          obtain ⟨k13, h⟩ := h
          refine R_iast (pc := 78) k12 k13 d_X6_addRoom_78 (N_M (fun M14 eM14 => ?_))
          have h := h M14 eM14
          refine R_aload (pc := 79) d_X6_addRoom_79 rfl ?_
          refine R_iconst (pc := 81) (v := 1) d_X6_addRoom_81 (by decide) ?_
          refine R_iload_n (pc := 82) d_X6_addRoom_82 rfl rfl ?_
          obtain ⟨k15, h⟩ := h
          refine R_iast (pc := 83) k12 k15 d_X6_addRoom_83 (N_M (fun M16 eM16 => ?_))
          have h := h M16 eM16
          refine R_aload (pc := 84) d_X6_addRoom_84 rfl ?_
          refine R_iconst (pc := 86) (v := 2) d_X6_addRoom_86 (by decide) ?_
          refine R_iload_n (pc := 87) d_X6_addRoom_87 rfl rfl ?_
          refine R_if_eq (pc := 88) (tgt := 95) d_X6_addRoom_88 (by decide) (fun c => ?_) (fun c => ?_)
          · rw [if_pos c] at h
            refine R_iconst (pc := 95) (v := 0) d_X6_addRoom_95 (by decide) ?_
            exact WP_sub (B_X6_addRoom_96 Q X v0 y11 0 2 y11 M16 h) (by decide) (ls_s (ls_n (ls_n (ls_n (ls_s ls_0)))))
          · rw [if_neg c] at h
            refine R_iconst (pc := 91) (v := 1) d_X6_addRoom_91 (by decide) ?_
            refine R_goto (pc := 92) (tgt := 96) d_X6_addRoom_92 (by decide) ?_
            exact WP_sub (B_X6_addRoom_96 Q X v0 y11 1 2 y11 M16 h) (by decide) (ls_s (ls_n (ls_n (ls_n (ls_s ls_0)))))
        · rw [if_neg c] at h
          exact R_throw rfl rfl thr_RX6_82_110_86 (by decide) (by decide) (Nat.le_of_ble_eq_true rfl) d_X6_addRoom_41 d_X6_addRoom_44 d_X6_addRoom_45 d_X6_addRoom_47 d_X6_addRoom_50 h
      · rw [if_neg c] at h
        exact WP_sub (B_X6_addRoom_18 Q X M1 h) (by decide) (ls_n (ls_n (ls_n (ls_n (ls_n ls_0)))))
