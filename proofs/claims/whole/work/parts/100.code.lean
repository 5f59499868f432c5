/-! X4_addRow -/
theorem d_X4_addRow_0 : decode mX4_addRow.2.1 0 = .ok (.aload_n 0, 1) := by decide +kernel
theorem d_X4_addRow_1 : decode mX4_addRow.2.1 1 = .ok (.getfield 18, 3) := by decide +kernel
theorem d_X4_addRow_4 : decode mX4_addRow.2.1 4 = .ok (.aload_n 0, 1) := by decide +kernel
theorem d_X4_addRow_5 : decode mX4_addRow.2.1 5 = .ok (.getfield 9, 3) := by decide +kernel
theorem d_X4_addRow_8 : decode mX4_addRow.2.1 8 = .ok (.arraylength, 1) := by decide +kernel
theorem d_X4_addRow_9 : decode mX4_addRow.2.1 9 = .ok (.if_icmp .ge 13, 3) := by decide +kernel
theorem d_X4_addRow_12 : decode mX4_addRow.2.1 12 = .ok (.aload_n 0, 1) := by decide +kernel
theorem d_X4_addRow_13 : decode mX4_addRow.2.1 13 = .ok (.dup, 1) := by decide +kernel
theorem d_X4_addRow_14 : decode mX4_addRow.2.1 14 = .ok (.getfield 18, 3) := by decide +kernel
theorem d_X4_addRow_17 : decode mX4_addRow.2.1 17 = .ok (.iconst 1, 1) := by decide +kernel
theorem d_X4_addRow_18 : decode mX4_addRow.2.1 18 = .ok (.iadd, 1) := by decide +kernel
theorem d_X4_addRow_19 : decode mX4_addRow.2.1 19 = .ok (.putfield 18, 3) := by decide +kernel
theorem d_X4_addRow_22 : decode mX4_addRow.2.1 22 = .ok (.aload_n 0, 1) := by decide +kernel
theorem d_X4_addRow_23 : decode mX4_addRow.2.1 23 = .ok (.getfield 9, 3) := by decide +kernel
theorem d_X4_addRow_26 : decode mX4_addRow.2.1 26 = .ok (.aload_n 0, 1) := by decide +kernel
theorem d_X4_addRow_27 : decode mX4_addRow.2.1 27 = .ok (.getfield 18, 3) := by decide +kernel
theorem d_X4_addRow_30 : decode mX4_addRow.2.1 30 = .ok (.iconst 1, 1) := by decide +kernel
theorem d_X4_addRow_31 : decode mX4_addRow.2.1 31 = .ok (.isub, 1) := by decide +kernel
theorem d_X4_addRow_32 : decode mX4_addRow.2.1 32 = .ok (.aaload, 1) := by decide +kernel
theorem d_X4_addRow_33 : decode mX4_addRow.2.1 33 = .ok (.areturn, 1) := by decide +kernel
def T_X4_addRow_22 (Q : Nat → Mem → Prop) (v0 : Nat) (M : Mem) : Prop := (kd v0 = 4) ∧ (kd (rf v0 0) = 10 ∨ kd (rf v0 0) = 11) ∧ (vp_in ((M.1 v0 2) - 1) (ln (rf v0 0))) ∧ Q (rf (rf v0 0) (Int32.toNatClampNeg ((M.1 v0 2) - 1))) M
set_option maxRecDepth 100000 in
set_option maxHeartbeats 4000000 in
theorem B_X4_addRow_22 {g : GG} (Q : Nat → Mem → Prop) (v0 : Nat) (M : Mem) (h : T_X4_addRow_22 Q v0 M) : WP g 9 mX4_addRow 22 [some (.ref (g.1 + v0))] [] M 0 (oR g Q noX) := by
  unfold T_X4_addRow_22 at h
  refine R_aload_n (pc := 22) d_X4_addRow_22 rfl rfl ?_
  obtain ⟨k1, h⟩ := h
  refine R_getR (pc := 23) fld_RX4_9 rfl rfl k1 d_X4_addRow_23 ?_
  refine R_aload_n (pc := 26) d_X4_addRow_26 rfl rfl ?_
  refine R_getI (pc := 27) fld_RX4_18 rfl rfl k1 d_X4_addRow_27 ?_
  refine R_iconst (pc := 30) (v := 1) d_X4_addRow_30 (by decide) ?_
  refine R_isub (pc := 31) d_X4_addRow_31 ?_
  obtain ⟨k2, h⟩ := h
  obtain ⟨k3, h⟩ := h
  refine R_aald (pc := 32) k2 k3 d_X4_addRow_32 ?_
  exact R_retv (pc := 33) d_X4_addRow_33 ⟨_, rfl, h⟩
def T_X4_addRow (Q : Nat → Mem → Prop) (v0 : Nat) (M : Mem) : Prop := (kd v0 = 4) ∧ (8 ≤ kd (rf v0 0)) ∧ (kd (rf v0 0) < 14) ∧ if (Int32.ofNat (ln (rf v0 0))) ≤ (M.1 v0 2) then (T_X4_addRow_22 Q v0 M) else (∀ M4 : Mem, M4 = mset M v0 2 ((M.1 v0 2) + 1) → T_X4_addRow_22 Q v0 M4)
set_option maxRecDepth 100000 in
set_option maxHeartbeats 4000000 in
theorem c_X4_addRow {g : GG} (v0 : Nat) (M : Mem) (Q : Nat → Mem → Prop) (h : T_X4_addRow Q v0 M) : CT g 9 mX4_addRow [.ref (g.1 + v0)] M 0 (oR g Q noX) := by
  refine CT_of (L := [some (.ref (g.1 + v0))]) (by decide) rfl (Nat.le_of_ble_eq_true rfl) (ro_R rfl) rfl ?_
  unfold T_X4_addRow at h
  refine R_aload_n (pc := 0) d_X4_addRow_0 rfl rfl ?_
  obtain ⟨k1, h⟩ := h
  refine R_getI (pc := 1) fld_RX4_18 rfl rfl k1 d_X4_addRow_1 ?_
  refine R_aload_n (pc := 4) d_X4_addRow_4 rfl rfl ?_
  refine R_getR (pc := 5) fld_RX4_9 rfl rfl k1 d_X4_addRow_5 ?_
  obtain ⟨k2, h⟩ := h
  obtain ⟨k3, h⟩ := h
  refine R_alen (pc := 8) k2 k3 d_X4_addRow_8 ?_
  refine R_icmp_ge (pc := 9) (tgt := 22) d_X4_addRow_9 (by decide) (fun c => ?_) (fun c => ?_)
  · rw [if_pos c] at h
    exact WP_sub (B_X4_addRow_22 Q v0 M h) (by decide) (ls_s ls_0)
  · rw [if_neg c] at h
    refine R_aload_n (pc := 12) d_X4_addRow_12 rfl rfl ?_
    refine R_dup (pc := 13) d_X4_addRow_13 rfl ?_
    refine R_getI (pc := 14) fld_RX4_18 rfl rfl k1 d_X4_addRow_14 ?_
    refine R_iconst (pc := 17) (v := 1) d_X4_addRow_17 (by decide) ?_
    refine R_iadd (pc := 18) d_X4_addRow_18 ?_
    refine R_putI (pc := 19) fld_RX4_18 rfl rfl rfl k1 rfl rfl d_X4_addRow_19 (N_M (fun M4 eM4 => ?_))
    have h := h M4 eM4
    exact WP_sub (B_X4_addRow_22 Q v0 M4 h) (by decide) (ls_s ls_0)
/-! X0_enterVisit -/
theorem d_X0_enterVisit_0 : decode mX0_enterVisit.2.1 0 = .ok (.aload_n 0, 1) := by decide +kernel
theorem d_X0_enterVisit_1 : decode mX0_enterVisit.2.1 1 = .ok (.getfield 9, 3) := by decide +kernel
theorem d_X0_enterVisit_4 : decode mX0_enterVisit.2.1 4 = .ok (.getfield 19, 3) := by decide +kernel
theorem d_X0_enterVisit_7 : decode mX0_enterVisit.2.1 7 = .ok (.invokevirtual 25, 3) := by decide +kernel
theorem d_X0_enterVisit_10 : decode mX0_enterVisit.2.1 10 = .ok (.astore 4, 2) := by decide +kernel
theorem d_X0_enterVisit_12 : decode mX0_enterVisit.2.1 12 = .ok (.aload 4, 2) := by decide +kernel
theorem d_X0_enterVisit_14 : decode mX0_enterVisit.2.1 14 = .ok (.iconst 0, 1) := by decide +kernel
theorem d_X0_enterVisit_15 : decode mX0_enterVisit.2.1 15 = .ok (.iload_n 1, 1) := by decide +kernel
theorem d_X0_enterVisit_16 : decode mX0_enterVisit.2.1 16 = .ok (.iastore, 1) := by decide +kernel
theorem d_X0_enterVisit_17 : decode mX0_enterVisit.2.1 17 = .ok (.aload 4, 2) := by decide +kernel
theorem d_X0_enterVisit_19 : decode mX0_enterVisit.2.1 19 = .ok (.iconst 1, 1) := by decide +kernel
theorem d_X0_enterVisit_20 : decode mX0_enterVisit.2.1 20 = .ok (.iload_n 2, 1) := by decide +kernel
theorem d_X0_enterVisit_21 : decode mX0_enterVisit.2.1 21 = .ok (.iastore, 1) := by decide +kernel
theorem d_X0_enterVisit_22 : decode mX0_enterVisit.2.1 22 = .ok (.aload 4, 2) := by decide +kernel
theorem d_X0_enterVisit_24 : decode mX0_enterVisit.2.1 24 = .ok (.iconst 2, 1) := by decide +kernel
theorem d_X0_enterVisit_25 : decode mX0_enterVisit.2.1 25 = .ok (.iload_n 3, 1) := by decide +kernel
theorem d_X0_enterVisit_26 : decode mX0_enterVisit.2.1 26 = .ok (.iconst 4, 1) := by decide +kernel
theorem d_X0_enterVisit_27 : decode mX0_enterVisit.2.1 27 = .ok (.idiv, 1) := by decide +kernel
theorem d_X0_enterVisit_28 : decode mX0_enterVisit.2.1 28 = .ok (.iastore, 1) := by decide +kernel
theorem d_X0_enterVisit_29 : decode mX0_enterVisit.2.1 29 = .ok (.aload 4, 2) := by decide +kernel
theorem d_X0_enterVisit_31 : decode mX0_enterVisit.2.1 31 = .ok (.iconst 3, 1) := by decide +kernel
theorem d_X0_enterVisit_32 : decode mX0_enterVisit.2.1 32 = .ok (.iload_n 3, 1) := by decide +kernel
theorem d_X0_enterVisit_33 : decode mX0_enterVisit.2.1 33 = .ok (.iconst 4, 1) := by decide +kernel
theorem d_X0_enterVisit_34 : decode mX0_enterVisit.2.1 34 = .ok (.irem, 1) := by decide +kernel
theorem d_X0_enterVisit_35 : decode mX0_enterVisit.2.1 35 = .ok (.iastore, 1) := by decide +kernel
theorem d_X0_enterVisit_36 : decode mX0_enterVisit.2.1 36 = .ok (.aload 4, 2) := by decide +kernel
theorem d_X0_enterVisit_38 : decode mX0_enterVisit.2.1 38 = .ok (.iconst 4, 1) := by decide +kernel
theorem d_X0_enterVisit_39 : decode mX0_enterVisit.2.1 39 = .ok (.aload_n 0, 1) := by decide +kernel
theorem d_X0_enterVisit_40 : decode mX0_enterVisit.2.1 40 = .ok (.getfield 15, 3) := by decide +kernel
theorem d_X0_enterVisit_43 : decode mX0_enterVisit.2.1 43 = .ok (.getfield 31, 3) := by decide +kernel
theorem d_X0_enterVisit_46 : decode mX0_enterVisit.2.1 46 = .ok (.iastore, 1) := by decide +kernel
theorem d_X0_enterVisit_47 : decode mX0_enterVisit.2.1 47 = .ok (.aload 4, 2) := by decide +kernel
theorem d_X0_enterVisit_49 : decode mX0_enterVisit.2.1 49 = .ok (.iconst 5, 1) := by decide +kernel
theorem d_X0_enterVisit_50 : decode mX0_enterVisit.2.1 50 = .ok (.iconst 0, 1) := by decide +kernel
theorem d_X0_enterVisit_51 : decode mX0_enterVisit.2.1 51 = .ok (.iastore, 1) := by decide +kernel
theorem d_X0_enterVisit_52 : decode mX0_enterVisit.2.1 52 = .ok (.aload_n 0, 1) := by decide +kernel
theorem d_X0_enterVisit_53 : decode mX0_enterVisit.2.1 53 = .ok (.getfield 9, 3) := by decide +kernel
theorem d_X0_enterVisit_56 : decode mX0_enterVisit.2.1 56 = .ok (.getfield 19, 3) := by decide +kernel
theorem d_X0_enterVisit_59 : decode mX0_enterVisit.2.1 59 = .ok (.getfield 37, 3) := by decide +kernel
theorem d_X0_enterVisit_62 : decode mX0_enterVisit.2.1 62 = .ok (.iconst 1, 1) := by decide +kernel
theorem d_X0_enterVisit_63 : decode mX0_enterVisit.2.1 63 = .ok (.isub, 1) := by decide +kernel
theorem d_X0_enterVisit_64 : decode mX0_enterVisit.2.1 64 = .ok (.ireturn, 1) := by decide +kernel
def T_X0_enterVisit (Q : Int32 → Mem → Prop) (v0 : Nat) (v1 : Int32) (v2 : Int32) (v3 : Int32) (M : Mem) : Prop := (kd v0 = 0) ∧ (kd (rf v0 0) = 3) ∧ (kd (rf (rf v0 0) 5) = 4) ∧ T_X4_addRow (fun y5 M4 => (kd y5 = 9) ∧ (vp_in 0 (ln y5)) ∧ ∀ M8 : Mem, M8 = mset M4 y5 (Int32.toNatClampNeg 0) v1 → (vp_in 1 (ln y5)) ∧ ∀ M10 : Mem, M10 = mset M8 y5 (Int32.toNatClampNeg 1) v2 → (vp_in 2 (ln y5)) ∧ ∀ M12 : Mem, M12 = mset M10 y5 (Int32.toNatClampNeg 2) (v3 / 4) → (vp_in 3 (ln y5)) ∧ ∀ M14 : Mem, M14 = mset M12 y5 (Int32.toNatClampNeg 3) (v3 - v3 / 4 * 4) → (kd (rf v0 1) = 2) ∧ (vp_in 4 (ln y5)) ∧ ∀ M17 : Mem, M17 = mset M14 y5 (Int32.toNatClampNeg 4) (M14.1 (rf v0 1) 6) → (vp_in 5 (ln y5)) ∧ ∀ M19 : Mem, M19 = mset M17 y5 (Int32.toNatClampNeg 5) 0 → Q ((M19.1 (rf (rf v0 0) 5) 2) - 1) M19)  (rf (rf v0 0) 5) M
set_option maxRecDepth 100000 in
set_option maxHeartbeats 4000000 in
theorem c_X0_enterVisit {g : GG} (v0 : Nat) (v1 : Int32) (v2 : Int32) (v3 : Int32) (M : Mem) (Q : Int32 → Mem → Prop) (h : T_X0_enterVisit Q v0 v1 v2 v3 M) : CT g 10 mX0_enterVisit [.ref (g.1 + v0), .int v1, .int v2, .int v3] M 0 (oI Q noX) := by
  refine CT_of (L := [some (.ref (g.1 + v0)), some (.int v1), some (.int v2), some (.int v3), none]) (by decide) rfl (Nat.le_of_ble_eq_true rfl) (ro_I rfl) rfl ?_
  unfold T_X0_enterVisit at h
  refine R_aload_n (pc := 0) d_X0_enterVisit_0 rfl rfl ?_
  obtain ⟨k1, h⟩ := h
  refine R_getR (pc := 1) fld_RX0_9 rfl rfl k1 d_X0_enterVisit_1 ?_
  obtain ⟨k2, h⟩ := h
  refine R_getR (pc := 4) fld_RX0_19 rfl rfl k2 d_X0_enterVisit_4 ?_
  obtain ⟨k3, h⟩ := h
  refine R_callV (pc := 7) (As := []) (rest := []) (c_X4_addRow (g := g) (rf (rf v0 0) 5) M _ h) rfl rfl cal_RX0_25 ins_X4_addRow sel_X4_addRow (cls_at k3 clsOK4) (by decide) (by decide) rfl rfl (Nat.le_of_ble_eq_true rfl) d_X0_enterVisit_7 (k_R (fun y5 M4 h => ?_)) (fun _ _ h9 => False.elim h9)
  try dsimp only at h
  refine R_astore (pc := 10) (L' := [some (.ref (g.1 + v0)), some (.int v1), some (.int v2), some (.int v3), some (.ref (g.1 + y5))]) d_X0_enterVisit_10 (by decide) rfl ?_
  refine R_aload (pc := 12) d_X0_enterVisit_12 rfl ?_
  refine R_iconst (pc := 14) (v := 0) d_X0_enterVisit_14 (by decide) ?_
  refine R_iload_n (pc := 15) d_X0_enterVisit_15 rfl rfl ?_
  obtain ⟨k6, h⟩ := h
  obtain ⟨k7, h⟩ := h
  refine R_iast (pc := 16) k6 k7 d_X0_enterVisit_16 (N_M (fun M8 eM8 => ?_))
  have h := h M8 eM8
  refine R_aload (pc := 17) d_X0_enterVisit_17 rfl ?_
  refine R_iconst (pc := 19) (v := 1) d_X0_enterVisit_19 (by decide) ?_
  refine R_iload_n (pc := 20) d_X0_enterVisit_20 rfl rfl ?_
  obtain ⟨k9, h⟩ := h
  refine R_iast (pc := 21) k6 k9 d_X0_enterVisit_21 (N_M (fun M10 eM10 => ?_))
  have h := h M10 eM10
  refine R_aload (pc := 22) d_X0_enterVisit_22 rfl ?_
  refine R_iconst (pc := 24) (v := 2) d_X0_enterVisit_24 (by decide) ?_
  refine R_iload_n (pc := 25) d_X0_enterVisit_25 rfl rfl ?_
  refine R_iconst (pc := 26) (v := 4) d_X0_enterVisit_26 (by decide) ?_
  refine R_idiv (pc := 27) d_X0_enterVisit_27 (by decide) ?_
  obtain ⟨k11, h⟩ := h
  refine R_iast (pc := 28) k6 k11 d_X0_enterVisit_28 (N_M (fun M12 eM12 => ?_))
  have h := h M12 eM12
  refine R_aload (pc := 29) d_X0_enterVisit_29 rfl ?_
  refine R_iconst (pc := 31) (v := 3) d_X0_enterVisit_31 (by decide) ?_
  refine R_iload_n (pc := 32) d_X0_enterVisit_32 rfl rfl ?_
  refine R_iconst (pc := 33) (v := 4) d_X0_enterVisit_33 (by decide) ?_
  refine R_irem (pc := 34) d_X0_enterVisit_34 (by decide) ?_
  obtain ⟨k13, h⟩ := h
  refine R_iast (pc := 35) k6 k13 d_X0_enterVisit_35 (N_M (fun M14 eM14 => ?_))
  have h := h M14 eM14
  refine R_aload (pc := 36) d_X0_enterVisit_36 rfl ?_
  refine R_iconst (pc := 38) (v := 4) d_X0_enterVisit_38 (by decide) ?_
  refine R_aload_n (pc := 39) d_X0_enterVisit_39 rfl rfl ?_
  refine R_getR (pc := 40) fld_RX0_15 rfl rfl k1 d_X0_enterVisit_40 ?_
  obtain ⟨k15, h⟩ := h
  refine R_getI (pc := 43) fld_RX0_31 rfl rfl k15 d_X0_enterVisit_43 ?_
  obtain ⟨k16, h⟩ := h
  refine R_iast (pc := 46) k6 k16 d_X0_enterVisit_46 (N_M (fun M17 eM17 => ?_))
  have h := h M17 eM17
  refine R_aload (pc := 47) d_X0_enterVisit_47 rfl ?_
  refine R_iconst (pc := 49) (v := 5) d_X0_enterVisit_49 (by decide) ?_
  refine R_iconst (pc := 50) (v := 0) d_X0_enterVisit_50 (by decide) ?_
  obtain ⟨k18, h⟩ := h
  refine R_iast (pc := 51) k6 k18 d_X0_enterVisit_51 (N_M (fun M19 eM19 => ?_))
  have h := h M19 eM19
  refine R_aload_n (pc := 52) d_X0_enterVisit_52 rfl rfl ?_
  refine R_getR (pc := 53) fld_RX0_9 rfl rfl k1 d_X0_enterVisit_53 ?_
  refine R_getR (pc := 56) fld_RX0_19 rfl rfl k2 d_X0_enterVisit_56 ?_
  refine R_getI (pc := 59) fld_RX0_37 rfl rfl k3 d_X0_enterVisit_59 ?_
  refine R_iconst (pc := 62) (v := 1) d_X0_enterVisit_62 (by decide) ?_
  refine R_isub (pc := 63) d_X0_enterVisit_63 ?_
  exact R_retv (pc := 64) d_X0_enterVisit_64 h
/-! X0_dropVisit -/
theorem d_X0_dropVisit_0 : decode mX0_dropVisit.2.1 0 = .ok (.aload_n 0, 1) := by decide +kernel
theorem d_X0_dropVisit_1 : decode mX0_dropVisit.2.1 1 = .ok (.getfield 9, 3) := by decide +kernel
theorem d_X0_dropVisit_4 : decode mX0_dropVisit.2.1 4 = .ok (.getfield 19, 3) := by decide +kernel
theorem d_X0_dropVisit_7 : decode mX0_dropVisit.2.1 7 = .ok (.getfield 40, 3) := by decide +kernel
theorem d_X0_dropVisit_10 : decode mX0_dropVisit.2.1 10 = .ok (.iload_n 1, 1) := by decide +kernel
theorem d_X0_dropVisit_11 : decode mX0_dropVisit.2.1 11 = .ok (.aaload, 1) := by decide +kernel
theorem d_X0_dropVisit_12 : decode mX0_dropVisit.2.1 12 = .ok (.iconst 5, 1) := by decide +kernel
theorem d_X0_dropVisit_13 : decode mX0_dropVisit.2.1 13 = .ok (.iconst 2, 1) := by decide +kernel
theorem d_X0_dropVisit_14 : decode mX0_dropVisit.2.1 14 = .ok (.iastore, 1) := by decide +kernel
theorem d_X0_dropVisit_15 : decode mX0_dropVisit.2.1 15 = .ok (.return_, 1) := by decide +kernel
def T_X0_dropVisit (Q : Mem → Prop) (v0 : Nat) (v1 : Int32) (M : Mem) : Prop := (kd v0 = 0) ∧ (kd (rf v0 0) = 3) ∧ (kd (rf (rf v0 0) 5) = 4) ∧ (kd (rf (rf (rf v0 0) 5) 0) = 10 ∨ kd (rf (rf (rf v0 0) 5) 0) = 11) ∧ (vp_in v1 (ln (rf (rf (rf v0 0) 5) 0))) ∧ (kd (rf (rf (rf (rf v0 0) 5) 0) (Int32.toNatClampNeg v1)) = 9) ∧ (vp_in 5 (ln (rf (rf (rf (rf v0 0) 5) 0) (Int32.toNatClampNeg v1)))) ∧ ∀ M8 : Mem, M8 = mset M (rf (rf (rf (rf v0 0) 5) 0) (Int32.toNatClampNeg v1)) (Int32.toNatClampNeg 5) 2 → Q M8
set_option maxRecDepth 100000 in
set_option maxHeartbeats 4000000 in
theorem c_X0_dropVisit {g : GG} (v0 : Nat) (v1 : Int32) (M : Mem) (Q : Mem → Prop) (h : T_X0_dropVisit Q v0 v1 M) : CT g 9 mX0_dropVisit [.ref (g.1 + v0), .int v1] M 0 (oV Q noX) := by
  refine CT_of (L := [some (.ref (g.1 + v0)), some (.int v1)]) (by decide) rfl (Nat.le_of_ble_eq_true rfl) (ro_V rfl) rfl ?_
  unfold T_X0_dropVisit at h
  refine R_aload_n (pc := 0) d_X0_dropVisit_0 rfl rfl ?_
  obtain ⟨k1, h⟩ := h
  refine R_getR (pc := 1) fld_RX0_9 rfl rfl k1 d_X0_dropVisit_1 ?_
  obtain ⟨k2, h⟩ := h
  refine R_getR (pc := 4) fld_RX0_19 rfl rfl k2 d_X0_dropVisit_4 ?_
  obtain ⟨k3, h⟩ := h
  refine R_getR (pc := 7) fld_RX0_40 rfl rfl k3 d_X0_dropVisit_7 ?_
  refine R_iload_n (pc := 10) d_X0_dropVisit_10 rfl rfl ?_
  obtain ⟨k4, h⟩ := h
  obtain ⟨k5, h⟩ := h
  refine R_aald (pc := 11) k4 k5 d_X0_dropVisit_11 ?_
  refine R_iconst (pc := 12) (v := 5) d_X0_dropVisit_12 (by decide) ?_
  refine R_iconst (pc := 13) (v := 2) d_X0_dropVisit_13 (by decide) ?_
  obtain ⟨k6, h⟩ := h
  obtain ⟨k7, h⟩ := h
  refine R_iast (pc := 14) k6 k7 d_X0_dropVisit_14 (N_M (fun M8 eM8 => ?_))
  have h := h M8 eM8
  exact R_ret (pc := 15) d_X0_dropVisit_15 h
/-! X2_refuse -/
theorem d_X2_refuse_0 : decode mX2_refuse.2.1 0 = .ok (.aload_n 0, 1) := by decide +kernel
theorem d_X2_refuse_1 : decode mX2_refuse.2.1 1 = .ok (.iload_n 2, 1) := by decide +kernel
theorem d_X2_refuse_2 : decode mX2_refuse.2.1 2 = .ok (.putfield 29, 3) := by decide +kernel
theorem d_X2_refuse_5 : decode mX2_refuse.2.1 5 = .ok (.iload_n 1, 1) := by decide +kernel
theorem d_X2_refuse_6 : decode mX2_refuse.2.1 6 = .ok (.ireturn, 1) := by decide +kernel
def T_X2_refuse (Q : Int32 → Mem → Prop) (v0 : Nat) (v1 : Int32) (v2 : Int32) (M : Mem) : Prop := (kd v0 = 2) ∧ ∀ M2 : Mem, M2 = mset M v0 5 v2 → Q v1 M2
set_option maxRecDepth 100000 in
set_option maxHeartbeats 4000000 in
theorem c_X2_refuse {g : GG} (v0 : Nat) (v1 : Int32) (v2 : Int32) (M : Mem) (Q : Int32 → Mem → Prop) (h : T_X2_refuse Q v0 v1 v2 M) : CT g 9 mX2_refuse [.ref (g.1 + v0), .int v1, .int v2] M 0 (oI Q noX) := by
  refine CT_of (L := [some (.ref (g.1 + v0)), some (.int v1), some (.int v2)]) (by decide) rfl (Nat.le_of_ble_eq_true rfl) (ro_I rfl) rfl ?_
  unfold T_X2_refuse at h
  refine R_aload_n (pc := 0) d_X2_refuse_0 rfl rfl ?_
  refine R_iload_n (pc := 1) d_X2_refuse_1 rfl rfl ?_
  obtain ⟨k1, h⟩ := h
  refine R_putI (pc := 2) fld_RX2_29 rfl rfl rfl k1 rfl rfl d_X2_refuse_2 (N_M (fun M2 eM2 => ?_))
  have h := h M2 eM2
  refine R_iload_n (pc := 5) d_X2_refuse_5 rfl rfl ?_
  exact R_retv (pc := 6) d_X2_refuse_6 h
/-! X3_visitorsOfKind -/
theorem d_X3_visitorsOfKind_0 : decode mX3_visitorsOfKind.2.1 0 = .ok (.iconst 0, 1) := by decide +kernel
theorem d_X3_visitorsOfKind_1 : decode mX3_visitorsOfKind.2.1 1 = .ok (.istore_n 2, 1) := by decide +kernel
theorem d_X3_visitorsOfKind_2 : decode mX3_visitorsOfKind.2.1 2 = .ok (.iconst 0, 1) := by decide +kernel
theorem d_X3_visitorsOfKind_3 : decode mX3_visitorsOfKind.2.1 3 = .ok (.istore_n 3, 1) := by decide +kernel
theorem d_X3_visitorsOfKind_4 : decode mX3_visitorsOfKind.2.1 4 = .ok (.iload_n 3, 1) := by decide +kernel
theorem d_X3_visitorsOfKind_5 : decode mX3_visitorsOfKind.2.1 5 = .ok (.aload_n 0, 1) := by decide +kernel
theorem d_X3_visitorsOfKind_6 : decode mX3_visitorsOfKind.2.1 6 = .ok (.getfield 28, 3) := by decide +kernel
theorem d_X3_visitorsOfKind_9 : decode mX3_visitorsOfKind.2.1 9 = .ok (.getfield 74, 3) := by decide +kernel
theorem d_X3_visitorsOfKind_12 : decode mX3_visitorsOfKind.2.1 12 = .ok (.if_icmp .ge 30, 3) := by decide +kernel
theorem d_X3_visitorsOfKind_15 : decode mX3_visitorsOfKind.2.1 15 = .ok (.aload_n 0, 1) := by decide +kernel
theorem d_X3_visitorsOfKind_16 : decode mX3_visitorsOfKind.2.1 16 = .ok (.getfield 28, 3) := by decide +kernel
theorem d_X3_visitorsOfKind_19 : decode mX3_visitorsOfKind.2.1 19 = .ok (.getfield 77, 3) := by decide +kernel
theorem d_X3_visitorsOfKind_22 : decode mX3_visitorsOfKind.2.1 22 = .ok (.iload_n 3, 1) := by decide +kernel
theorem d_X3_visitorsOfKind_23 : decode mX3_visitorsOfKind.2.1 23 = .ok (.aaload, 1) := by decide +kernel
theorem d_X3_visitorsOfKind_24 : decode mX3_visitorsOfKind.2.1 24 = .ok (.iconst 0, 1) := by decide +kernel
theorem d_X3_visitorsOfKind_25 : decode mX3_visitorsOfKind.2.1 25 = .ok (.iaload, 1) := by decide +kernel
theorem d_X3_visitorsOfKind_26 : decode mX3_visitorsOfKind.2.1 26 = .ok (.iload_n 1, 1) := by decide +kernel
theorem d_X3_visitorsOfKind_27 : decode mX3_visitorsOfKind.2.1 27 = .ok (.if_icmp .ne 9, 3) := by decide +kernel
theorem d_X3_visitorsOfKind_30 : decode mX3_visitorsOfKind.2.1 30 = .ok (.iload_n 2, 1) := by decide +kernel
theorem d_X3_visitorsOfKind_31 : decode mX3_visitorsOfKind.2.1 31 = .ok (.iconst 1, 1) := by decide +kernel
theorem d_X3_visitorsOfKind_32 : decode mX3_visitorsOfKind.2.1 32 = .ok (.iload_n 3, 1) := by decide +kernel
theorem d_X3_visitorsOfKind_33 : decode mX3_visitorsOfKind.2.1 33 = .ok (.ishl, 1) := by decide +kernel
theorem d_X3_visitorsOfKind_34 : decode mX3_visitorsOfKind.2.1 34 = .ok (.ior, 1) := by decide +kernel
theorem d_X3_visitorsOfKind_35 : decode mX3_visitorsOfKind.2.1 35 = .ok (.istore_n 2, 1) := by decide +kernel
theorem d_X3_visitorsOfKind_36 : decode mX3_visitorsOfKind.2.1 36 = .ok (.iinc 3 1, 3) := by decide +kernel
theorem d_X3_visitorsOfKind_39 : decode mX3_visitorsOfKind.2.1 39 = .ok (.goto (-35), 3) := by decide +kernel
theorem d_X3_visitorsOfKind_42 : decode mX3_visitorsOfKind.2.1 42 = .ok (.iload_n 2, 1) := by decide +kernel
theorem d_X3_visitorsOfKind_43 : decode mX3_visitorsOfKind.2.1 43 = .ok (.ireturn, 1) := by decide +kernel
def T_X3_visitorsOfKind_36 (κ4 : Nat → Int32 → Int32 → Int32 → Mem → Prop) (Q : Int32 → Mem → Prop) (v0 : Nat) (v1 : Int32) (v2 : Int32) (v3 : Int32) (M : Mem) : Prop := ∀ x1 : Int32, x1 = v3 + 1 → κ4 v0 v1 v2 x1 M
set_option maxRecDepth 100000 in
set_option maxHeartbeats 4000000 in
theorem B_X3_visitorsOfKind_36 {g : GG} (Q : Int32 → Mem → Prop) (κ4 : Nat → Int32 → Int32 → Int32 → Mem → Prop) (hκ4 : ∀ (v0 : Nat) (v1 : Int32) (v2 : Int32) (v3 : Int32) (M : Mem), κ4 v0 v1 v2 v3 M → WP g 9 mX3_visitorsOfKind 4 [some (.ref (g.1 + v0)), some (.int v1), some (.int v2), some (.int v3)] [] M 0 (oI Q noX)) (v0 : Nat) (v1 : Int32) (v2 : Int32) (v3 : Int32) (M : Mem) (h : T_X3_visitorsOfKind_36 κ4 Q v0 v1 v2 v3 M) : WP g 9 mX3_visitorsOfKind 36 [some (.ref (g.1 + v0)), some (.int v1), some (.int v2), some (.int v3)] [] M 0 (oI Q noX) := by
  unfold T_X3_visitorsOfKind_36 at h
  obtain ⟨x1, ex1⟩ : ∃ z : Int32, z = v3 + 1 := ⟨_, rfl⟩
  have h := h x1 ex1
  refine R_iinc (pc := 36) (v := x1) (L' := [some (.ref (g.1 + v0)), some (.int v1), some (.int v2), some (.int x1)]) d_X3_visitorsOfKind_36 rfl (by rw [ex1]; rfl) (by decide) rfl ?_
  refine R_goto (pc := 39) (tgt := 4) d_X3_visitorsOfKind_39 (by decide) ?_
  exact WP_sub (hκ4 v0 v1 v2 x1 M h) (by decide) (ls_s (ls_s (ls_s (ls_s ls_0))))
def T_X3_visitorsOfKind_4 (Q : Int32 → Mem → Prop) : Nat → Nat → Int32 → Int32 → Int32 → Mem → Prop
  | 0, _, _, _, _, _ => False
  | n + 1, v0, v1, v2, v3, M => (kd v0 = 3) ∧ (kd (rf v0 3) = 4) ∧ if (M.1 (rf v0 3) 2) ≤ v3 then (Q v2 M) else ((kd (rf (rf v0 3) 0) = 10 ∨ kd (rf (rf v0 3) 0) = 11) ∧ (vp_in v3 (ln (rf (rf v0 3) 0))) ∧ (kd (rf (rf (rf v0 3) 0) (Int32.toNatClampNeg v3)) = 9) ∧ (vp_in 0 (ln (rf (rf (rf v0 3) 0) (Int32.toNatClampNeg v3)))) ∧ if (M.1 (rf (rf (rf v0 3) 0) (Int32.toNatClampNeg v3)) (Int32.toNatClampNeg 0)) = v1 then (∀ x7 : Int32, x7 = v2 ||| (1 <<< (v3 &&& 31)) → T_X3_visitorsOfKind_36 (T_X3_visitorsOfKind_4 Q n) Q v0 v1 x7 v3 M) else (T_X3_visitorsOfKind_36 (T_X3_visitorsOfKind_4 Q n) Q v0 v1 v2 v3 M))
set_option maxRecDepth 100000 in
set_option maxHeartbeats 4000000 in
theorem B_X3_visitorsOfKind_4 {g : GG} (Q : Int32 → Mem → Prop) : ∀ (n : Nat) (v0 : Nat) (v1 : Int32) (v2 : Int32) (v3 : Int32) (M : Mem), T_X3_visitorsOfKind_4 Q n v0 v1 v2 v3 M → WP g 9 mX3_visitorsOfKind 4 [some (.ref (g.1 + v0)), some (.int v1), some (.int v2), some (.int v3)] [] M 0 (oI Q noX) := by
  intro n
  induction n with
  | zero => intro v0 v1 v2 v3 M h; exact h.elim
  | succ n hκ4 =>
    intro v0 v1 v2 v3 M h
    unfold T_X3_visitorsOfKind_4 at h
    refine R_iload_n (pc := 4) d_X3_visitorsOfKind_4 rfl rfl ?_
    refine R_aload_n (pc := 5) d_X3_visitorsOfKind_5 rfl rfl ?_
    obtain ⟨k1, h⟩ := h
    refine R_getR (pc := 6) fld_RX3_28 rfl rfl k1 d_X3_visitorsOfKind_6 ?_
    obtain ⟨k2, h⟩ := h
    refine R_getI (pc := 9) fld_RX3_74 rfl rfl k2 d_X3_visitorsOfKind_9 ?_
    refine R_icmp_ge (pc := 12) (tgt := 42) d_X3_visitorsOfKind_12 (by decide) (fun c => ?_) (fun c => ?_)
    · rw [if_pos c] at h
      refine R_iload_n (pc := 42) d_X3_visitorsOfKind_42 rfl rfl ?_
      exact R_retv (pc := 43) d_X3_visitorsOfKind_43 h
    · rw [if_neg c] at h
      refine R_aload_n (pc := 15) d_X3_visitorsOfKind_15 rfl rfl ?_
      refine R_getR (pc := 16) fld_RX3_28 rfl rfl k1 d_X3_visitorsOfKind_16 ?_
      refine R_getR (pc := 19) fld_RX3_77 rfl rfl k2 d_X3_visitorsOfKind_19 ?_
      refine R_iload_n (pc := 22) d_X3_visitorsOfKind_22 rfl rfl ?_
      obtain ⟨k3, h⟩ := h
      obtain ⟨k4, h⟩ := h
      refine R_aald (pc := 23) k3 k4 d_X3_visitorsOfKind_23 ?_
      refine R_iconst (pc := 24) (v := 0) d_X3_visitorsOfKind_24 (by decide) ?_
      obtain ⟨k5, h⟩ := h
      obtain ⟨k6, h⟩ := h
      refine R_iald (pc := 25) k5 k6 d_X3_visitorsOfKind_25 ?_
      refine R_iload_n (pc := 26) d_X3_visitorsOfKind_26 rfl rfl ?_
      refine R_icmp_ne (pc := 27) (tgt := 36) d_X3_visitorsOfKind_27 (by decide) (fun c => ?_) (fun c => ?_)
      · rw [if_neg c] at h
        exact WP_sub (B_X3_visitorsOfKind_36 Q (T_X3_visitorsOfKind_4 Q n) hκ4 v0 v1 v2 v3 M h) (by decide) (ls_s (ls_s (ls_s (ls_s ls_0))))
      · rw [if_pos c] at h
        refine R_iload_n (pc := 30) d_X3_visitorsOfKind_30 rfl rfl ?_
        refine R_iconst (pc := 31) (v := 1) d_X3_visitorsOfKind_31 (by decide) ?_
        refine R_iload_n (pc := 32) d_X3_visitorsOfKind_32 rfl rfl ?_
        refine R_ishl (pc := 33) d_X3_visitorsOfKind_33 ?_
        refine R_ior (pc := 34) d_X3_visitorsOfKind_34 ?_
        refine N_i (fun x7 ex7 => ?_)
        have h := h x7 ex7
        refine R_istore_n (pc := 35) (L' := [some (.ref (g.1 + v0)), some (.int v1), some (.int x7), some (.int v3)]) d_X3_visitorsOfKind_35 rfl (by decide) rfl ?_
        exact WP_sub (B_X3_visitorsOfKind_36 Q (T_X3_visitorsOfKind_4 Q n) hκ4 v0 v1 x7 v3 M h) (by decide) (ls_s (ls_s (ls_s (ls_s ls_0))))
def T_X3_visitorsOfKind (Q : Int32 → Mem → Prop) (v0 : Nat) (v1 : Int32) (M : Mem) : Prop := (∃ N : Nat, T_X3_visitorsOfKind_4 Q N v0 v1 0 0 M)
set_option maxRecDepth 100000 in
set_option maxHeartbeats 4000000 in
theorem c_X3_visitorsOfKind {g : GG} (v0 : Nat) (v1 : Int32) (M : Mem) (Q : Int32 → Mem → Prop) (h : T_X3_visitorsOfKind Q v0 v1 M) : CT g 9 mX3_visitorsOfKind [.ref (g.1 + v0), .int v1] M 0 (oI Q noX) := by
  refine CT_of (L := [some (.ref (g.1 + v0)), some (.int v1), none, none]) (by decide) rfl (Nat.le_of_ble_eq_true rfl) (ro_I rfl) rfl ?_
  unfold T_X3_visitorsOfKind at h
  refine R_iconst (pc := 0) (v := 0) d_X3_visitorsOfKind_0 (by decide) ?_
  refine R_istore_n (pc := 1) (L' := [some (.ref (g.1 + v0)), some (.int v1), some (.int 0), none]) d_X3_visitorsOfKind_1 rfl (by decide) rfl ?_
  refine R_iconst (pc := 2) (v := 0) d_X3_visitorsOfKind_2 (by decide) ?_
  refine R_istore_n (pc := 3) (L' := [some (.ref (g.1 + v0)), some (.int v1), some (.int 0), some (.int 0)]) d_X3_visitorsOfKind_3 rfl (by decide) rfl ?_
  obtain ⟨N, h⟩ := h
  exact WP_sub (B_X3_visitorsOfKind_4 Q N v0 v1 0 0 M h) (by decide) (ls_s (ls_s (ls_s (ls_s ls_0))))
/-! X3_isBroken -/
theorem d_X3_isBroken_0 : decode mX3_isBroken.2.1 0 = .ok (.aload_n 1, 1) := by decide +kernel
theorem d_X3_isBroken_1 : decode mX3_isBroken.2.1 1 = .ok (.iconst 1, 1) := by decide +kernel
theorem d_X3_isBroken_2 : decode mX3_isBroken.2.1 2 = .ok (.iaload, 1) := by decide +kernel
theorem d_X3_isBroken_3 : decode mX3_isBroken.2.1 3 = .ok (.iload_n 2, 1) := by decide +kernel
theorem d_X3_isBroken_4 : decode mX3_isBroken.2.1 4 = .ok (.if_icmp .ne 19, 3) := by decide +kernel
theorem d_X3_isBroken_7 : decode mX3_isBroken.2.1 7 = .ok (.iload 4, 2) := by decide +kernel
theorem d_X3_isBroken_9 : decode mX3_isBroken.2.1 9 = .ok (.aload_n 1, 1) := by decide +kernel
theorem d_X3_isBroken_10 : decode mX3_isBroken.2.1 10 = .ok (.iconst 3, 1) := by decide +kernel
theorem d_X3_isBroken_11 : decode mX3_isBroken.2.1 11 = .ok (.iaload, 1) := by decide +kernel
theorem d_X3_isBroken_12 : decode mX3_isBroken.2.1 12 = .ok (.if_icmp .lt 11, 3) := by decide +kernel
theorem d_X3_isBroken_15 : decode mX3_isBroken.2.1 15 = .ok (.iload 4, 2) := by decide +kernel
theorem d_X3_isBroken_17 : decode mX3_isBroken.2.1 17 = .ok (.aload_n 1, 1) := by decide +kernel
theorem d_X3_isBroken_18 : decode mX3_isBroken.2.1 18 = .ok (.iconst 4, 1) := by decide +kernel
theorem d_X3_isBroken_19 : decode mX3_isBroken.2.1 19 = .ok (.iaload, 1) := by decide +kernel
theorem d_X3_isBroken_20 : decode mX3_isBroken.2.1 20 = .ok (.if_icmp .le 5, 3) := by decide +kernel
theorem d_X3_isBroken_23 : decode mX3_isBroken.2.1 23 = .ok (.iconst 0, 1) := by decide +kernel
theorem d_X3_isBroken_24 : decode mX3_isBroken.2.1 24 = .ok (.ireturn, 1) := by decide +kernel
theorem d_X3_isBroken_25 : decode mX3_isBroken.2.1 25 = .ok (.aload_n 1, 1) := by decide +kernel
theorem d_X3_isBroken_26 : decode mX3_isBroken.2.1 26 = .ok (.iconst 0, 1) := by decide +kernel
theorem d_X3_isBroken_27 : decode mX3_isBroken.2.1 27 = .ok (.iaload, 1) := by decide +kernel
theorem d_X3_isBroken_28 : decode mX3_isBroken.2.1 28 = .ok (.ifCond .ne 19, 3) := by decide +kernel
theorem d_X3_isBroken_31 : decode mX3_isBroken.2.1 31 = .ok (.iload_n 3, 1) := by decide +kernel
theorem d_X3_isBroken_32 : decode mX3_isBroken.2.1 32 = .ok (.aload_n 1, 1) := by decide +kernel
theorem d_X3_isBroken_33 : decode mX3_isBroken.2.1 33 = .ok (.iconst 2, 1) := by decide +kernel
theorem d_X3_isBroken_34 : decode mX3_isBroken.2.1 34 = .ok (.iaload, 1) := by decide +kernel
theorem d_X3_isBroken_35 : decode mX3_isBroken.2.1 35 = .ok (.iushr, 1) := by decide +kernel
theorem d_X3_isBroken_36 : decode mX3_isBroken.2.1 36 = .ok (.iconst 1, 1) := by decide +kernel
theorem d_X3_isBroken_37 : decode mX3_isBroken.2.1 37 = .ok (.iand, 1) := by decide +kernel
theorem d_X3_isBroken_38 : decode mX3_isBroken.2.1 38 = .ok (.ifCond .eq 7, 3) := by decide +kernel
theorem d_X3_isBroken_41 : decode mX3_isBroken.2.1 41 = .ok (.iconst 1, 1) := by decide +kernel
theorem d_X3_isBroken_42 : decode mX3_isBroken.2.1 42 = .ok (.goto 4, 3) := by decide +kernel
theorem d_X3_isBroken_45 : decode mX3_isBroken.2.1 45 = .ok (.iconst 0, 1) := by decide +kernel
theorem d_X3_isBroken_46 : decode mX3_isBroken.2.1 46 = .ok (.ireturn, 1) := by decide +kernel
theorem d_X3_isBroken_47 : decode mX3_isBroken.2.1 47 = .ok (.aload_n 1, 1) := by decide +kernel
theorem d_X3_isBroken_48 : decode mX3_isBroken.2.1 48 = .ok (.iconst 0, 1) := by decide +kernel
theorem d_X3_isBroken_49 : decode mX3_isBroken.2.1 49 = .ok (.iaload, 1) := by decide +kernel
theorem d_X3_isBroken_50 : decode mX3_isBroken.2.1 50 = .ok (.iconst 1, 1) := by decide +kernel
theorem d_X3_isBroken_51 : decode mX3_isBroken.2.1 51 = .ok (.if_icmp .ne 19, 3) := by decide +kernel
theorem d_X3_isBroken_54 : decode mX3_isBroken.2.1 54 = .ok (.iload_n 3, 1) := by decide +kernel
theorem d_X3_isBroken_55 : decode mX3_isBroken.2.1 55 = .ok (.aload_n 0, 1) := by decide +kernel
theorem d_X3_isBroken_56 : decode mX3_isBroken.2.1 56 = .ok (.aload_n 1, 1) := by decide +kernel
theorem d_X3_isBroken_57 : decode mX3_isBroken.2.1 57 = .ok (.iconst 2, 1) := by decide +kernel
theorem d_X3_isBroken_58 : decode mX3_isBroken.2.1 58 = .ok (.iaload, 1) := by decide +kernel
theorem d_X3_isBroken_59 : decode mX3_isBroken.2.1 59 = .ok (.invokevirtual 81, 3) := by decide +kernel
theorem d_X3_isBroken_62 : decode mX3_isBroken.2.1 62 = .ok (.iand, 1) := by decide +kernel
theorem d_X3_isBroken_63 : decode mX3_isBroken.2.1 63 = .ok (.ifCond .eq 7, 3) := by decide +kernel
theorem d_X3_isBroken_66 : decode mX3_isBroken.2.1 66 = .ok (.iconst 1, 1) := by decide +kernel
theorem d_X3_isBroken_67 : decode mX3_isBroken.2.1 67 = .ok (.goto 4, 3) := by decide +kernel
theorem d_X3_isBroken_70 : decode mX3_isBroken.2.1 70 = .ok (.iconst 0, 1) := by decide +kernel
theorem d_X3_isBroken_71 : decode mX3_isBroken.2.1 71 = .ok (.ireturn, 1) := by decide +kernel
def T_X3_isBroken_71 (Q : Int32 → Mem → Prop) (s0 : Int32) (M : Mem) : Prop := ((s0 : Int32) = 0 ∨ (s0 : Int32) = 1) ∧ Q s0 M
set_option maxRecDepth 100000 in
set_option maxHeartbeats 4000000 in
theorem B_X3_isBroken_71 {g : GG} (Q : Int32 → Mem → Prop) (s0 : Int32) (M : Mem) (h : T_X3_isBroken_71 Q s0 M) : WP g 10 mX3_isBroken 71 [none, none, none, none, none] [.int s0] M 0 (oZ Q noX) := by
  unfold T_X3_isBroken_71 at h
  exact R_retv (pc := 71) d_X3_isBroken_71 h
def T_X3_isBroken_70 (Q : Int32 → Mem → Prop) (M : Mem) : Prop := T_X3_isBroken_71 Q 0 M
set_option maxRecDepth 100000 in
set_option maxHeartbeats 4000000 in
theorem B_X3_isBroken_70 {g : GG} (Q : Int32 → Mem → Prop) (M : Mem) (h : T_X3_isBroken_70 Q  M) : WP g 10 mX3_isBroken 70 [none, none, none, none, none] [] M 0 (oZ Q noX) := by
  unfold T_X3_isBroken_70 at h
  refine R_iconst (pc := 70) (v := 0) d_X3_isBroken_70 (by decide) ?_
  exact WP_sub (B_X3_isBroken_71 Q 0 M h) (by decide) (ls_n (ls_n (ls_n (ls_n (ls_n ls_0)))))
def T_X3_isBroken_46 (Q : Int32 → Mem → Prop) (s0 : Int32) (M : Mem) : Prop := ((s0 : Int32) = 0 ∨ (s0 : Int32) = 1) ∧ Q s0 M
set_option maxRecDepth 100000 in
set_option maxHeartbeats 4000000 in
theorem B_X3_isBroken_46 {g : GG} (Q : Int32 → Mem → Prop) (s0 : Int32) (M : Mem) (h : T_X3_isBroken_46 Q s0 M) : WP g 10 mX3_isBroken 46 [none, none, none, none, none] [.int s0] M 0 (oZ Q noX) := by
  unfold T_X3_isBroken_46 at h
  exact R_retv (pc := 46) d_X3_isBroken_46 h
def T_X3_isBroken_23 (Q : Int32 → Mem → Prop) (M : Mem) : Prop := ((0 : Int32) = 0 ∨ (0 : Int32) = 1) ∧ Q 0 M
set_option maxRecDepth 100000 in
set_option maxHeartbeats 4000000 in
theorem B_X3_isBroken_23 {g : GG} (Q : Int32 → Mem → Prop) (M : Mem) (h : T_X3_isBroken_23 Q  M) : WP g 10 mX3_isBroken 23 [none, none, none, none, none] [] M 0 (oZ Q noX) := by
  unfold T_X3_isBroken_23 at h
  refine R_iconst (pc := 23) (v := 0) d_X3_isBroken_23 (by decide) ?_
  exact R_retv (pc := 24) d_X3_isBroken_24 h
def T_X3_isBroken (Q : Int32 → Mem → Prop) (v0 : Nat) (v1 : Nat) (v2 : Int32) (v3 : Int32) (v4 : Int32) (M : Mem) : Prop := (kd v1 = 9) ∧ (vp_in 1 (ln v1)) ∧ if (M.1 v1 (Int32.toNatClampNeg 1)) = v2 then ((vp_in 3 (ln v1)) ∧ if v4 < (M.1 v1 (Int32.toNatClampNeg 3)) then (T_X3_isBroken_23 Q M) else ((vp_in 4 (ln v1)) ∧ if v4 ≤ (M.1 v1 (Int32.toNatClampNeg 4)) then ((vp_in 0 (ln v1)) ∧ if (M.1 v1 (Int32.toNatClampNeg 0)) = 0 then ((vp_in 2 (ln v1)) ∧ if (((Int32.toUInt32 v3 >>> (Int32.toUInt32 (M.1 v1 (Int32.toNatClampNeg 2)) &&& Int32.toUInt32 31)).toInt32) &&& 1) = 0 then (T_X3_isBroken_46 Q 0 M) else (T_X3_isBroken_46 Q 1 M)) else (if (M.1 v1 (Int32.toNatClampNeg 0)) = (1 : Int32) then ((vp_in 2 (ln v1)) ∧ (kd v0 = 3) ∧ T_X3_visitorsOfKind (fun y9 M8 => if (v3 &&& y9) = 0 then (T_X3_isBroken_70 Q M8) else (T_X3_isBroken_71 Q 1 M8))  v0 (M.1 v1 (Int32.toNatClampNeg 2)) M) else (T_X3_isBroken_70 Q M))) else (T_X3_isBroken_23 Q M))) else (T_X3_isBroken_23 Q M)
set_option maxRecDepth 100000 in
set_option maxHeartbeats 4000000 in
theorem c_X3_isBroken {g : GG} (v0 : Nat) (v1 : Nat) (v2 : Int32) (v3 : Int32) (v4 : Int32) (M : Mem) (Q : Int32 → Mem → Prop) (h : T_X3_isBroken Q v0 v1 v2 v3 v4 M) : CT g 10 mX3_isBroken [.ref (g.1 + v0), .ref (g.1 + v1), .int v2, .int v3, .int v4] M 0 (oZ Q noX) := by
  refine CT_of (L := [some (.ref (g.1 + v0)), some (.ref (g.1 + v1)), some (.int v2), some (.int v3), some (.int v4)]) (by decide) rfl (Nat.le_of_ble_eq_true rfl) (ro_Z rfl) rfl ?_
  unfold T_X3_isBroken at h
  refine R_aload_n (pc := 0) d_X3_isBroken_0 rfl rfl ?_
  refine R_iconst (pc := 1) (v := 1) d_X3_isBroken_1 (by decide) ?_
  obtain ⟨k1, h⟩ := h
  obtain ⟨k2, h⟩ := h
  refine R_iald (pc := 2) k1 k2 d_X3_isBroken_2 ?_
  refine R_iload_n (pc := 3) d_X3_isBroken_3 rfl rfl ?_
  refine R_icmp_ne (pc := 4) (tgt := 23) d_X3_isBroken_4 (by decide) (fun c => ?_) (fun c => ?_)
  · rw [if_neg c] at h
    exact WP_sub (B_X3_isBroken_23 Q M h) (by decide) (ls_n (ls_n (ls_n (ls_n (ls_n ls_0)))))
  · rw [if_pos c] at h
    refine R_iload (pc := 7) d_X3_isBroken_7 rfl ?_
    refine R_aload_n (pc := 9) d_X3_isBroken_9 rfl rfl ?_
    refine R_iconst (pc := 10) (v := 3) d_X3_isBroken_10 (by decide) ?_
    obtain ⟨k3, h⟩ := h
    refine R_iald (pc := 11) k1 k3 d_X3_isBroken_11 ?_
    refine R_icmp_lt (pc := 12) (tgt := 23) d_X3_isBroken_12 (by decide) (fun c => ?_) (fun c => ?_)
    · rw [if_pos c] at h
      exact WP_sub (B_X3_isBroken_23 Q M h) (by decide) (ls_n (ls_n (ls_n (ls_n (ls_n ls_0)))))
    · rw [if_neg c] at h
      refine R_iload (pc := 15) d_X3_isBroken_15 rfl ?_
      refine R_aload_n (pc := 17) d_X3_isBroken_17 rfl rfl ?_
      refine R_iconst (pc := 18) (v := 4) d_X3_isBroken_18 (by decide) ?_
      obtain ⟨k4, h⟩ := h
      refine R_iald (pc := 19) k1 k4 d_X3_isBroken_19 ?_
      refine R_icmp_le (pc := 20) (tgt := 25) d_X3_isBroken_20 (by decide) (fun c => ?_) (fun c => ?_)
      · rw [if_pos c] at h
        refine R_aload_n (pc := 25) d_X3_isBroken_25 rfl rfl ?_
        refine R_iconst (pc := 26) (v := 0) d_X3_isBroken_26 (by decide) ?_
        obtain ⟨k5, h⟩ := h
        refine R_iald (pc := 27) k1 k5 d_X3_isBroken_27 ?_
        refine R_if_ne (pc := 28) (tgt := 47) d_X3_isBroken_28 (by decide) (fun c => ?_) (fun c => ?_)
        · rw [if_neg c] at h
          refine R_aload_n (pc := 47) d_X3_isBroken_47 rfl rfl ?_
          refine R_iconst (pc := 48) (v := 0) d_X3_isBroken_48 (by decide) ?_
          refine R_iald (pc := 49) k1 k5 d_X3_isBroken_49 ?_
          refine R_iconst (pc := 50) (v := 1) d_X3_isBroken_50 (by decide) ?_
          refine R_icmp_ne (pc := 51) (tgt := 70) d_X3_isBroken_51 (by decide) (fun c => ?_) (fun c => ?_)
          · rw [if_neg c] at h
            exact WP_sub (B_X3_isBroken_70 Q M h) (by decide) (ls_n (ls_n (ls_n (ls_n (ls_n ls_0)))))
          · rw [if_pos c] at h
            refine R_iload_n (pc := 54) d_X3_isBroken_54 rfl rfl ?_
            refine R_aload_n (pc := 55) d_X3_isBroken_55 rfl rfl ?_
            refine R_aload_n (pc := 56) d_X3_isBroken_56 rfl rfl ?_
            refine R_iconst (pc := 57) (v := 2) d_X3_isBroken_57 (by decide) ?_
            obtain ⟨k6, h⟩ := h
            refine R_iald (pc := 58) k1 k6 d_X3_isBroken_58 ?_
            obtain ⟨k7, h⟩ := h
            refine R_callV (pc := 59) (As := [.int (M.1 v1 (Int32.toNatClampNeg 2))]) (rest := [.int v3]) (c_X3_visitorsOfKind (g := g) v0 (M.1 v1 (Int32.toNatClampNeg 2)) M _ h) rfl rfl cal_RX3_81 ins_X3_visitorsOfKind sel_X3_visitorsOfKind (cls_at k7 clsOK3) (by decide) (by decide) rfl rfl (Nat.le_of_ble_eq_true rfl) d_X3_isBroken_59 (k_I (fun y9 M8 h => ?_)) (fun _ _ h9 => False.elim h9)
            try dsimp only at h
            refine R_iand (pc := 62) d_X3_isBroken_62 ?_
            refine R_if_eq (pc := 63) (tgt := 70) d_X3_isBroken_63 (by decide) (fun c => ?_) (fun c => ?_)
            · rw [if_pos c] at h
              exact WP_sub (B_X3_isBroken_70 Q M8 h) (by decide) (ls_n (ls_n (ls_n (ls_n (ls_n ls_0)))))
            · rw [if_neg c] at h
              refine R_iconst (pc := 66) (v := 1) d_X3_isBroken_66 (by decide) ?_
              refine R_goto (pc := 67) (tgt := 71) d_X3_isBroken_67 (by decide) ?_
              exact WP_sub (B_X3_isBroken_71 Q 1 M8 h) (by decide) (ls_n (ls_n (ls_n (ls_n (ls_n ls_0)))))
        · rw [if_pos c] at h
          refine R_iload_n (pc := 31) d_X3_isBroken_31 rfl rfl ?_
          refine R_aload_n (pc := 32) d_X3_isBroken_32 rfl rfl ?_
          refine R_iconst (pc := 33) (v := 2) d_X3_isBroken_33 (by decide) ?_
          obtain ⟨k10, h⟩ := h
          refine R_iald (pc := 34) k1 k10 d_X3_isBroken_34 ?_
          refine R_iushr (pc := 35) d_X3_isBroken_35 ?_
          refine R_iconst (pc := 36) (v := 1) d_X3_isBroken_36 (by decide) ?_
          refine R_iand (pc := 37) d_X3_isBroken_37 ?_
          refine R_if_eq (pc := 38) (tgt := 45) d_X3_isBroken_38 (by decide) (fun c => ?_) (fun c => ?_)
          · rw [if_pos c] at h
            refine R_iconst (pc := 45) (v := 0) d_X3_isBroken_45 (by decide) ?_
            exact WP_sub (B_X3_isBroken_46 Q 0 M h) (by decide) (ls_n (ls_n (ls_n (ls_n (ls_n ls_0)))))
          · rw [if_neg c] at h
            refine R_iconst (pc := 41) (v := 1) d_X3_isBroken_41 (by decide) ?_
            refine R_goto (pc := 42) (tgt := 46) d_X3_isBroken_42 (by decide) ?_
            exact WP_sub (B_X3_isBroken_46 Q 1 M h) (by decide) (ls_n (ls_n (ls_n (ls_n (ls_n ls_0)))))
      · rw [if_neg c] at h
        exact WP_sub (B_X3_isBroken_23 Q M h) (by decide) (ls_n (ls_n (ls_n (ls_n (ls_n ls_0)))))
/-! X3_quotaOf -/
theorem d_X3_quotaOf_0 : decode mX3_quotaOf.2.1 0 = .ok (.aload_n 0, 1) := by decide +kernel
theorem d_X3_quotaOf_1 : decode mX3_quotaOf.2.1 1 = .ok (.getfield 15, 3) := by decide +kernel
theorem d_X3_quotaOf_4 : decode mX3_quotaOf.2.1 4 = .ok (.aload_n 0, 1) := by decide +kernel
theorem d_X3_quotaOf_5 : decode mX3_quotaOf.2.1 5 = .ok (.getfield 24, 3) := by decide +kernel
theorem d_X3_quotaOf_8 : decode mX3_quotaOf.2.1 8 = .ok (.getfield 77, 3) := by decide +kernel
theorem d_X3_quotaOf_11 : decode mX3_quotaOf.2.1 11 = .ok (.iload_n 1, 1) := by decide +kernel
theorem d_X3_quotaOf_12 : decode mX3_quotaOf.2.1 12 = .ok (.aaload, 1) := by decide +kernel
theorem d_X3_quotaOf_13 : decode mX3_quotaOf.2.1 13 = .ok (.iconst 1, 1) := by decide +kernel
theorem d_X3_quotaOf_14 : decode mX3_quotaOf.2.1 14 = .ok (.iaload, 1) := by decide +kernel
theorem d_X3_quotaOf_15 : decode mX3_quotaOf.2.1 15 = .ok (.iaload, 1) := by decide +kernel
theorem d_X3_quotaOf_16 : decode mX3_quotaOf.2.1 16 = .ok (.ireturn, 1) := by decide +kernel
def T_X3_quotaOf (Q : Int32 → Mem → Prop) (v0 : Nat) (v1 : Int32) (M : Mem) : Prop := (kd v0 = 3) ∧ (kd (rf v0 2) = 4) ∧ (kd (rf (rf v0 2) 0) = 10 ∨ kd (rf (rf v0 2) 0) = 11) ∧ (vp_in v1 (ln (rf (rf v0 2) 0))) ∧ (kd (rf (rf (rf v0 2) 0) (Int32.toNatClampNeg v1)) = 9) ∧ (vp_in 1 (ln (rf (rf (rf v0 2) 0) (Int32.toNatClampNeg v1)))) ∧ (kd (rf v0 1) = 9) ∧ (vp_in (M.1 (rf (rf (rf v0 2) 0) (Int32.toNatClampNeg v1)) (Int32.toNatClampNeg 1)) (ln (rf v0 1))) ∧ Q (M.1 (rf v0 1) (Int32.toNatClampNeg (M.1 (rf (rf (rf v0 2) 0) (Int32.toNatClampNeg v1)) (Int32.toNatClampNeg 1)))) M
set_option maxRecDepth 100000 in
set_option maxHeartbeats 4000000 in
theorem c_X3_quotaOf {g : GG} (v0 : Nat) (v1 : Int32) (M : Mem) (Q : Int32 → Mem → Prop) (h : T_X3_quotaOf Q v0 v1 M) : CT g 9 mX3_quotaOf [.ref (g.1 + v0), .int v1] M 0 (oI Q noX) := by
  refine CT_of (L := [some (.ref (g.1 + v0)), some (.int v1)]) (by decide) rfl (Nat.le_of_ble_eq_true rfl) (ro_I rfl) rfl ?_
  unfold T_X3_quotaOf at h
  refine R_aload_n (pc := 0) d_X3_quotaOf_0 rfl rfl ?_
  obtain ⟨k1, h⟩ := h
  refine R_getR (pc := 1) fld_RX3_15 rfl rfl k1 d_X3_quotaOf_1 ?_
  refine R_aload_n (pc := 4) d_X3_quotaOf_4 rfl rfl ?_
  refine R_getR (pc := 5) fld_RX3_24 rfl rfl k1 d_X3_quotaOf_5 ?_
  obtain ⟨k2, h⟩ := h
  refine R_getR (pc := 8) fld_RX3_77 rfl rfl k2 d_X3_quotaOf_8 ?_
  refine R_iload_n (pc := 11) d_X3_quotaOf_11 rfl rfl ?_
  obtain ⟨k3, h⟩ := h
  obtain ⟨k4, h⟩ := h
  refine R_aald (pc := 12) k3 k4 d_X3_quotaOf_12 ?_
  refine R_iconst (pc := 13) (v := 1) d_X3_quotaOf_13 (by decide) ?_
  obtain ⟨k5, h⟩ := h
  obtain ⟨k6, h⟩ := h
  refine R_iald (pc := 14) k5 k6 d_X3_quotaOf_14 ?_
  obtain ⟨k7, h⟩ := h
  obtain ⟨k8, h⟩ := h
  refine R_iald (pc := 15) k7 k8 d_X3_quotaOf_15 ?_
  exact R_retv (pc := 16) d_X3_quotaOf_16 h
/-! X3_isForQuota -/
theorem d_X3_isForQuota_0 : decode mX3_isForQuota.2.1 0 = .ok (.iload_n 1, 1) := by decide +kernel
theorem d_X3_isForQuota_1 : decode mX3_isForQuota.2.1 1 = .ok (.aload_n 0, 1) := by decide +kernel
theorem d_X3_isForQuota_2 : decode mX3_isForQuota.2.1 2 = .ok (.iconst 2, 1) := by decide +kernel
theorem d_X3_isForQuota_3 : decode mX3_isForQuota.2.1 3 = .ok (.invokevirtual 81, 3) := by decide +kernel
theorem d_X3_isForQuota_6 : decode mX3_isForQuota.2.1 6 = .ok (.iconst (-1), 1) := by decide +kernel
theorem d_X3_isForQuota_7 : decode mX3_isForQuota.2.1 7 = .ok (.ixor, 1) := by decide +kernel
theorem d_X3_isForQuota_8 : decode mX3_isForQuota.2.1 8 = .ok (.iand, 1) := by decide +kernel
theorem d_X3_isForQuota_9 : decode mX3_isForQuota.2.1 9 = .ok (.ifCond .eq 7, 3) := by decide +kernel
theorem d_X3_isForQuota_12 : decode mX3_isForQuota.2.1 12 = .ok (.iconst 1, 1) := by decide +kernel
theorem d_X3_isForQuota_13 : decode mX3_isForQuota.2.1 13 = .ok (.goto 4, 3) := by decide +kernel
theorem d_X3_isForQuota_16 : decode mX3_isForQuota.2.1 16 = .ok (.iconst 0, 1) := by decide +kernel
theorem d_X3_isForQuota_17 : decode mX3_isForQuota.2.1 17 = .ok (.ireturn, 1) := by decide +kernel
def T_X3_isForQuota_17 (Q : Int32 → Mem → Prop) (s0 : Int32) (M : Mem) : Prop := ((s0 : Int32) = 0 ∨ (s0 : Int32) = 1) ∧ Q s0 M
set_option maxRecDepth 100000 in
set_option maxHeartbeats 4000000 in
theorem B_X3_isForQuota_17 {g : GG} (Q : Int32 → Mem → Prop) (s0 : Int32) (M : Mem) (h : T_X3_isForQuota_17 Q s0 M) : WP g 10 mX3_isForQuota 17 [none, none] [.int s0] M 0 (oZ Q noX) := by
  unfold T_X3_isForQuota_17 at h
  exact R_retv (pc := 17) d_X3_isForQuota_17 h
def T_X3_isForQuota (Q : Int32 → Mem → Prop) (v0 : Nat) (v1 : Int32) (M : Mem) : Prop := (kd v0 = 3) ∧ T_X3_visitorsOfKind (fun y3 M2 => if (v1 &&& (y3 ^^^ (-1))) = 0 then (T_X3_isForQuota_17 Q 0 M2) else (T_X3_isForQuota_17 Q 1 M2))  v0 2 M
set_option maxRecDepth 100000 in
set_option maxHeartbeats 4000000 in
theorem c_X3_isForQuota {g : GG} (v0 : Nat) (v1 : Int32) (M : Mem) (Q : Int32 → Mem → Prop) (h : T_X3_isForQuota Q v0 v1 M) : CT g 10 mX3_isForQuota [.ref (g.1 + v0), .int v1] M 0 (oZ Q noX) := by
  refine CT_of (L := [some (.ref (g.1 + v0)), some (.int v1)]) (by decide) rfl (Nat.le_of_ble_eq_true rfl) (ro_Z rfl) rfl ?_
  unfold T_X3_isForQuota at h
  refine R_iload_n (pc := 0) d_X3_isForQuota_0 rfl rfl ?_
  refine R_aload_n (pc := 1) d_X3_isForQuota_1 rfl rfl ?_
  refine R_iconst (pc := 2) (v := 2) d_X3_isForQuota_2 (by decide) ?_
  obtain ⟨k1, h⟩ := h
  refine R_callV (pc := 3) (As := [.int 2]) (rest := [.int v1]) (c_X3_visitorsOfKind (g := g) v0 2 M _ h) rfl rfl cal_RX3_81 ins_X3_visitorsOfKind sel_X3_visitorsOfKind (cls_at k1 clsOK3) (by decide) (by decide) rfl rfl (Nat.le_of_ble_eq_true rfl) d_X3_isForQuota_3 (k_I (fun y3 M2 h => ?_)) (fun _ _ h9 => False.elim h9)
  try dsimp only at h
  refine R_iconst (pc := 6) (v := (-1)) d_X3_isForQuota_6 (by decide) ?_
  refine R_ixor (pc := 7) d_X3_isForQuota_7 ?_
  refine R_iand (pc := 8) d_X3_isForQuota_8 ?_
  refine R_if_eq (pc := 9) (tgt := 16) d_X3_isForQuota_9 (by decide) (fun c => ?_) (fun c => ?_)
  · rw [if_pos c] at h
    refine R_iconst (pc := 16) (v := 0) d_X3_isForQuota_16 (by decide) ?_
    exact WP_sub (B_X3_isForQuota_17 Q 0 M2 h) (by decide) (ls_n (ls_n ls_0))
  · rw [if_neg c] at h
    refine R_iconst (pc := 12) (v := 1) d_X3_isForQuota_12 (by decide) ?_
    refine R_goto (pc := 13) (tgt := 17) d_X3_isForQuota_13 (by decide) ?_
    exact WP_sub (B_X3_isForQuota_17 Q 1 M2 h) (by decide) (ls_n (ls_n ls_0))
/-! X3_countedVisits -/
theorem d_X3_countedVisits_0 : decode mX3_countedVisits.2.1 0 = .ok (.aload_n 0, 1) := by decide +kernel
theorem d_X3_countedVisits_1 : decode mX3_countedVisits.2.1 1 = .ok (.iconst 2, 1) := by decide +kernel
theorem d_X3_countedVisits_2 : decode mX3_countedVisits.2.1 2 = .ok (.invokevirtual 81, 3) := by decide +kernel
theorem d_X3_countedVisits_5 : decode mX3_countedVisits.2.1 5 = .ok (.istore_n 3, 1) := by decide +kernel
theorem d_X3_countedVisits_6 : decode mX3_countedVisits.2.1 6 = .ok (.iconst 0, 1) := by decide +kernel
theorem d_X3_countedVisits_7 : decode mX3_countedVisits.2.1 7 = .ok (.istore 4, 2) := by decide +kernel
theorem d_X3_countedVisits_9 : decode mX3_countedVisits.2.1 9 = .ok (.iconst 0, 1) := by decide +kernel
theorem d_X3_countedVisits_10 : decode mX3_countedVisits.2.1 10 = .ok (.istore 5, 2) := by decide +kernel
theorem d_X3_countedVisits_12 : decode mX3_countedVisits.2.1 12 = .ok (.iload 5, 2) := by decide +kernel
theorem d_X3_countedVisits_14 : decode mX3_countedVisits.2.1 14 = .ok (.aload_n 0, 1) := by decide +kernel
theorem d_X3_countedVisits_15 : decode mX3_countedVisits.2.1 15 = .ok (.getfield 34, 3) := by decide +kernel
theorem d_X3_countedVisits_18 : decode mX3_countedVisits.2.1 18 = .ok (.getfield 74, 3) := by decide +kernel
theorem d_X3_countedVisits_21 : decode mX3_countedVisits.2.1 21 = .ok (.if_icmp .ge 62, 3) := by decide +kernel
theorem d_X3_countedVisits_24 : decode mX3_countedVisits.2.1 24 = .ok (.aload_n 0, 1) := by decide +kernel
theorem d_X3_countedVisits_25 : decode mX3_countedVisits.2.1 25 = .ok (.getfield 34, 3) := by decide +kernel
theorem d_X3_countedVisits_28 : decode mX3_countedVisits.2.1 28 = .ok (.getfield 77, 3) := by decide +kernel
theorem d_X3_countedVisits_31 : decode mX3_countedVisits.2.1 31 = .ok (.iload 5, 2) := by decide +kernel
theorem d_X3_countedVisits_33 : decode mX3_countedVisits.2.1 33 = .ok (.aaload, 1) := by decide +kernel
theorem d_X3_countedVisits_34 : decode mX3_countedVisits.2.1 34 = .ok (.astore 6, 2) := by decide +kernel
theorem d_X3_countedVisits_36 : decode mX3_countedVisits.2.1 36 = .ok (.aload 6, 2) := by decide +kernel
theorem d_X3_countedVisits_38 : decode mX3_countedVisits.2.1 38 = .ok (.iconst 0, 1) := by decide +kernel
theorem d_X3_countedVisits_39 : decode mX3_countedVisits.2.1 39 = .ok (.iaload, 1) := by decide +kernel
theorem d_X3_countedVisits_40 : decode mX3_countedVisits.2.1 40 = .ok (.iload_n 1, 1) := by decide +kernel
theorem d_X3_countedVisits_41 : decode mX3_countedVisits.2.1 41 = .ok (.if_icmp .ne 36, 3) := by decide +kernel
theorem d_X3_countedVisits_44 : decode mX3_countedVisits.2.1 44 = .ok (.aload 6, 2) := by decide +kernel
theorem d_X3_countedVisits_46 : decode mX3_countedVisits.2.1 46 = .ok (.iconst 5, 1) := by decide +kernel
theorem d_X3_countedVisits_47 : decode mX3_countedVisits.2.1 47 = .ok (.iaload, 1) := by decide +kernel
theorem d_X3_countedVisits_48 : decode mX3_countedVisits.2.1 48 = .ok (.iconst 2, 1) := by decide +kernel
theorem d_X3_countedVisits_49 : decode mX3_countedVisits.2.1 49 = .ok (.if_icmp .eq 28, 3) := by decide +kernel
theorem d_X3_countedVisits_52 : decode mX3_countedVisits.2.1 52 = .ok (.aload 6, 2) := by decide +kernel
theorem d_X3_countedVisits_54 : decode mX3_countedVisits.2.1 54 = .ok (.iconst 2, 1) := by decide +kernel
theorem d_X3_countedVisits_55 : decode mX3_countedVisits.2.1 55 = .ok (.iaload, 1) := by decide +kernel
theorem d_X3_countedVisits_56 : decode mX3_countedVisits.2.1 56 = .ok (.bipush 7, 2) := by decide +kernel
theorem d_X3_countedVisits_58 : decode mX3_countedVisits.2.1 58 = .ok (.idiv, 1) := by decide +kernel
theorem d_X3_countedVisits_59 : decode mX3_countedVisits.2.1 59 = .ok (.iload_n 2, 1) := by decide +kernel
theorem d_X3_countedVisits_60 : decode mX3_countedVisits.2.1 60 = .ok (.if_icmp .ne 17, 3) := by decide +kernel
theorem d_X3_countedVisits_63 : decode mX3_countedVisits.2.1 63 = .ok (.aload 6, 2) := by decide +kernel
theorem d_X3_countedVisits_65 : decode mX3_countedVisits.2.1 65 = .ok (.iconst 1, 1) := by decide +kernel
theorem d_X3_countedVisits_66 : decode mX3_countedVisits.2.1 66 = .ok (.iaload, 1) := by decide +kernel
theorem d_X3_countedVisits_67 : decode mX3_countedVisits.2.1 67 = .ok (.iload_n 3, 1) := by decide +kernel
theorem d_X3_countedVisits_68 : decode mX3_countedVisits.2.1 68 = .ok (.iconst (-1), 1) := by decide +kernel
theorem d_X3_countedVisits_69 : decode mX3_countedVisits.2.1 69 = .ok (.ixor, 1) := by decide +kernel
theorem d_X3_countedVisits_70 : decode mX3_countedVisits.2.1 70 = .ok (.iand, 1) := by decide +kernel
theorem d_X3_countedVisits_71 : decode mX3_countedVisits.2.1 71 = .ok (.ifCond .eq 6, 3) := by decide +kernel
theorem d_X3_countedVisits_74 : decode mX3_countedVisits.2.1 74 = .ok (.iinc 4 1, 3) := by decide +kernel
theorem d_X3_countedVisits_77 : decode mX3_countedVisits.2.1 77 = .ok (.iinc 5 1, 3) := by decide +kernel
theorem d_X3_countedVisits_80 : decode mX3_countedVisits.2.1 80 = .ok (.goto (-68), 3) := by decide +kernel
theorem d_X3_countedVisits_83 : decode mX3_countedVisits.2.1 83 = .ok (.iload 4, 2) := by decide +kernel
theorem d_X3_countedVisits_85 : decode mX3_countedVisits.2.1 85 = .ok (.ireturn, 1) := by decide +kernel
def T_X3_countedVisits_77 (κ12 : Nat → Int32 → Int32 → Int32 → Int32 → Int32 → Mem → Prop) (Q : Int32 → Mem → Prop) (v0 : Nat) (v1 : Int32) (v2 : Int32) (v3 : Int32) (v4 : Int32) (v5 : Int32) (M : Mem) : Prop := ∀ x1 : Int32, x1 = v5 + 1 → κ12 v0 v1 v2 v3 v4 x1 M
set_option maxRecDepth 100000 in
set_option maxHeartbeats 4000000 in
theorem B_X3_countedVisits_77 {g : GG} (Q : Int32 → Mem → Prop) (κ12 : Nat → Int32 → Int32 → Int32 → Int32 → Int32 → Mem → Prop) (hκ12 : ∀ (v0 : Nat) (v1 : Int32) (v2 : Int32) (v3 : Int32) (v4 : Int32) (v5 : Int32) (M : Mem), κ12 v0 v1 v2 v3 v4 v5 M → WP g 10 mX3_countedVisits 12 [some (.ref (g.1 + v0)), some (.int v1), some (.int v2), some (.int v3), some (.int v4), some (.int v5), none] [] M 0 (oI Q noX)) (v0 : Nat) (v1 : Int32) (v2 : Int32) (v3 : Int32) (v4 : Int32) (v5 : Int32) (M : Mem) (h : T_X3_countedVisits_77 κ12 Q v0 v1 v2 v3 v4 v5 M) : WP g 10 mX3_countedVisits 77 [some (.ref (g.1 + v0)), some (.int v1), some (.int v2), some (.int v3), some (.int v4), some (.int v5), none] [] M 0 (oI Q noX) := by
  unfold T_X3_countedVisits_77 at h
  obtain ⟨x1, ex1⟩ : ∃ z : Int32, z = v5 + 1 := ⟨_, rfl⟩
  have h := h x1 ex1
  refine R_iinc (pc := 77) (v := x1) (L' := [some (.ref (g.1 + v0)), some (.int v1), some (.int v2), some (.int v3), some (.int v4), some (.int x1), none]) d_X3_countedVisits_77 rfl (by rw [ex1]; rfl) (by decide) rfl ?_
  refine R_goto (pc := 80) (tgt := 12) d_X3_countedVisits_80 (by decide) ?_
  exact WP_sub (hκ12 v0 v1 v2 v3 v4 x1 M h) (by decide) (ls_s (ls_s (ls_s (ls_s (ls_s (ls_s (ls_n ls_0)))))))
def T_X3_countedVisits_12 (Q : Int32 → Mem → Prop) : Nat → Nat → Int32 → Int32 → Int32 → Int32 → Int32 → Mem → Prop
  | 0, _, _, _, _, _, _, _ => False
  | n + 1, v0, v1, v2, v3, v4, v5, M => (kd v0 = 3) ∧ (kd (rf v0 5) = 4) ∧ if (M.1 (rf v0 5) 2) ≤ v5 then (Q v4 M) else ((kd (rf (rf v0 5) 0) = 10 ∨ kd (rf (rf v0 5) 0) = 11) ∧ (vp_in v5 (ln (rf (rf v0 5) 0))) ∧ ∀ r5 : Nat, r5 = rf (rf (rf v0 5) 0) (Int32.toNatClampNeg v5) → (kd r5 = 9) ∧ (vp_in 0 (ln r5)) ∧ if (M.1 r5 (Int32.toNatClampNeg 0)) = v1 then ((vp_in 5 (ln r5)) ∧ if (M.1 r5 (Int32.toNatClampNeg 5)) = (2 : Int32) then (T_X3_countedVisits_77 (T_X3_countedVisits_12 Q n) Q v0 v1 v2 v3 v4 v5 M) else ((vp_in 2 (ln r5)) ∧ if ((M.1 r5 (Int32.toNatClampNeg 2)) / 7) = v2 then ((vp_in 1 (ln r5)) ∧ if ((M.1 r5 (Int32.toNatClampNeg 1)) &&& (v3 ^^^ (-1))) = 0 then (T_X3_countedVisits_77 (T_X3_countedVisits_12 Q n) Q v0 v1 v2 v3 v4 v5 M) else (∀ x11 : Int32, x11 = v4 + 1 → T_X3_countedVisits_77 (T_X3_countedVisits_12 Q n) Q v0 v1 v2 v3 x11 v5 M)) else (T_X3_countedVisits_77 (T_X3_countedVisits_12 Q n) Q v0 v1 v2 v3 v4 v5 M))) else (T_X3_countedVisits_77 (T_X3_countedVisits_12 Q n) Q v0 v1 v2 v3 v4 v5 M))
set_option maxRecDepth 100000 in
set_option maxHeartbeats 4000000 in
theorem B_X3_countedVisits_12 {g : GG} (Q : Int32 → Mem → Prop) : ∀ (n : Nat) (v0 : Nat) (v1 : Int32) (v2 : Int32) (v3 : Int32) (v4 : Int32) (v5 : Int32) (M : Mem), T_X3_countedVisits_12 Q n v0 v1 v2 v3 v4 v5 M → WP g 10 mX3_countedVisits 12 [some (.ref (g.1 + v0)), some (.int v1), some (.int v2), some (.int v3), some (.int v4), some (.int v5), none] [] M 0 (oI Q noX) := by
  intro n
  induction n with
  | zero => intro v0 v1 v2 v3 v4 v5 M h; exact h.elim
  | succ n hκ12 =>
    intro v0 v1 v2 v3 v4 v5 M h
    unfold T_X3_countedVisits_12 at h
    refine R_iload (pc := 12) d_X3_countedVisits_12 rfl ?_
    refine R_aload_n (pc := 14) d_X3_countedVisits_14 rfl rfl ?_
    obtain ⟨k1, h⟩ := h
    refine R_getR (pc := 15) fld_RX3_34 rfl rfl k1 d_X3_countedVisits_15 ?_
    obtain ⟨k2, h⟩ := h
    refine R_getI (pc := 18) fld_RX3_74 rfl rfl k2 d_X3_countedVisits_18 ?_
    refine R_icmp_ge (pc := 21) (tgt := 83) d_X3_countedVisits_21 (by decide) (fun c => ?_) (fun c => ?_)
    · rw [if_pos c] at h
      refine R_iload (pc := 83) d_X3_countedVisits_83 rfl ?_
      exact R_retv (pc := 85) d_X3_countedVisits_85 h
    · rw [if_neg c] at h
      refine R_aload_n (pc := 24) d_X3_countedVisits_24 rfl rfl ?_
      refine R_getR (pc := 25) fld_RX3_34 rfl rfl k1 d_X3_countedVisits_25 ?_
      refine R_getR (pc := 28) fld_RX3_77 rfl rfl k2 d_X3_countedVisits_28 ?_
      refine R_iload (pc := 31) d_X3_countedVisits_31 rfl ?_
      obtain ⟨k3, h⟩ := h
      obtain ⟨k4, h⟩ := h
      refine R_aald (pc := 33) k3 k4 d_X3_countedVisits_33 ?_
      refine N_r (fun r5 er5 => ?_)
      have h := h r5 er5
      refine R_astore (pc := 34) (L' := [some (.ref (g.1 + v0)), some (.int v1), some (.int v2), some (.int v3), some (.int v4), some (.int v5), some (.ref (g.1 + r5))]) d_X3_countedVisits_34 (by decide) rfl ?_
      refine R_aload (pc := 36) d_X3_countedVisits_36 rfl ?_
      refine R_iconst (pc := 38) (v := 0) d_X3_countedVisits_38 (by decide) ?_
      obtain ⟨k6, h⟩ := h
      obtain ⟨k7, h⟩ := h
      refine R_iald (pc := 39) k6 k7 d_X3_countedVisits_39 ?_
      refine R_iload_n (pc := 40) d_X3_countedVisits_40 rfl rfl ?_
      refine R_icmp_ne (pc := 41) (tgt := 77) d_X3_countedVisits_41 (by decide) (fun c => ?_) (fun c => ?_)
      · rw [if_neg c] at h
        exact WP_sub (B_X3_countedVisits_77 Q (T_X3_countedVisits_12 Q n) hκ12 v0 v1 v2 v3 v4 v5 M h) (by decide) (ls_s (ls_s (ls_s (ls_s (ls_s (ls_s (ls_n ls_0)))))))
      · rw [if_pos c] at h
        refine R_aload (pc := 44) d_X3_countedVisits_44 rfl ?_
        refine R_iconst (pc := 46) (v := 5) d_X3_countedVisits_46 (by decide) ?_
        obtain ⟨k8, h⟩ := h
        refine R_iald (pc := 47) k6 k8 d_X3_countedVisits_47 ?_
        refine R_iconst (pc := 48) (v := 2) d_X3_countedVisits_48 (by decide) ?_
        refine R_icmp_eq (pc := 49) (tgt := 77) d_X3_countedVisits_49 (by decide) (fun c => ?_) (fun c => ?_)
        · rw [if_pos c] at h
          exact WP_sub (B_X3_countedVisits_77 Q (T_X3_countedVisits_12 Q n) hκ12 v0 v1 v2 v3 v4 v5 M h) (by decide) (ls_s (ls_s (ls_s (ls_s (ls_s (ls_s (ls_n ls_0)))))))
        · rw [if_neg c] at h
          refine R_aload (pc := 52) d_X3_countedVisits_52 rfl ?_
          refine R_iconst (pc := 54) (v := 2) d_X3_countedVisits_54 (by decide) ?_
          obtain ⟨k9, h⟩ := h
          refine R_iald (pc := 55) k6 k9 d_X3_countedVisits_55 ?_
          refine R_bipush (pc := 56) (v := 7) d_X3_countedVisits_56 (by decide) ?_
          refine R_idiv (pc := 58) d_X3_countedVisits_58 (by decide) ?_
          refine R_iload_n (pc := 59) d_X3_countedVisits_59 rfl rfl ?_
          refine R_icmp_ne (pc := 60) (tgt := 77) d_X3_countedVisits_60 (by decide) (fun c => ?_) (fun c => ?_)
          · rw [if_neg c] at h
            exact WP_sub (B_X3_countedVisits_77 Q (T_X3_countedVisits_12 Q n) hκ12 v0 v1 v2 v3 v4 v5 M h) (by decide) (ls_s (ls_s (ls_s (ls_s (ls_s (ls_s (ls_n ls_0)))))))
          · rw [if_pos c] at h
            refine R_aload (pc := 63) d_X3_countedVisits_63 rfl ?_
            refine R_iconst (pc := 65) (v := 1) d_X3_countedVisits_65 (by decide) ?_
            obtain ⟨k10, h⟩ := h
            refine R_iald (pc := 66) k6 k10 d_X3_countedVisits_66 ?_
            refine R_iload_n (pc := 67) d_X3_countedVisits_67 rfl rfl ?_
            refine R_iconst (pc := 68) (v := (-1)) d_X3_countedVisits_68 (by decide) ?_
            refine R_ixor (pc := 69) d_X3_countedVisits_69 ?_
            refine R_iand (pc := 70) d_X3_countedVisits_70 ?_
            refine R_if_eq (pc := 71) (tgt := 77) d_X3_countedVisits_71 (by decide) (fun c => ?_) (fun c => ?_)
            · rw [if_pos c] at h
              exact WP_sub (B_X3_countedVisits_77 Q (T_X3_countedVisits_12 Q n) hκ12 v0 v1 v2 v3 v4 v5 M h) (by decide) (ls_s (ls_s (ls_s (ls_s (ls_s (ls_s (ls_n ls_0)))))))
            · rw [if_neg c] at h
              obtain ⟨x11, ex11⟩ : ∃ z : Int32, z = v4 + 1 := ⟨_, rfl⟩
              have h := h x11 ex11
              refine R_iinc (pc := 74) (v := x11) (L' := [some (.ref (g.1 + v0)), some (.int v1), some (.int v2), some (.int v3), some (.int x11), some (.int v5), some (.ref (g.1 + r5))]) d_X3_countedVisits_74 rfl (by rw [ex11]; rfl) (by decide) rfl ?_
              exact WP_sub (B_X3_countedVisits_77 Q (T_X3_countedVisits_12 Q n) hκ12 v0 v1 v2 v3 x11 v5 M h) (by decide) (ls_s (ls_s (ls_s (ls_s (ls_s (ls_s (ls_n ls_0)))))))
def T_X3_countedVisits (Q : Int32 → Mem → Prop) (v0 : Nat) (v1 : Int32) (v2 : Int32) (M : Mem) : Prop := (kd v0 = 3) ∧ T_X3_visitorsOfKind (fun y3 M2 => (∃ N : Nat, T_X3_countedVisits_12 Q N v0 v1 v2 y3 0 0 M2))  v0 2 M
set_option maxRecDepth 100000 in
set_option maxHeartbeats 4000000 in
theorem c_X3_countedVisits {g : GG} (v0 : Nat) (v1 : Int32) (v2 : Int32) (M : Mem) (Q : Int32 → Mem → Prop) (h : T_X3_countedVisits Q v0 v1 v2 M) : CT g 10 mX3_countedVisits [.ref (g.1 + v0), .int v1, .int v2] M 0 (oI Q noX) := by
  refine CT_of (L := [some (.ref (g.1 + v0)), some (.int v1), some (.int v2), none, none, none, none]) (by decide) rfl (Nat.le_of_ble_eq_true rfl) (ro_I rfl) rfl ?_
  unfold T_X3_countedVisits at h
  refine R_aload_n (pc := 0) d_X3_countedVisits_0 rfl rfl ?_
  refine R_iconst (pc := 1) (v := 2) d_X3_countedVisits_1 (by decide) ?_
  obtain ⟨k1, h⟩ := h
  refine R_callV (pc := 2) (As := [.int 2]) (rest := []) (c_X3_visitorsOfKind (g := g) v0 2 M _ h) rfl rfl cal_RX3_81 ins_X3_visitorsOfKind sel_X3_visitorsOfKind (cls_at k1 clsOK3) (by decide) (by decide) rfl rfl (Nat.le_of_ble_eq_true rfl) d_X3_countedVisits_2 (k_I (fun y3 M2 h => ?_)) (fun _ _ h9 => False.elim h9)
  try dsimp only at h
  refine R_istore_n (pc := 5) (L' := [some (.ref (g.1 + v0)), some (.int v1), some (.int v2), some (.int y3), none, none, none]) d_X3_countedVisits_5 rfl (by decide) rfl ?_
  refine R_iconst (pc := 6) (v := 0) d_X3_countedVisits_6 (by decide) ?_
  refine R_istore (pc := 7) (L' := [some (.ref (g.1 + v0)), some (.int v1), some (.int v2), some (.int y3), some (.int 0), none, none]) d_X3_countedVisits_7 (by decide) rfl ?_
  refine R_iconst (pc := 9) (v := 0) d_X3_countedVisits_9 (by decide) ?_
  refine R_istore (pc := 10) (L' := [some (.ref (g.1 + v0)), some (.int v1), some (.int v2), some (.int y3), some (.int 0), some (.int 0), none]) d_X3_countedVisits_10 (by decide) rfl ?_
  obtain ⟨N, h⟩ := h
  exact WP_sub (B_X3_countedVisits_12 Q N v0 v1 v2 y3 0 0 M2 h) (by decide) (ls_s (ls_s (ls_s (ls_s (ls_s (ls_s (ls_n ls_0)))))))
/-! X2_reasonOfDay -/
theorem d_X2_reasonOfDay_0 : decode mX2_reasonOfDay.2.1 0 = .ok (.iload_n 3, 1) := by decide +kernel
theorem d_X2_reasonOfDay_1 : decode mX2_reasonOfDay.2.1 1 = .ok (.aload_n 0, 1) := by decide +kernel
theorem d_X2_reasonOfDay_2 : decode mX2_reasonOfDay.2.1 2 = .ok (.getfield 9, 3) := by decide +kernel
theorem d_X2_reasonOfDay_5 : decode mX2_reasonOfDay.2.1 5 = .ok (.getfield 43, 3) := by decide +kernel
theorem d_X2_reasonOfDay_8 : decode mX2_reasonOfDay.2.1 8 = .ok (.if_icmp .ge 16, 3) := by decide +kernel
theorem d_X2_reasonOfDay_11 : decode mX2_reasonOfDay.2.1 11 = .ok (.aload_n 0, 1) := by decide +kernel
theorem d_X2_reasonOfDay_12 : decode mX2_reasonOfDay.2.1 12 = .ok (.iconst 1, 1) := by decide +kernel
theorem d_X2_reasonOfDay_13 : decode mX2_reasonOfDay.2.1 13 = .ok (.aload_n 0, 1) := by decide +kernel
theorem d_X2_reasonOfDay_14 : decode mX2_reasonOfDay.2.1 14 = .ok (.getfield 9, 3) := by decide +kernel
theorem d_X2_reasonOfDay_17 : decode mX2_reasonOfDay.2.1 17 = .ok (.getfield 43, 3) := by decide +kernel
theorem d_X2_reasonOfDay_20 : decode mX2_reasonOfDay.2.1 20 = .ok (.invokevirtual 48, 3) := by decide +kernel
theorem d_X2_reasonOfDay_23 : decode mX2_reasonOfDay.2.1 23 = .ok (.ireturn, 1) := by decide +kernel
theorem d_X2_reasonOfDay_24 : decode mX2_reasonOfDay.2.1 24 = .ok (.iconst 0, 1) := by decide +kernel
theorem d_X2_reasonOfDay_25 : decode mX2_reasonOfDay.2.1 25 = .ok (.istore 4, 2) := by decide +kernel
theorem d_X2_reasonOfDay_27 : decode mX2_reasonOfDay.2.1 27 = .ok (.iload 4, 2) := by decide +kernel
theorem d_X2_reasonOfDay_29 : decode mX2_reasonOfDay.2.1 29 = .ok (.aload_n 0, 1) := by decide +kernel
theorem d_X2_reasonOfDay_30 : decode mX2_reasonOfDay.2.1 30 = .ok (.getfield 9, 3) := by decide +kernel
theorem d_X2_reasonOfDay_33 : decode mX2_reasonOfDay.2.1 33 = .ok (.getfield 52, 3) := by decide +kernel
theorem d_X2_reasonOfDay_36 : decode mX2_reasonOfDay.2.1 36 = .ok (.getfield 56, 3) := by decide +kernel
theorem d_X2_reasonOfDay_39 : decode mX2_reasonOfDay.2.1 39 = .ok (.if_icmp .ge 43, 3) := by decide +kernel
theorem d_X2_reasonOfDay_42 : decode mX2_reasonOfDay.2.1 42 = .ok (.aload_n 0, 1) := by decide +kernel
theorem d_X2_reasonOfDay_43 : decode mX2_reasonOfDay.2.1 43 = .ok (.getfield 9, 3) := by decide +kernel
theorem d_X2_reasonOfDay_46 : decode mX2_reasonOfDay.2.1 46 = .ok (.aload_n 0, 1) := by decide +kernel
theorem d_X2_reasonOfDay_47 : decode mX2_reasonOfDay.2.1 47 = .ok (.getfield 9, 3) := by decide +kernel
theorem d_X2_reasonOfDay_50 : decode mX2_reasonOfDay.2.1 50 = .ok (.getfield 52, 3) := by decide +kernel
theorem d_X2_reasonOfDay_53 : decode mX2_reasonOfDay.2.1 53 = .ok (.getfield 61, 3) := by decide +kernel
theorem d_X2_reasonOfDay_56 : decode mX2_reasonOfDay.2.1 56 = .ok (.iload 4, 2) := by decide +kernel
theorem d_X2_reasonOfDay_58 : decode mX2_reasonOfDay.2.1 58 = .ok (.aaload, 1) := by decide +kernel
theorem d_X2_reasonOfDay_59 : decode mX2_reasonOfDay.2.1 59 = .ok (.iload_n 1, 1) := by decide +kernel
theorem d_X2_reasonOfDay_60 : decode mX2_reasonOfDay.2.1 60 = .ok (.iload_n 2, 1) := by decide +kernel
theorem d_X2_reasonOfDay_61 : decode mX2_reasonOfDay.2.1 61 = .ok (.iload_n 3, 1) := by decide +kernel
theorem d_X2_reasonOfDay_62 : decode mX2_reasonOfDay.2.1 62 = .ok (.invokevirtual 65, 3) := by decide +kernel
theorem d_X2_reasonOfDay_65 : decode mX2_reasonOfDay.2.1 65 = .ok (.ifCond .eq 11, 3) := by decide +kernel
theorem d_X2_reasonOfDay_68 : decode mX2_reasonOfDay.2.1 68 = .ok (.aload_n 0, 1) := by decide +kernel
theorem d_X2_reasonOfDay_69 : decode mX2_reasonOfDay.2.1 69 = .ok (.iconst 2, 1) := by decide +kernel
theorem d_X2_reasonOfDay_70 : decode mX2_reasonOfDay.2.1 70 = .ok (.iload 4, 2) := by decide +kernel
theorem d_X2_reasonOfDay_72 : decode mX2_reasonOfDay.2.1 72 = .ok (.invokevirtual 48, 3) := by decide +kernel
theorem d_X2_reasonOfDay_75 : decode mX2_reasonOfDay.2.1 75 = .ok (.ireturn, 1) := by decide +kernel
theorem d_X2_reasonOfDay_76 : decode mX2_reasonOfDay.2.1 76 = .ok (.iinc 4 1, 3) := by decide +kernel
theorem d_X2_reasonOfDay_79 : decode mX2_reasonOfDay.2.1 79 = .ok (.goto (-52), 3) := by decide +kernel
theorem d_X2_reasonOfDay_82 : decode mX2_reasonOfDay.2.1 82 = .ok (.aload_n 0, 1) := by decide +kernel
theorem d_X2_reasonOfDay_83 : decode mX2_reasonOfDay.2.1 83 = .ok (.getfield 9, 3) := by decide +kernel
theorem d_X2_reasonOfDay_86 : decode mX2_reasonOfDay.2.1 86 = .ok (.iload_n 1, 1) := by decide +kernel
theorem d_X2_reasonOfDay_87 : decode mX2_reasonOfDay.2.1 87 = .ok (.invokevirtual 69, 3) := by decide +kernel
theorem d_X2_reasonOfDay_90 : decode mX2_reasonOfDay.2.1 90 = .ok (.istore 4, 2) := by decide +kernel
theorem d_X2_reasonOfDay_92 : decode mX2_reasonOfDay.2.1 92 = .ok (.aload_n 0, 1) := by decide +kernel
theorem d_X2_reasonOfDay_93 : decode mX2_reasonOfDay.2.1 93 = .ok (.getfield 9, 3) := by decide +kernel
theorem d_X2_reasonOfDay_96 : decode mX2_reasonOfDay.2.1 96 = .ok (.iload_n 2, 1) := by decide +kernel
theorem d_X2_reasonOfDay_97 : decode mX2_reasonOfDay.2.1 97 = .ok (.invokevirtual 73, 3) := by decide +kernel
theorem d_X2_reasonOfDay_100 : decode mX2_reasonOfDay.2.1 100 = .ok (.ifCond .eq 28, 3) := by decide +kernel
theorem d_X2_reasonOfDay_103 : decode mX2_reasonOfDay.2.1 103 = .ok (.aload_n 0, 1) := by decide +kernel
theorem d_X2_reasonOfDay_104 : decode mX2_reasonOfDay.2.1 104 = .ok (.getfield 9, 3) := by decide +kernel
theorem d_X2_reasonOfDay_107 : decode mX2_reasonOfDay.2.1 107 = .ok (.iload_n 1, 1) := by decide +kernel
theorem d_X2_reasonOfDay_108 : decode mX2_reasonOfDay.2.1 108 = .ok (.iload_n 3, 1) := by decide +kernel
theorem d_X2_reasonOfDay_109 : decode mX2_reasonOfDay.2.1 109 = .ok (.bipush 7, 2) := by decide +kernel
theorem d_X2_reasonOfDay_111 : decode mX2_reasonOfDay.2.1 111 = .ok (.idiv, 1) := by decide +kernel
theorem d_X2_reasonOfDay_112 : decode mX2_reasonOfDay.2.1 112 = .ok (.invokevirtual 77, 3) := by decide +kernel
theorem d_X2_reasonOfDay_115 : decode mX2_reasonOfDay.2.1 115 = .ok (.iload 4, 2) := by decide +kernel
theorem d_X2_reasonOfDay_117 : decode mX2_reasonOfDay.2.1 117 = .ok (.if_icmp .lt 11, 3) := by decide +kernel
theorem d_X2_reasonOfDay_120 : decode mX2_reasonOfDay.2.1 120 = .ok (.aload_n 0, 1) := by decide +kernel
theorem d_X2_reasonOfDay_121 : decode mX2_reasonOfDay.2.1 121 = .ok (.iconst 3, 1) := by decide +kernel
theorem d_X2_reasonOfDay_122 : decode mX2_reasonOfDay.2.1 122 = .ok (.iload 4, 2) := by decide +kernel
theorem d_X2_reasonOfDay_124 : decode mX2_reasonOfDay.2.1 124 = .ok (.invokevirtual 48, 3) := by decide +kernel
theorem d_X2_reasonOfDay_127 : decode mX2_reasonOfDay.2.1 127 = .ok (.ireturn, 1) := by decide +kernel
theorem d_X2_reasonOfDay_128 : decode mX2_reasonOfDay.2.1 128 = .ok (.iconst 0, 1) := by decide +kernel
theorem d_X2_reasonOfDay_129 : decode mX2_reasonOfDay.2.1 129 = .ok (.ireturn, 1) := by decide +kernel
def T_X2_reasonOfDay_128 (Q : Int32 → Mem → Prop) (M : Mem) : Prop := Q 0 M
set_option maxRecDepth 100000 in
set_option maxHeartbeats 4000000 in
theorem B_X2_reasonOfDay_128 {g : GG} (Q : Int32 → Mem → Prop) (M : Mem) (h : T_X2_reasonOfDay_128 Q  M) : WP g 11 mX2_reasonOfDay 128 [none, none, none, none, none] [] M 0 (oI Q noX) := by
  unfold T_X2_reasonOfDay_128 at h
  refine R_iconst (pc := 128) (v := 0) d_X2_reasonOfDay_128 (by decide) ?_
  exact R_retv (pc := 129) d_X2_reasonOfDay_129 h
def T_X2_reasonOfDay_27 (Q : Int32 → Mem → Prop) : Nat → Nat → Int32 → Int32 → Int32 → Int32 → Mem → Prop
  | 0, _, _, _, _, _, _ => False
  | n + 1, v0, v1, v2, v3, v4, M => (kd v0 = 2) ∧ (kd (rf v0 0) = 3) ∧ (kd (rf (rf v0 0) 6) = 4) ∧ if (M.1 (rf (rf v0 0) 6) 2) ≤ v4 then (T_X3_quotaOf (fun y5 M4 => T_X3_isForQuota (fun y7 M6 => if y7 = 0 then (T_X2_reasonOfDay_128 Q M6) else (T_X3_countedVisits (fun y9 M8 => if y9 < y5 then (T_X2_reasonOfDay_128 Q M8) else (T_X2_refuse (fun y11 M10 => Q y11 M10)  v0 3 y5 M8))  (rf v0 0) v1 (v3 / 7) M6))  (rf v0 0) v2 M4)  (rf v0 0) v1 M) else ((kd (rf (rf (rf v0 0) 6) 0) = 10 ∨ kd (rf (rf (rf v0 0) 6) 0) = 11) ∧ (vp_in v4 (ln (rf (rf (rf v0 0) 6) 0))) ∧ T_X3_isBroken (fun y15 M14 => if y15 = 0 then (∀ x16 : Int32, x16 = v4 + 1 → (T_X2_reasonOfDay_27 Q n) v0 v1 v2 v3 x16 M14) else (T_X2_refuse (fun y18 M17 => Q y18 M17)  v0 2 v4 M14))  (rf v0 0) (rf (rf (rf (rf v0 0) 6) 0) (Int32.toNatClampNeg v4)) v1 v2 v3 M)
set_option maxRecDepth 100000 in
set_option maxHeartbeats 4000000 in
theorem B_X2_reasonOfDay_27 {g : GG} (Q : Int32 → Mem → Prop) : ∀ (n : Nat) (v0 : Nat) (v1 : Int32) (v2 : Int32) (v3 : Int32) (v4 : Int32) (M : Mem), T_X2_reasonOfDay_27 Q n v0 v1 v2 v3 v4 M → WP g 11 mX2_reasonOfDay 27 [some (.ref (g.1 + v0)), some (.int v1), some (.int v2), some (.int v3), some (.int v4)] [] M 0 (oI Q noX) := by
  intro n
  induction n with
  | zero => intro v0 v1 v2 v3 v4 M h; exact h.elim
  | succ n hκ27 =>
    intro v0 v1 v2 v3 v4 M h
    unfold T_X2_reasonOfDay_27 at h
    refine R_iload (pc := 27) d_X2_reasonOfDay_27 rfl ?_
    refine R_aload_n (pc := 29) d_X2_reasonOfDay_29 rfl rfl ?_
    obtain ⟨k1, h⟩ := h
    refine R_getR (pc := 30) fld_RX2_9 rfl rfl k1 d_X2_reasonOfDay_30 ?_
    obtain ⟨k2, h⟩ := h
    refine R_getR (pc := 33) fld_RX2_52 rfl rfl k2 d_X2_reasonOfDay_33 ?_
    obtain ⟨k3, h⟩ := h
    refine R_getI (pc := 36) fld_RX2_56 rfl rfl k3 d_X2_reasonOfDay_36 ?_
    refine R_icmp_ge (pc := 39) (tgt := 82) d_X2_reasonOfDay_39 (by decide) (fun c => ?_) (fun c => ?_)
    · rw [if_pos c] at h
      refine R_aload_n (pc := 82) d_X2_reasonOfDay_82 rfl rfl ?_
      refine R_getR (pc := 83) fld_RX2_9 rfl rfl k1 d_X2_reasonOfDay_83 ?_
      refine R_iload_n (pc := 86) d_X2_reasonOfDay_86 rfl rfl ?_
      refine R_callV (pc := 87) (As := [.int v1]) (rest := []) (c_X3_quotaOf (g := g) (rf v0 0) v1 M _ h) rfl rfl cal_RX2_69 ins_X3_quotaOf sel_X3_quotaOf (cls_at k2 clsOK3) (by decide) (by decide) rfl rfl (Nat.le_of_ble_eq_true rfl) d_X2_reasonOfDay_87 (k_I (fun y5 M4 h => ?_)) (fun _ _ h9 => False.elim h9)
      try dsimp only at h
      refine R_istore (pc := 90) (L' := [some (.ref (g.1 + v0)), some (.int v1), some (.int v2), some (.int v3), some (.int y5)]) d_X2_reasonOfDay_90 (by decide) rfl ?_
      refine R_aload_n (pc := 92) d_X2_reasonOfDay_92 rfl rfl ?_
      refine R_getR (pc := 93) fld_RX2_9 rfl rfl k1 d_X2_reasonOfDay_93 ?_
      refine R_iload_n (pc := 96) d_X2_reasonOfDay_96 rfl rfl ?_
      refine R_callV (pc := 97) (As := [.int v2]) (rest := []) (c_X3_isForQuota (g := g) (rf v0 0) v2 M4 _ h) rfl rfl cal_RX2_73 ins_X3_isForQuota sel_X3_isForQuota (cls_at k2 clsOK3) (by decide) (by decide) rfl rfl (Nat.le_of_ble_eq_true rfl) d_X2_reasonOfDay_97 (k_Z (fun y7 M6 h => ?_)) (fun _ _ h9 => False.elim h9)
      try dsimp only at h
      refine R_if_eq (pc := 100) (tgt := 128) d_X2_reasonOfDay_100 (by decide) (fun c => ?_) (fun c => ?_)
      · rw [if_pos c] at h
        exact WP_sub (B_X2_reasonOfDay_128 Q M6 h) (by decide) (ls_n (ls_n (ls_n (ls_n (ls_n ls_0)))))
      · rw [if_neg c] at h
        refine R_aload_n (pc := 103) d_X2_reasonOfDay_103 rfl rfl ?_
        refine R_getR (pc := 104) fld_RX2_9 rfl rfl k1 d_X2_reasonOfDay_104 ?_
        refine R_iload_n (pc := 107) d_X2_reasonOfDay_107 rfl rfl ?_
        refine R_iload_n (pc := 108) d_X2_reasonOfDay_108 rfl rfl ?_
        refine R_bipush (pc := 109) (v := 7) d_X2_reasonOfDay_109 (by decide) ?_
        refine R_idiv (pc := 111) d_X2_reasonOfDay_111 (by decide) ?_
        refine R_callV (pc := 112) (As := [.int v1, .int (v3 / 7)]) (rest := []) (c_X3_countedVisits (g := g) (rf v0 0) v1 (v3 / 7) M6 _ h) rfl rfl cal_RX2_77 ins_X3_countedVisits sel_X3_countedVisits (cls_at k2 clsOK3) (by decide) (by decide) rfl rfl (Nat.le_of_ble_eq_true rfl) d_X2_reasonOfDay_112 (k_I (fun y9 M8 h => ?_)) (fun _ _ h9 => False.elim h9)
        try dsimp only at h
        refine R_iload (pc := 115) d_X2_reasonOfDay_115 rfl ?_
        refine R_icmp_lt (pc := 117) (tgt := 128) d_X2_reasonOfDay_117 (by decide) (fun c => ?_) (fun c => ?_)
        · rw [if_pos c] at h
          exact WP_sub (B_X2_reasonOfDay_128 Q M8 h) (by decide) (ls_n (ls_n (ls_n (ls_n (ls_n ls_0)))))
        · rw [if_neg c] at h
          refine R_aload_n (pc := 120) d_X2_reasonOfDay_120 rfl rfl ?_
          refine R_iconst (pc := 121) (v := 3) d_X2_reasonOfDay_121 (by decide) ?_
          refine R_iload (pc := 122) d_X2_reasonOfDay_122 rfl ?_
          refine R_callV (pc := 124) (As := [.int 3, .int y5]) (rest := []) (c_X2_refuse (g := g) v0 3 y5 M8 _ h) rfl rfl cal_RX2_48 ins_X2_refuse sel_X2_refuse (cls_at k1 clsOK2) (by decide) (by decide) rfl rfl (Nat.le_of_ble_eq_true rfl) d_X2_reasonOfDay_124 (k_I (fun y11 M10 h => ?_)) (fun _ _ h9 => False.elim h9)
          try dsimp only at h
          exact R_retv (pc := 127) d_X2_reasonOfDay_127 h
    · rw [if_neg c] at h
      refine R_aload_n (pc := 42) d_X2_reasonOfDay_42 rfl rfl ?_
      refine R_getR (pc := 43) fld_RX2_9 rfl rfl k1 d_X2_reasonOfDay_43 ?_
      refine R_aload_n (pc := 46) d_X2_reasonOfDay_46 rfl rfl ?_
      refine R_getR (pc := 47) fld_RX2_9 rfl rfl k1 d_X2_reasonOfDay_47 ?_
      refine R_getR (pc := 50) fld_RX2_52 rfl rfl k2 d_X2_reasonOfDay_50 ?_
      refine R_getR (pc := 53) fld_RX2_61 rfl rfl k3 d_X2_reasonOfDay_53 ?_
      refine R_iload (pc := 56) d_X2_reasonOfDay_56 rfl ?_
      obtain ⟨k12, h⟩ := h
      obtain ⟨k13, h⟩ := h
      refine R_aald (pc := 58) k12 k13 d_X2_reasonOfDay_58 ?_
      refine R_iload_n (pc := 59) d_X2_reasonOfDay_59 rfl rfl ?_
      refine R_iload_n (pc := 60) d_X2_reasonOfDay_60 rfl rfl ?_
      refine R_iload_n (pc := 61) d_X2_reasonOfDay_61 rfl rfl ?_
      refine R_callV (pc := 62) (As := [.ref (g.1 + (rf (rf (rf (rf v0 0) 6) 0) (Int32.toNatClampNeg v4))), .int v1, .int v2, .int v3]) (rest := []) (c_X3_isBroken (g := g) (rf v0 0) (rf (rf (rf (rf v0 0) 6) 0) (Int32.toNatClampNeg v4)) v1 v2 v3 M _ h) rfl rfl cal_RX2_65 ins_X3_isBroken sel_X3_isBroken (cls_at k2 clsOK3) (by decide) (by decide) rfl rfl (Nat.le_of_ble_eq_true rfl) d_X2_reasonOfDay_62 (k_Z (fun y15 M14 h => ?_)) (fun _ _ h9 => False.elim h9)
      try dsimp only at h
      refine R_if_eq (pc := 65) (tgt := 76) d_X2_reasonOfDay_65 (by decide) (fun c => ?_) (fun c => ?_)
      · rw [if_pos c] at h
        obtain ⟨x16, ex16⟩ : ∃ z : Int32, z = v4 + 1 := ⟨_, rfl⟩
        have h := h x16 ex16
        refine R_iinc (pc := 76) (v := x16) (L' := [some (.ref (g.1 + v0)), some (.int v1), some (.int v2), some (.int v3), some (.int x16)]) d_X2_reasonOfDay_76 rfl (by rw [ex16]; rfl) (by decide) rfl ?_
        refine R_goto (pc := 79) (tgt := 27) d_X2_reasonOfDay_79 (by decide) ?_
        exact WP_sub (hκ27 v0 v1 v2 v3 x16 M14 h) (by decide) (ls_s (ls_s (ls_s (ls_s (ls_s ls_0)))))
      · rw [if_neg c] at h
        refine R_aload_n (pc := 68) d_X2_reasonOfDay_68 rfl rfl ?_
        refine R_iconst (pc := 69) (v := 2) d_X2_reasonOfDay_69 (by decide) ?_
        refine R_iload (pc := 70) d_X2_reasonOfDay_70 rfl ?_
        refine R_callV (pc := 72) (As := [.int 2, .int v4]) (rest := []) (c_X2_refuse (g := g) v0 2 v4 M14 _ h) rfl rfl cal_RX2_48 ins_X2_refuse sel_X2_refuse (cls_at k1 clsOK2) (by decide) (by decide) rfl rfl (Nat.le_of_ble_eq_true rfl) d_X2_reasonOfDay_72 (k_I (fun y18 M17 h => ?_)) (fun _ _ h9 => False.elim h9)
        try dsimp only at h
        exact R_retv (pc := 75) d_X2_reasonOfDay_75 h
def T_X2_reasonOfDay (Q : Int32 → Mem → Prop) (v0 : Nat) (v1 : Int32) (v2 : Int32) (v3 : Int32) (M : Mem) : Prop := (kd v0 = 2) ∧ (kd (rf v0 0) = 3) ∧ if (M.1 (rf v0 0) 0) ≤ v3 then ((∃ N : Nat, T_X2_reasonOfDay_27 Q N v0 v1 v2 v3 0 M)) else (T_X2_refuse (fun y4 M3 => Q y4 M3)  v0 1 (M.1 (rf v0 0) 0) M)
set_option maxRecDepth 100000 in
set_option maxHeartbeats 4000000 in
theorem c_X2_reasonOfDay {g : GG} (v0 : Nat) (v1 : Int32) (v2 : Int32) (v3 : Int32) (M : Mem) (Q : Int32 → Mem → Prop) (h : T_X2_reasonOfDay Q v0 v1 v2 v3 M) : CT g 11 mX2_reasonOfDay [.ref (g.1 + v0), .int v1, .int v2, .int v3] M 0 (oI Q noX) := by
  refine CT_of (L := [some (.ref (g.1 + v0)), some (.int v1), some (.int v2), some (.int v3), none]) (by decide) rfl (Nat.le_of_ble_eq_true rfl) (ro_I rfl) rfl ?_
  unfold T_X2_reasonOfDay at h
  refine R_iload_n (pc := 0) d_X2_reasonOfDay_0 rfl rfl ?_
  refine R_aload_n (pc := 1) d_X2_reasonOfDay_1 rfl rfl ?_
  obtain ⟨k1, h⟩ := h
  refine R_getR (pc := 2) fld_RX2_9 rfl rfl k1 d_X2_reasonOfDay_2 ?_
  obtain ⟨k2, h⟩ := h
  refine R_getI (pc := 5) fld_RX2_43 rfl rfl k2 d_X2_reasonOfDay_5 ?_
  refine R_icmp_ge (pc := 8) (tgt := 24) d_X2_reasonOfDay_8 (by decide) (fun c => ?_) (fun c => ?_)
  · rw [if_pos c] at h
    refine R_iconst (pc := 24) (v := 0) d_X2_reasonOfDay_24 (by decide) ?_
    refine R_istore (pc := 25) (L' := [some (.ref (g.1 + v0)), some (.int v1), some (.int v2), some (.int v3), some (.int 0)]) d_X2_reasonOfDay_25 (by decide) rfl ?_
    obtain ⟨N, h⟩ := h
    exact WP_sub (B_X2_reasonOfDay_27 Q N v0 v1 v2 v3 0 M h) (by decide) (ls_s (ls_s (ls_s (ls_s (ls_s ls_0)))))
  · rw [if_neg c] at h
    refine R_aload_n (pc := 11) d_X2_reasonOfDay_11 rfl rfl ?_
    refine R_iconst (pc := 12) (v := 1) d_X2_reasonOfDay_12 (by decide) ?_
    refine R_aload_n (pc := 13) d_X2_reasonOfDay_13 rfl rfl ?_
    refine R_getR (pc := 14) fld_RX2_9 rfl rfl k1 d_X2_reasonOfDay_14 ?_
    refine R_getI (pc := 17) fld_RX2_43 rfl rfl k2 d_X2_reasonOfDay_17 ?_
    refine R_callV (pc := 20) (As := [.int 1, .int (M.1 (rf v0 0) 0)]) (rest := []) (c_X2_refuse (g := g) v0 1 (M.1 (rf v0 0) 0) M _ h) rfl rfl cal_RX2_48 ins_X2_refuse sel_X2_refuse (cls_at k1 clsOK2) (by decide) (by decide) rfl rfl (Nat.le_of_ble_eq_true rfl) d_X2_reasonOfDay_20 (k_I (fun y4 M3 h => ?_)) (fun _ _ h9 => False.elim h9)
    try dsimp only at h
    exact R_retv (pc := 23) d_X2_reasonOfDay_23 h
/-! J7_fill_53178 -/
theorem d_J7_fill_53178_0 : decode mJ7_fill_53178.2.1 0 = .ok (.iconst 0, 1) := by decide +kernel
theorem d_J7_fill_53178_1 : decode mJ7_fill_53178.2.1 1 = .ok (.istore_n 2, 1) := by decide +kernel
theorem d_J7_fill_53178_2 : decode mJ7_fill_53178.2.1 2 = .ok (.aload_n 0, 1) := by decide +kernel
theorem d_J7_fill_53178_3 : decode mJ7_fill_53178.2.1 3 = .ok (.arraylength, 1) := by decide +kernel
theorem d_J7_fill_53178_4 : decode mJ7_fill_53178.2.1 4 = .ok (.istore_n 3, 1) := by decide +kernel
theorem d_J7_fill_53178_5 : decode mJ7_fill_53178.2.1 5 = .ok (.iload_n 2, 1) := by decide +kernel
theorem d_J7_fill_53178_6 : decode mJ7_fill_53178.2.1 6 = .ok (.iload_n 3, 1) := by decide +kernel
theorem d_J7_fill_53178_7 : decode mJ7_fill_53178.2.1 7 = .ok (.if_icmp .ge 13, 3) := by decide +kernel
theorem d_J7_fill_53178_10 : decode mJ7_fill_53178.2.1 10 = .ok (.aload_n 0, 1) := by decide +kernel
theorem d_J7_fill_53178_11 : decode mJ7_fill_53178.2.1 11 = .ok (.iload_n 2, 1) := by decide +kernel
theorem d_J7_fill_53178_12 : decode mJ7_fill_53178.2.1 12 = .ok (.iload_n 1, 1) := by decide +kernel
theorem d_J7_fill_53178_13 : decode mJ7_fill_53178.2.1 13 = .ok (.iastore, 1) := by decide +kernel
theorem d_J7_fill_53178_14 : decode mJ7_fill_53178.2.1 14 = .ok (.iinc 2 1, 3) := by decide +kernel
theorem d_J7_fill_53178_17 : decode mJ7_fill_53178.2.1 17 = .ok (.goto (-12), 3) := by decide +kernel
theorem d_J7_fill_53178_20 : decode mJ7_fill_53178.2.1 20 = .ok (.return_, 1) := by decide +kernel
def T_J7_fill_53178_5 (Q : Mem → Prop) : Nat → Nat → Int32 → Int32 → Int32 → Mem → Prop
  | 0, _, _, _, _, _ => False
  | n + 1, v0, v1, v2, v3, M => if v3 ≤ v2 then (Q M) else ((kd v0 = 9) ∧ (vp_in v2 (ln v0)) ∧ ∀ M3 : Mem, M3 = mset M v0 (Int32.toNatClampNeg v2) v1 → ∀ x4 : Int32, x4 = v2 + 1 → (T_J7_fill_53178_5 Q n) v0 v1 x4 v3 M3)
set_option maxRecDepth 100000 in
set_option maxHeartbeats 4000000 in
theorem B_J7_fill_53178_5 {g : GG} (Q : Mem → Prop) : ∀ (n : Nat) (v0 : Nat) (v1 : Int32) (v2 : Int32) (v3 : Int32) (M : Mem), T_J7_fill_53178_5 Q n v0 v1 v2 v3 M → WP g 9 mJ7_fill_53178 5 [some (.ref (g.1 + v0)), some (.int v1), some (.int v2), some (.int v3)] [] M 0 (oV Q noX) := by
  intro n
  induction n with
  | zero => intro v0 v1 v2 v3 M h; exact h.elim
  | succ n hκ5 =>
    intro v0 v1 v2 v3 M h
    unfold T_J7_fill_53178_5 at h
    refine R_iload_n (pc := 5) d_J7_fill_53178_5 rfl rfl ?_
    refine R_iload_n (pc := 6) d_J7_fill_53178_6 rfl rfl ?_
    refine R_icmp_ge (pc := 7) (tgt := 20) d_J7_fill_53178_7 (by decide) (fun c => ?_) (fun c => ?_)
    · rw [if_pos c] at h
      exact R_ret (pc := 20) d_J7_fill_53178_20 h
    · rw [if_neg c] at h
      refine R_aload_n (pc := 10) d_J7_fill_53178_10 rfl rfl ?_
      refine R_iload_n (pc := 11) d_J7_fill_53178_11 rfl rfl ?_
      refine R_iload_n (pc := 12) d_J7_fill_53178_12 rfl rfl ?_
      obtain ⟨k1, h⟩ := h
      obtain ⟨k2, h⟩ := h
      refine R_iast (pc := 13) k1 k2 d_J7_fill_53178_13 (N_M (fun M3 eM3 => ?_))
      have h := h M3 eM3
      obtain ⟨x4, ex4⟩ : ∃ z : Int32, z = v2 + 1 := ⟨_, rfl⟩
      have h := h x4 ex4
      refine R_iinc (pc := 14) (v := x4) (L' := [some (.ref (g.1 + v0)), some (.int v1), some (.int x4), some (.int v3)]) d_J7_fill_53178_14 rfl (by rw [ex4]; rfl) (by decide) rfl ?_
      refine R_goto (pc := 17) (tgt := 5) d_J7_fill_53178_17 (by decide) ?_
      exact WP_sub (hκ5 v0 v1 x4 v3 M3 h) (by decide) (ls_s (ls_s (ls_s (ls_s ls_0))))
def T_J7_fill_53178 (Q : Mem → Prop) (v0 : Nat) (v1 : Int32) (M : Mem) : Prop := (8 ≤ kd v0) ∧ (kd v0 < 14) ∧ ∀ x3 : Int32, x3 = Int32.ofNat (ln v0) → (∃ N : Nat, T_J7_fill_53178_5 Q N v0 v1 0 x3 M)
set_option maxRecDepth 100000 in
set_option maxHeartbeats 4000000 in
theorem c_J7_fill_53178 {g : GG} (v0 : Nat) (v1 : Int32) (M : Mem) (Q : Mem → Prop) (h : T_J7_fill_53178 Q v0 v1 M) : CT g 9 mJ7_fill_53178 [.ref (g.1 + v0), .int v1] M 0 (oV Q noX) := by
  refine CT_of (L := [some (.ref (g.1 + v0)), some (.int v1), none, none]) (by decide) rfl (Nat.le_of_ble_eq_true rfl) (ro_V rfl) rfl ?_
  unfold T_J7_fill_53178 at h
  refine R_iconst (pc := 0) (v := 0) d_J7_fill_53178_0 (by decide) ?_
  refine R_istore_n (pc := 1) (L' := [some (.ref (g.1 + v0)), some (.int v1), some (.int 0), none]) d_J7_fill_53178_1 rfl (by decide) rfl ?_
  refine R_aload_n (pc := 2) d_J7_fill_53178_2 rfl rfl ?_
  obtain ⟨k1, h⟩ := h
  obtain ⟨k2, h⟩ := h
  refine R_alen (pc := 3) k1 k2 d_J7_fill_53178_3 ?_
  refine N_i (fun x3 ex3 => ?_)
  have h := h x3 ex3
  refine R_istore_n (pc := 4) (L' := [some (.ref (g.1 + v0)), some (.int v1), some (.int 0), some (.int x3)]) d_J7_fill_53178_4 rfl (by decide) rfl ?_
  obtain ⟨N, h⟩ := h
  exact WP_sub (B_J7_fill_53178_5 Q N v0 v1 0 x3 M h) (by decide) (ls_s (ls_s (ls_s (ls_s ls_0))))
/-! J6_bitCount_0f7a4 -/
theorem d_J6_bitCount_0f7a4_0 : decode mJ6_bitCount_0f7a4.2.1 0 = .ok (.iload_n 0, 1) := by decide +kernel
theorem d_J6_bitCount_0f7a4_1 : decode mJ6_bitCount_0f7a4.2.1 1 = .ok (.iload_n 0, 1) := by decide +kernel
theorem d_J6_bitCount_0f7a4_2 : decode mJ6_bitCount_0f7a4.2.1 2 = .ok (.iconst 1, 1) := by decide +kernel
theorem d_J6_bitCount_0f7a4_3 : decode mJ6_bitCount_0f7a4.2.1 3 = .ok (.iushr, 1) := by decide +kernel
theorem d_J6_bitCount_0f7a4_4 : decode mJ6_bitCount_0f7a4.2.1 4 = .ok (.ldc_w 265, 3) := by decide +kernel
theorem d_J6_bitCount_0f7a4_7 : decode mJ6_bitCount_0f7a4.2.1 7 = .ok (.iand, 1) := by decide +kernel
theorem d_J6_bitCount_0f7a4_8 : decode mJ6_bitCount_0f7a4.2.1 8 = .ok (.isub, 1) := by decide +kernel
theorem d_J6_bitCount_0f7a4_9 : decode mJ6_bitCount_0f7a4.2.1 9 = .ok (.istore_n 0, 1) := by decide +kernel
theorem d_J6_bitCount_0f7a4_10 : decode mJ6_bitCount_0f7a4.2.1 10 = .ok (.iload_n 0, 1) := by decide +kernel
theorem d_J6_bitCount_0f7a4_11 : decode mJ6_bitCount_0f7a4.2.1 11 = .ok (.ldc_w 266, 3) := by decide +kernel
theorem d_J6_bitCount_0f7a4_14 : decode mJ6_bitCount_0f7a4.2.1 14 = .ok (.iand, 1) := by decide +kernel
theorem d_J6_bitCount_0f7a4_15 : decode mJ6_bitCount_0f7a4.2.1 15 = .ok (.iload_n 0, 1) := by decide +kernel
theorem d_J6_bitCount_0f7a4_16 : decode mJ6_bitCount_0f7a4.2.1 16 = .ok (.iconst 2, 1) := by decide +kernel
theorem d_J6_bitCount_0f7a4_17 : decode mJ6_bitCount_0f7a4.2.1 17 = .ok (.iushr, 1) := by decide +kernel
theorem d_J6_bitCount_0f7a4_18 : decode mJ6_bitCount_0f7a4.2.1 18 = .ok (.ldc_w 266, 3) := by decide +kernel
theorem d_J6_bitCount_0f7a4_21 : decode mJ6_bitCount_0f7a4.2.1 21 = .ok (.iand, 1) := by decide +kernel
theorem d_J6_bitCount_0f7a4_22 : decode mJ6_bitCount_0f7a4.2.1 22 = .ok (.iadd, 1) := by decide +kernel
theorem d_J6_bitCount_0f7a4_23 : decode mJ6_bitCount_0f7a4.2.1 23 = .ok (.istore_n 0, 1) := by decide +kernel
theorem d_J6_bitCount_0f7a4_24 : decode mJ6_bitCount_0f7a4.2.1 24 = .ok (.iload_n 0, 1) := by decide +kernel
theorem d_J6_bitCount_0f7a4_25 : decode mJ6_bitCount_0f7a4.2.1 25 = .ok (.iload_n 0, 1) := by decide +kernel
theorem d_J6_bitCount_0f7a4_26 : decode mJ6_bitCount_0f7a4.2.1 26 = .ok (.iconst 4, 1) := by decide +kernel
theorem d_J6_bitCount_0f7a4_27 : decode mJ6_bitCount_0f7a4.2.1 27 = .ok (.iushr, 1) := by decide +kernel
theorem d_J6_bitCount_0f7a4_28 : decode mJ6_bitCount_0f7a4.2.1 28 = .ok (.iadd, 1) := by decide +kernel
theorem d_J6_bitCount_0f7a4_29 : decode mJ6_bitCount_0f7a4.2.1 29 = .ok (.ldc_w 267, 3) := by decide +kernel
theorem d_J6_bitCount_0f7a4_32 : decode mJ6_bitCount_0f7a4.2.1 32 = .ok (.iand, 1) := by decide +kernel
theorem d_J6_bitCount_0f7a4_33 : decode mJ6_bitCount_0f7a4.2.1 33 = .ok (.istore_n 0, 1) := by decide +kernel
theorem d_J6_bitCount_0f7a4_34 : decode mJ6_bitCount_0f7a4.2.1 34 = .ok (.iload_n 0, 1) := by decide +kernel
theorem d_J6_bitCount_0f7a4_35 : decode mJ6_bitCount_0f7a4.2.1 35 = .ok (.iload_n 0, 1) := by decide +kernel
theorem d_J6_bitCount_0f7a4_36 : decode mJ6_bitCount_0f7a4.2.1 36 = .ok (.bipush 8, 2) := by decide +kernel
theorem d_J6_bitCount_0f7a4_38 : decode mJ6_bitCount_0f7a4.2.1 38 = .ok (.iushr, 1) := by decide +kernel
theorem d_J6_bitCount_0f7a4_39 : decode mJ6_bitCount_0f7a4.2.1 39 = .ok (.iadd, 1) := by decide +kernel
theorem d_J6_bitCount_0f7a4_40 : decode mJ6_bitCount_0f7a4.2.1 40 = .ok (.istore_n 0, 1) := by decide +kernel
theorem d_J6_bitCount_0f7a4_41 : decode mJ6_bitCount_0f7a4.2.1 41 = .ok (.iload_n 0, 1) := by decide +kernel
theorem d_J6_bitCount_0f7a4_42 : decode mJ6_bitCount_0f7a4.2.1 42 = .ok (.iload_n 0, 1) := by decide +kernel
theorem d_J6_bitCount_0f7a4_43 : decode mJ6_bitCount_0f7a4.2.1 43 = .ok (.bipush 16, 2) := by decide +kernel
theorem d_J6_bitCount_0f7a4_45 : decode mJ6_bitCount_0f7a4.2.1 45 = .ok (.iushr, 1) := by decide +kernel
theorem d_J6_bitCount_0f7a4_46 : decode mJ6_bitCount_0f7a4.2.1 46 = .ok (.iadd, 1) := by decide +kernel
theorem d_J6_bitCount_0f7a4_47 : decode mJ6_bitCount_0f7a4.2.1 47 = .ok (.istore_n 0, 1) := by decide +kernel
theorem d_J6_bitCount_0f7a4_48 : decode mJ6_bitCount_0f7a4.2.1 48 = .ok (.iload_n 0, 1) := by decide +kernel
theorem d_J6_bitCount_0f7a4_49 : decode mJ6_bitCount_0f7a4.2.1 49 = .ok (.bipush 63, 2) := by decide +kernel
theorem d_J6_bitCount_0f7a4_51 : decode mJ6_bitCount_0f7a4.2.1 51 = .ok (.iand, 1) := by decide +kernel
theorem d_J6_bitCount_0f7a4_52 : decode mJ6_bitCount_0f7a4.2.1 52 = .ok (.ireturn, 1) := by decide +kernel
def T_J6_bitCount_0f7a4 (Q : Int32 → Mem → Prop) (v0 : Int32) (M : Mem) : Prop := ∀ x1 : Int32, x1 = v0 - (((Int32.toUInt32 v0 >>> (Int32.toUInt32 1 &&& Int32.toUInt32 31)).toInt32) &&& 1431655765) → ∀ x2 : Int32, x2 = (x1 &&& 858993459) + (((Int32.toUInt32 x1 >>> (Int32.toUInt32 2 &&& Int32.toUInt32 31)).toInt32) &&& 858993459) → ∀ x3 : Int32, x3 = (x2 + ((Int32.toUInt32 x2 >>> (Int32.toUInt32 4 &&& Int32.toUInt32 31)).toInt32)) &&& 252645135 → ∀ x4 : Int32, x4 = x3 + ((Int32.toUInt32 x3 >>> (Int32.toUInt32 8 &&& Int32.toUInt32 31)).toInt32) → ∀ x5 : Int32, x5 = x4 + ((Int32.toUInt32 x4 >>> (Int32.toUInt32 16 &&& Int32.toUInt32 31)).toInt32) → Q (x5 &&& 63) M
set_option maxRecDepth 100000 in
set_option maxHeartbeats 4000000 in
theorem c_J6_bitCount_0f7a4 {g : GG} (v0 : Int32) (M : Mem) (Q : Int32 → Mem → Prop) (h : T_J6_bitCount_0f7a4 Q v0 M) : CT g 9 mJ6_bitCount_0f7a4 [.int v0] M 0 (oI Q noX) := by
  refine CT_of (L := [some (.int v0)]) (by decide) rfl (Nat.le_of_ble_eq_true rfl) (ro_I rfl) rfl ?_
  unfold T_J6_bitCount_0f7a4 at h
  refine R_iload_n (pc := 0) d_J6_bitCount_0f7a4_0 rfl rfl ?_
  refine R_iload_n (pc := 1) d_J6_bitCount_0f7a4_1 rfl rfl ?_
  refine R_iconst (pc := 2) (v := 1) d_J6_bitCount_0f7a4_2 (by decide) ?_
  refine R_iushr (pc := 3) d_J6_bitCount_0f7a4_3 ?_
  refine R_ldcw (pc := 4) rfl cst_java_lang_Integer_265 d_J6_bitCount_0f7a4_4 ?_
  refine R_iand (pc := 7) d_J6_bitCount_0f7a4_7 ?_
  refine R_isub (pc := 8) d_J6_bitCount_0f7a4_8 ?_
  refine N_i (fun x1 ex1 => ?_)
  have h := h x1 ex1
  refine R_istore_n (pc := 9) (L' := [some (.int x1)]) d_J6_bitCount_0f7a4_9 rfl (by decide) rfl ?_
  refine R_iload_n (pc := 10) d_J6_bitCount_0f7a4_10 rfl rfl ?_
  refine R_ldcw (pc := 11) rfl cst_java_lang_Integer_266 d_J6_bitCount_0f7a4_11 ?_
  refine R_iand (pc := 14) d_J6_bitCount_0f7a4_14 ?_
  refine R_iload_n (pc := 15) d_J6_bitCount_0f7a4_15 rfl rfl ?_
  refine R_iconst (pc := 16) (v := 2) d_J6_bitCount_0f7a4_16 (by decide) ?_
  refine R_iushr (pc := 17) d_J6_bitCount_0f7a4_17 ?_
  refine R_ldcw (pc := 18) rfl cst_java_lang_Integer_266 d_J6_bitCount_0f7a4_18 ?_
  refine R_iand (pc := 21) d_J6_bitCount_0f7a4_21 ?_
  refine R_iadd (pc := 22) d_J6_bitCount_0f7a4_22 ?_
  refine N_i (fun x2 ex2 => ?_)
  have h := h x2 ex2
  refine R_istore_n (pc := 23) (L' := [some (.int x2)]) d_J6_bitCount_0f7a4_23 rfl (by decide) rfl ?_
  refine R_iload_n (pc := 24) d_J6_bitCount_0f7a4_24 rfl rfl ?_
  refine R_iload_n (pc := 25) d_J6_bitCount_0f7a4_25 rfl rfl ?_
  refine R_iconst (pc := 26) (v := 4) d_J6_bitCount_0f7a4_26 (by decide) ?_
  refine R_iushr (pc := 27) d_J6_bitCount_0f7a4_27 ?_
  refine R_iadd (pc := 28) d_J6_bitCount_0f7a4_28 ?_
  refine R_ldcw (pc := 29) rfl cst_java_lang_Integer_267 d_J6_bitCount_0f7a4_29 ?_
  refine R_iand (pc := 32) d_J6_bitCount_0f7a4_32 ?_
  refine N_i (fun x3 ex3 => ?_)
  have h := h x3 ex3
  refine R_istore_n (pc := 33) (L' := [some (.int x3)]) d_J6_bitCount_0f7a4_33 rfl (by decide) rfl ?_
  refine R_iload_n (pc := 34) d_J6_bitCount_0f7a4_34 rfl rfl ?_
  refine R_iload_n (pc := 35) d_J6_bitCount_0f7a4_35 rfl rfl ?_
  refine R_bipush (pc := 36) (v := 8) d_J6_bitCount_0f7a4_36 (by decide) ?_
  refine R_iushr (pc := 38) d_J6_bitCount_0f7a4_38 ?_
  refine R_iadd (pc := 39) d_J6_bitCount_0f7a4_39 ?_
  refine N_i (fun x4 ex4 => ?_)
  have h := h x4 ex4
  refine R_istore_n (pc := 40) (L' := [some (.int x4)]) d_J6_bitCount_0f7a4_40 rfl (by decide) rfl ?_
  refine R_iload_n (pc := 41) d_J6_bitCount_0f7a4_41 rfl rfl ?_
  refine R_iload_n (pc := 42) d_J6_bitCount_0f7a4_42 rfl rfl ?_
  refine R_bipush (pc := 43) (v := 16) d_J6_bitCount_0f7a4_43 (by decide) ?_
  refine R_iushr (pc := 45) d_J6_bitCount_0f7a4_45 ?_
  refine R_iadd (pc := 46) d_J6_bitCount_0f7a4_46 ?_
  refine N_i (fun x5 ex5 => ?_)
  have h := h x5 ex5
  refine R_istore_n (pc := 47) (L' := [some (.int x5)]) d_J6_bitCount_0f7a4_47 rfl (by decide) rfl ?_
  refine R_iload_n (pc := 48) d_J6_bitCount_0f7a4_48 rfl rfl ?_
  refine R_bipush (pc := 49) (v := 63) d_J6_bitCount_0f7a4_49 (by decide) ?_
  refine R_iand (pc := 51) d_J6_bitCount_0f7a4_51 ?_
  exact R_retv (pc := 52) d_J6_bitCount_0f7a4_52 h
/-! X3_searchesOf -/
theorem d_X3_searchesOf_0 : decode mX3_searchesOf.2.1 0 = .ok (.aload_n 0, 1) := by decide +kernel
theorem d_X3_searchesOf_1 : decode mX3_searchesOf.2.1 1 = .ok (.getfield 34, 3) := by decide +kernel
theorem d_X3_searchesOf_4 : decode mX3_searchesOf.2.1 4 = .ok (.getfield 77, 3) := by decide +kernel
theorem d_X3_searchesOf_7 : decode mX3_searchesOf.2.1 7 = .ok (.iload_n 1, 1) := by decide +kernel
theorem d_X3_searchesOf_8 : decode mX3_searchesOf.2.1 8 = .ok (.aaload, 1) := by decide +kernel
theorem d_X3_searchesOf_9 : decode mX3_searchesOf.2.1 9 = .ok (.astore_n 2, 1) := by decide +kernel
theorem d_X3_searchesOf_10 : decode mX3_searchesOf.2.1 10 = .ok (.aload_n 2, 1) := by decide +kernel
theorem d_X3_searchesOf_11 : decode mX3_searchesOf.2.1 11 = .ok (.iconst 5, 1) := by decide +kernel
theorem d_X3_searchesOf_12 : decode mX3_searchesOf.2.1 12 = .ok (.iaload, 1) := by decide +kernel
theorem d_X3_searchesOf_13 : decode mX3_searchesOf.2.1 13 = .ok (.iconst 2, 1) := by decide +kernel
theorem d_X3_searchesOf_14 : decode mX3_searchesOf.2.1 14 = .ok (.if_icmp .eq 23, 3) := by decide +kernel
theorem d_X3_searchesOf_17 : decode mX3_searchesOf.2.1 17 = .ok (.aload_n 0, 1) := by decide +kernel
theorem d_X3_searchesOf_18 : decode mX3_searchesOf.2.1 18 = .ok (.getfield 31, 3) := by decide +kernel
theorem d_X3_searchesOf_21 : decode mX3_searchesOf.2.1 21 = .ok (.getfield 77, 3) := by decide +kernel
theorem d_X3_searchesOf_24 : decode mX3_searchesOf.2.1 24 = .ok (.aload_n 2, 1) := by decide +kernel
theorem d_X3_searchesOf_25 : decode mX3_searchesOf.2.1 25 = .ok (.iconst 4, 1) := by decide +kernel
theorem d_X3_searchesOf_26 : decode mX3_searchesOf.2.1 26 = .ok (.iaload, 1) := by decide +kernel
theorem d_X3_searchesOf_27 : decode mX3_searchesOf.2.1 27 = .ok (.aaload, 1) := by decide +kernel
theorem d_X3_searchesOf_28 : decode mX3_searchesOf.2.1 28 = .ok (.iconst 2, 1) := by decide +kernel
theorem d_X3_searchesOf_29 : decode mX3_searchesOf.2.1 29 = .ok (.iaload, 1) := by decide +kernel
theorem d_X3_searchesOf_30 : decode mX3_searchesOf.2.1 30 = .ok (.ifCond .ne 7, 3) := by decide +kernel
theorem d_X3_searchesOf_33 : decode mX3_searchesOf.2.1 33 = .ok (.iconst 1, 1) := by decide +kernel
theorem d_X3_searchesOf_34 : decode mX3_searchesOf.2.1 34 = .ok (.goto 4, 3) := by decide +kernel
theorem d_X3_searchesOf_37 : decode mX3_searchesOf.2.1 37 = .ok (.iconst 0, 1) := by decide +kernel
theorem d_X3_searchesOf_38 : decode mX3_searchesOf.2.1 38 = .ok (.istore_n 3, 1) := by decide +kernel
theorem d_X3_searchesOf_39 : decode mX3_searchesOf.2.1 39 = .ok (.iload_n 3, 1) := by decide +kernel
theorem d_X3_searchesOf_40 : decode mX3_searchesOf.2.1 40 = .ok (.ifCond .eq 12, 3) := by decide +kernel
theorem d_X3_searchesOf_43 : decode mX3_searchesOf.2.1 43 = .ok (.aload_n 2, 1) := by decide +kernel
theorem d_X3_searchesOf_44 : decode mX3_searchesOf.2.1 44 = .ok (.iconst 1, 1) := by decide +kernel
theorem d_X3_searchesOf_45 : decode mX3_searchesOf.2.1 45 = .ok (.iaload, 1) := by decide +kernel
theorem d_X3_searchesOf_46 : decode mX3_searchesOf.2.1 46 = .ok (.invokestatic 68, 3) := by decide +kernel
theorem d_X3_searchesOf_49 : decode mX3_searchesOf.2.1 49 = .ok (.goto 4, 3) := by decide +kernel
theorem d_X3_searchesOf_52 : decode mX3_searchesOf.2.1 52 = .ok (.iconst 0, 1) := by decide +kernel
theorem d_X3_searchesOf_53 : decode mX3_searchesOf.2.1 53 = .ok (.ireturn, 1) := by decide +kernel
def T_X3_searchesOf_53 (Q : Int32 → Mem → Prop) (s0 : Int32) (M : Mem) : Prop := Q s0 M
set_option maxRecDepth 100000 in
set_option maxHeartbeats 4000000 in
theorem B_X3_searchesOf_53 {g : GG} (Q : Int32 → Mem → Prop) (s0 : Int32) (M : Mem) (h : T_X3_searchesOf_53 Q s0 M) : WP g 10 mX3_searchesOf 53 [none, none, none, none] [.int s0] M 0 (oI Q noX) := by
  unfold T_X3_searchesOf_53 at h
  exact R_retv (pc := 53) d_X3_searchesOf_53 h
def T_X3_searchesOf_38 (Q : Int32 → Mem → Prop) (v2 : Nat) (s0 : Int32) (M : Mem) : Prop := if s0 = 0 then (T_X3_searchesOf_53 Q 0 M) else ((kd v2 = 9) ∧ (vp_in 1 (ln v2)) ∧ T_J6_bitCount_0f7a4 (fun y4 M3 => T_X3_searchesOf_53 Q y4 M3)  (M.1 v2 (Int32.toNatClampNeg 1)) M)
set_option maxRecDepth 100000 in
set_option maxHeartbeats 4000000 in
theorem B_X3_searchesOf_38 {g : GG} (Q : Int32 → Mem → Prop) (v2 : Nat) (s0 : Int32) (M : Mem) (h : T_X3_searchesOf_38 Q v2 s0 M) : WP g 10 mX3_searchesOf 38 [none, none, some (.ref (g.1 + v2)), none] [.int s0] M 0 (oI Q noX) := by
  unfold T_X3_searchesOf_38 at h
  refine R_istore_n (pc := 38) (L' := [none, none, some (.ref (g.1 + v2)), some (.int s0)]) d_X3_searchesOf_38 rfl (by decide) rfl ?_
  refine R_iload_n (pc := 39) d_X3_searchesOf_39 rfl rfl ?_
  refine R_if_eq (pc := 40) (tgt := 52) d_X3_searchesOf_40 (by decide) (fun c => ?_) (fun c => ?_)
  · rw [if_pos c] at h
    refine R_iconst (pc := 52) (v := 0) d_X3_searchesOf_52 (by decide) ?_
    exact WP_sub (B_X3_searchesOf_53 Q 0 M h) (by decide) (ls_n (ls_n (ls_n (ls_n ls_0))))
  · rw [if_neg c] at h
    refine R_aload_n (pc := 43) d_X3_searchesOf_43 rfl rfl ?_
    refine R_iconst (pc := 44) (v := 1) d_X3_searchesOf_44 (by decide) ?_
    obtain ⟨k1, h⟩ := h
    obtain ⟨k2, h⟩ := h
    refine R_iald (pc := 45) k1 k2 d_X3_searchesOf_45 ?_
    refine R_callS (pc := 46) (As := [.int (M.1 v2 (Int32.toNatClampNeg 1))]) (rest := []) (c_J6_bitCount_0f7a4 (g := g) (M.1 v2 (Int32.toNatClampNeg 1)) M _ h) rfl rfl cal_RX3_68 sta_J6_bitCount_0f7a4 (by decide) (by decide) rfl rfl (Nat.le_of_ble_eq_true rfl) d_X3_searchesOf_46 (k_I (fun y4 M3 h => ?_)) (fun _ _ h9 => False.elim h9)
    try dsimp only at h
    refine R_goto (pc := 49) (tgt := 53) d_X3_searchesOf_49 (by decide) ?_
    exact WP_sub (B_X3_searchesOf_53 Q y4 M3 h) (by decide) (ls_n (ls_n (ls_n (ls_n ls_0))))
def T_X3_searchesOf_37 (Q : Int32 → Mem → Prop) (v2 : Nat) (M : Mem) : Prop := T_X3_searchesOf_38 Q v2 0 M
set_option maxRecDepth 100000 in
set_option maxHeartbeats 4000000 in
theorem B_X3_searchesOf_37 {g : GG} (Q : Int32 → Mem → Prop) (v2 : Nat) (M : Mem) (h : T_X3_searchesOf_37 Q v2 M) : WP g 10 mX3_searchesOf 37 [none, none, some (.ref (g.1 + v2)), none] [] M 0 (oI Q noX) := by
  unfold T_X3_searchesOf_37 at h
  refine R_iconst (pc := 37) (v := 0) d_X3_searchesOf_37 (by decide) ?_
  exact WP_sub (B_X3_searchesOf_38 Q v2 0 M h) (by decide) (ls_n (ls_n (ls_s (ls_n ls_0))))
def T_X3_searchesOf (Q : Int32 → Mem → Prop) (v0 : Nat) (v1 : Int32) (M : Mem) : Prop := (kd v0 = 3) ∧ (kd (rf v0 5) = 4) ∧ (kd (rf (rf v0 5) 0) = 10 ∨ kd (rf (rf v0 5) 0) = 11) ∧ (vp_in v1 (ln (rf (rf v0 5) 0))) ∧ ∀ r5 : Nat, r5 = rf (rf (rf v0 5) 0) (Int32.toNatClampNeg v1) → (kd r5 = 9) ∧ (vp_in 5 (ln r5)) ∧ if (M.1 r5 (Int32.toNatClampNeg 5)) = (2 : Int32) then (T_X3_searchesOf_37 Q r5 M) else ((kd (rf v0 4) = 4) ∧ (vp_in 4 (ln r5)) ∧ (kd (rf (rf v0 4) 0) = 10 ∨ kd (rf (rf v0 4) 0) = 11) ∧ (vp_in (M.1 r5 (Int32.toNatClampNeg 4)) (ln (rf (rf v0 4) 0))) ∧ (kd (rf (rf (rf v0 4) 0) (Int32.toNatClampNeg (M.1 r5 (Int32.toNatClampNeg 4)))) = 9) ∧ (vp_in 2 (ln (rf (rf (rf v0 4) 0) (Int32.toNatClampNeg (M.1 r5 (Int32.toNatClampNeg 4)))))) ∧ if (M.1 (rf (rf (rf v0 4) 0) (Int32.toNatClampNeg (M.1 r5 (Int32.toNatClampNeg 4)))) (Int32.toNatClampNeg 2)) = 0 then (T_X3_searchesOf_38 Q r5 1 M) else (T_X3_searchesOf_37 Q r5 M))
set_option maxRecDepth 100000 in
set_option maxHeartbeats 4000000 in
theorem c_X3_searchesOf {g : GG} (v0 : Nat) (v1 : Int32) (M : Mem) (Q : Int32 → Mem → Prop) (h : T_X3_searchesOf Q v0 v1 M) : CT g 10 mX3_searchesOf [.ref (g.1 + v0), .int v1] M 0 (oI Q noX) := by
  refine CT_of (L := [some (.ref (g.1 + v0)), some (.int v1), none, none]) (by decide) rfl (Nat.le_of_ble_eq_true rfl) (ro_I rfl) rfl ?_
  unfold T_X3_searchesOf at h
  refine R_aload_n (pc := 0) d_X3_searchesOf_0 rfl rfl ?_
  obtain ⟨k1, h⟩ := h
  refine R_getR (pc := 1) fld_RX3_34 rfl rfl k1 d_X3_searchesOf_1 ?_
  obtain ⟨k2, h⟩ := h
  refine R_getR (pc := 4) fld_RX3_77 rfl rfl k2 d_X3_searchesOf_4 ?_
  refine R_iload_n (pc := 7) d_X3_searchesOf_7 rfl rfl ?_
  obtain ⟨k3, h⟩ := h
  obtain ⟨k4, h⟩ := h
  refine R_aald (pc := 8) k3 k4 d_X3_searchesOf_8 ?_
  refine N_r (fun r5 er5 => ?_)
  have h := h r5 er5
  refine R_astore_n (pc := 9) (L' := [some (.ref (g.1 + v0)), some (.int v1), some (.ref (g.1 + r5)), none]) d_X3_searchesOf_9 rfl (by decide) rfl ?_
  refine R_aload_n (pc := 10) d_X3_searchesOf_10 rfl rfl ?_
  refine R_iconst (pc := 11) (v := 5) d_X3_searchesOf_11 (by decide) ?_
  obtain ⟨k6, h⟩ := h
  obtain ⟨k7, h⟩ := h
  refine R_iald (pc := 12) k6 k7 d_X3_searchesOf_12 ?_
  refine R_iconst (pc := 13) (v := 2) d_X3_searchesOf_13 (by decide) ?_
  refine R_icmp_eq (pc := 14) (tgt := 37) d_X3_searchesOf_14 (by decide) (fun c => ?_) (fun c => ?_)
  · rw [if_pos c] at h
    exact WP_sub (B_X3_searchesOf_37 Q r5 M h) (by decide) (ls_n (ls_n (ls_s (ls_n ls_0))))
  · rw [if_neg c] at h
    refine R_aload_n (pc := 17) d_X3_searchesOf_17 rfl rfl ?_
    refine R_getR (pc := 18) fld_RX3_31 rfl rfl k1 d_X3_searchesOf_18 ?_
    obtain ⟨k8, h⟩ := h
    refine R_getR (pc := 21) fld_RX3_77 rfl rfl k8 d_X3_searchesOf_21 ?_
    refine R_aload_n (pc := 24) d_X3_searchesOf_24 rfl rfl ?_
    refine R_iconst (pc := 25) (v := 4) d_X3_searchesOf_25 (by decide) ?_
    obtain ⟨k9, h⟩ := h
    refine R_iald (pc := 26) k6 k9 d_X3_searchesOf_26 ?_
    obtain ⟨k10, h⟩ := h
    obtain ⟨k11, h⟩ := h
    refine R_aald (pc := 27) k10 k11 d_X3_searchesOf_27 ?_
    refine R_iconst (pc := 28) (v := 2) d_X3_searchesOf_28 (by decide) ?_
    obtain ⟨k12, h⟩ := h
    obtain ⟨k13, h⟩ := h
    refine R_iald (pc := 29) k12 k13 d_X3_searchesOf_29 ?_
    refine R_if_ne (pc := 30) (tgt := 37) d_X3_searchesOf_30 (by decide) (fun c => ?_) (fun c => ?_)
    · rw [if_neg c] at h
      exact WP_sub (B_X3_searchesOf_37 Q r5 M h) (by decide) (ls_n (ls_n (ls_s (ls_n ls_0))))
    · rw [if_pos c] at h
      refine R_iconst (pc := 33) (v := 1) d_X3_searchesOf_33 (by decide) ?_
      refine R_goto (pc := 34) (tgt := 38) d_X3_searchesOf_34 (by decide) ?_
      exact WP_sub (B_X3_searchesOf_38 Q r5 1 M h) (by decide) (ls_n (ls_n (ls_s (ls_n ls_0))))
