/-! L_wish -/
theorem d_L_wish_0 : decode mL_wish.2.1 0 = .ok (.aload 5, 2) := by decide +kernel
theorem d_L_wish_2 : decode mL_wish.2.1 2 = .ok (.iconst 0, 1) := by decide +kernel
theorem d_L_wish_3 : decode mL_wish.2.1 3 = .ok (.aload_n 0, 1) := by decide +kernel
theorem d_L_wish_4 : decode mL_wish.2.1 4 = .ok (.iload_n 1, 1) := by decide +kernel
theorem d_L_wish_5 : decode mL_wish.2.1 5 = .ok (.iload_n 2, 1) := by decide +kernel
theorem d_L_wish_6 : decode mL_wish.2.1 6 = .ok (.iload_n 3, 1) := by decide +kernel
theorem d_L_wish_7 : decode mL_wish.2.1 7 = .ok (.iload 4, 2) := by decide +kernel
theorem d_L_wish_9 : decode mL_wish.2.1 9 = .ok (.invokevirtual 91, 3) := by decide +kernel
theorem d_L_wish_12 : decode mL_wish.2.1 12 = .ok (.i2l, 1) := by decide +kernel
theorem d_L_wish_13 : decode mL_wish.2.1 13 = .ok (.lastore, 1) := by decide +kernel
theorem d_L_wish_14 : decode mL_wish.2.1 14 = .ok (.goto 15, 3) := by decide +kernel
theorem d_L_wish_17 : decode mL_wish.2.1 17 = .ok (.astore 6, 2) := by decide +kernel
theorem d_L_wish_19 : decode mL_wish.2.1 19 = .ok (.iconst 1, 1) := by decide +kernel
theorem d_L_wish_20 : decode mL_wish.2.1 20 = .ok (.ireturn, 1) := by decide +kernel
theorem d_L_wish_21 : decode mL_wish.2.1 21 = .ok (.astore 6, 2) := by decide +kernel
theorem d_L_wish_23 : decode mL_wish.2.1 23 = .ok (.iconst 2, 1) := by decide +kernel
theorem d_L_wish_24 : decode mL_wish.2.1 24 = .ok (.ireturn, 1) := by decide +kernel
theorem d_L_wish_25 : decode mL_wish.2.1 25 = .ok (.astore 6, 2) := by decide +kernel
theorem d_L_wish_27 : decode mL_wish.2.1 27 = .ok (.iconst 3, 1) := by decide +kernel
theorem d_L_wish_28 : decode mL_wish.2.1 28 = .ok (.ireturn, 1) := by decide +kernel
theorem d_L_wish_29 : decode mL_wish.2.1 29 = .ok (.iconst 0, 1) := by decide +kernel
theorem d_L_wish_30 : decode mL_wish.2.1 30 = .ok (.ireturn, 1) := by decide +kernel
theorem hand_L_wish_1 : handOK mL_wish 9 "java/lang/IllegalArgumentException" 2 := ⟨[(0, 14, 17, 29)], (0, 14, 21, 13), [(0, 14, 25, 15)], "java/lang/IllegalArgumentException", 6, 2, 23, rfl, List.forall_mem_cons.mpr ⟨⟨by decide, "java/lang/IndexOutOfBoundsException", aw_t 390 (by decide +kernel) (by decide +kernel), by decide +kernel⟩, fun _ h => absurd h List.not_mem_nil⟩, ⟨by decide, by decide⟩, by decide, aw_t 251 (by decide +kernel) (by decide +kernel), aw_t 262 (by decide +kernel) (by decide +kernel), by decide, Or.inr ⟨d_L_wish_21, rfl⟩, d_L_wish_23, by decide, d_L_wish_24⟩
theorem hand_L_wish_2 : handOK mL_wish 9 "java/lang/IllegalStateException" 3 := ⟨[(0, 14, 17, 29), (0, 14, 21, 13)], (0, 14, 25, 15), [], "java/lang/IllegalStateException", 6, 3, 27, rfl, List.forall_mem_cons.mpr ⟨⟨by decide, "java/lang/IndexOutOfBoundsException", aw_t 390 (by decide +kernel) (by decide +kernel), by decide +kernel⟩, List.forall_mem_cons.mpr ⟨⟨by decide, "java/lang/IllegalArgumentException", aw_t 251 (by decide +kernel) (by decide +kernel), by decide +kernel⟩, fun _ h => absurd h List.not_mem_nil⟩⟩, ⟨by decide, by decide⟩, by decide, aw_t 252 (by decide +kernel) (by decide +kernel), aw_t 338 (by decide +kernel) (by decide +kernel), by decide, Or.inr ⟨d_L_wish_25, rfl⟩, d_L_wish_27, by decide, d_L_wish_28⟩
theorem hand_L_wish_0 : handOK mL_wish 9 "java/lang/IndexOutOfBoundsException" 1 := ⟨[], (0, 14, 17, 29), [(0, 14, 21, 13), (0, 14, 25, 15)], "java/lang/IndexOutOfBoundsException", 6, 1, 19, rfl, fun _ h => absurd h List.not_mem_nil, ⟨by decide, by decide⟩, by decide, aw_t 390 (by decide +kernel) (by decide +kernel), aw_t 420 (by decide +kernel) (by decide +kernel), by decide, Or.inr ⟨d_L_wish_17, rfl⟩, d_L_wish_19, by decide, d_L_wish_20⟩
def T_L_wish (Q : Int32 → Mem → Prop) (v0 : Nat) (v1 : Int32) (v2 : Int32) (v3 : Int32) (v4 : Int32) (v5 : Nat) (M : Mem) : Prop := (kd v0 = 6) ∧ T_X6_wish (fun y3 M2 => (kd v5 = 12) ∧ (vp_in 0 (ln v5)) ∧ ∀ M6 : Mem, M6 = (M2.1, vp_updL M2.2.1 (Int32.toNatClampNeg 0) (Int32.toInt64 y3), M2.2.2) → Q 0 M6) (fun E9 M9 => (E9 = "java/lang/IllegalArgumentException" ∧ Q 2 M9) ∨ (E9 = "java/lang/IllegalStateException" ∧ Q 3 M9) ∨ (E9 = "java/lang/IndexOutOfBoundsException" ∧ Q 1 M9)) v0 v1 v2 v3 v4 M
set_option maxRecDepth 100000 in
set_option maxHeartbeats 4000000 in
theorem c_L_wish {g : GG} (v0 : Nat) (v1 : Int32) (v2 : Int32) (v3 : Int32) (v4 : Int32) (v5 : Nat) (M : Mem) (Q : Int32 → Mem → Prop) (h : T_L_wish Q v0 v1 v2 v3 v4 v5 M) : CT g 14 mL_wish [.ref (g.1 + v0), .int v1, .int v2, .int v3, .int v4, .ref (g.1 + v5)] M 1 (oI Q noX) := by
  refine CT_ofH (L := [some (.ref (g.1 + v0)), some (.int v1), some (.int v2), some (.int v3), some (.int v4), some (.ref (g.1 + v5)), none]) (by decide) rfl (Nat.le_of_ble_eq_true rfl) (ro_I rfl) rfl ?_
  unfold T_L_wish at h
  refine R_aload (pc := 0) d_L_wish_0 rfl ?_
  refine R_iconst (pc := 2) (v := 0) d_L_wish_2 (by decide) ?_
  refine R_aload_n (pc := 3) d_L_wish_3 rfl rfl ?_
  refine R_iload_n (pc := 4) d_L_wish_4 rfl rfl ?_
  refine R_iload_n (pc := 5) d_L_wish_5 rfl rfl ?_
  refine R_iload_n (pc := 6) d_L_wish_6 rfl rfl ?_
  refine R_iload (pc := 7) d_L_wish_7 rfl ?_
  obtain ⟨k1, h⟩ := h
  refine R_callVC (pc := 9) (As := [.int v1, .int v2, .int v3, .int v4]) (rest := [.int 0, .ref (g.1 + v5)]) (c_X6_wish (g := g) v0 v1 v2 v3 v4 M _ _ h) rfl cal_RL_91 ins_X6_wish sel_X6_wish (cls_at k1 clsOK6) (by decide) (by decide) rfl rfl (Nat.le_of_ble_eq_true rfl) d_L_wish_9 (k_I (fun y3 M2 h => ?_)) ?_
  · try dsimp only at h
    refine R_i2l (pc := 12) d_L_wish_12 ?_
    obtain ⟨k4, h⟩ := h
    obtain ⟨k5, h⟩ := h
    refine R_last (pc := 13) k4 k5 d_L_wish_13 (N_M (fun M6 eM6 => ?_))
    have h := h M6 eM6
    refine R_goto (pc := 14) (tgt := 29) d_L_wish_14 (by decide) ?_
    refine R_iconst (pc := 29) (v := 0) d_L_wish_29 (by decide) ?_
    exact R_retv (pc := 30) d_L_wish_30 h
  · intro E9 M9 h9
    rcases h9 with ⟨rfl, h9⟩ | ⟨rfl, h9⟩ | ⟨rfl, h9⟩
    · exact ⟨_, hand_L_wish_1, h9⟩
    · exact ⟨_, hand_L_wish_2, h9⟩
    · exact ⟨_, hand_L_wish_0, h9⟩
/-! L_wished -/
theorem d_L_wished_0 : decode mL_wished.2.1 0 = .ok (.aload_n 3, 1) := by decide +kernel
theorem d_L_wished_1 : decode mL_wished.2.1 1 = .ok (.iconst 0, 1) := by decide +kernel
theorem d_L_wished_2 : decode mL_wished.2.1 2 = .ok (.aload_n 0, 1) := by decide +kernel
theorem d_L_wished_3 : decode mL_wished.2.1 3 = .ok (.iload_n 1, 1) := by decide +kernel
theorem d_L_wished_4 : decode mL_wished.2.1 4 = .ok (.iload_n 2, 1) := by decide +kernel
theorem d_L_wished_5 : decode mL_wished.2.1 5 = .ok (.invokevirtual 94, 3) := by decide +kernel
theorem d_L_wished_8 : decode mL_wished.2.1 8 = .ok (.i2l, 1) := by decide +kernel
theorem d_L_wished_9 : decode mL_wished.2.1 9 = .ok (.lastore, 1) := by decide +kernel
theorem d_L_wished_10 : decode mL_wished.2.1 10 = .ok (.goto 11, 3) := by decide +kernel
theorem d_L_wished_13 : decode mL_wished.2.1 13 = .ok (.astore 4, 2) := by decide +kernel
theorem d_L_wished_15 : decode mL_wished.2.1 15 = .ok (.iconst 1, 1) := by decide +kernel
theorem d_L_wished_16 : decode mL_wished.2.1 16 = .ok (.ireturn, 1) := by decide +kernel
theorem d_L_wished_17 : decode mL_wished.2.1 17 = .ok (.astore 4, 2) := by decide +kernel
theorem d_L_wished_19 : decode mL_wished.2.1 19 = .ok (.iconst 2, 1) := by decide +kernel
theorem d_L_wished_20 : decode mL_wished.2.1 20 = .ok (.ireturn, 1) := by decide +kernel
theorem d_L_wished_21 : decode mL_wished.2.1 21 = .ok (.iconst 0, 1) := by decide +kernel
theorem d_L_wished_22 : decode mL_wished.2.1 22 = .ok (.ireturn, 1) := by decide +kernel
theorem hand_L_wished_1 : handOK mL_wished 5 "java/lang/IllegalArgumentException" 2 := ⟨[(0, 10, 13, 29)], (0, 10, 17, 13), [], "java/lang/IllegalArgumentException", 4, 2, 19, rfl, List.forall_mem_cons.mpr ⟨⟨by decide, "java/lang/IndexOutOfBoundsException", aw_t 390 (by decide +kernel) (by decide +kernel), by decide +kernel⟩, fun _ h => absurd h List.not_mem_nil⟩, ⟨by decide, by decide⟩, by decide, aw_t 251 (by decide +kernel) (by decide +kernel), aw_t 262 (by decide +kernel) (by decide +kernel), by decide, Or.inr ⟨d_L_wished_17, rfl⟩, d_L_wished_19, by decide, d_L_wished_20⟩
theorem hand_L_wished_0 : handOK mL_wished 5 "java/lang/IndexOutOfBoundsException" 1 := ⟨[], (0, 10, 13, 29), [(0, 10, 17, 13)], "java/lang/IndexOutOfBoundsException", 4, 1, 15, rfl, fun _ h => absurd h List.not_mem_nil, ⟨by decide, by decide⟩, by decide, aw_t 390 (by decide +kernel) (by decide +kernel), aw_t 420 (by decide +kernel) (by decide +kernel), by decide, Or.inr ⟨d_L_wished_13, rfl⟩, d_L_wished_15, by decide, d_L_wished_16⟩
def T_L_wished (Q : Int32 → Mem → Prop) (v0 : Nat) (v1 : Int32) (v2 : Int32) (v3 : Nat) (M : Mem) : Prop := (kd v0 = 6) ∧ T_X6_wished (fun y3 M2 => (kd v3 = 12) ∧ (vp_in 0 (ln v3)) ∧ ∀ M6 : Mem, M6 = (M2.1, vp_updL M2.2.1 (Int32.toNatClampNeg 0) (Int32.toInt64 y3), M2.2.2) → Q 0 M6) (fun E9 M9 => (E9 = "java/lang/IllegalArgumentException" ∧ Q 2 M9) ∨ (E9 = "java/lang/IndexOutOfBoundsException" ∧ Q 1 M9)) v0 v1 v2 M
set_option maxRecDepth 100000 in
set_option maxHeartbeats 4000000 in
theorem c_L_wished {g : GG} (v0 : Nat) (v1 : Int32) (v2 : Int32) (v3 : Nat) (M : Mem) (Q : Int32 → Mem → Prop) (h : T_L_wished Q v0 v1 v2 v3 M) : CT g 11 mL_wished [.ref (g.1 + v0), .int v1, .int v2, .ref (g.1 + v3)] M 1 (oI Q noX) := by
  refine CT_ofH (L := [some (.ref (g.1 + v0)), some (.int v1), some (.int v2), some (.ref (g.1 + v3)), none]) (by decide) rfl (Nat.le_of_ble_eq_true rfl) (ro_I rfl) rfl ?_
  unfold T_L_wished at h
  refine R_aload_n (pc := 0) d_L_wished_0 rfl rfl ?_
  refine R_iconst (pc := 1) (v := 0) d_L_wished_1 (by decide) ?_
  refine R_aload_n (pc := 2) d_L_wished_2 rfl rfl ?_
  refine R_iload_n (pc := 3) d_L_wished_3 rfl rfl ?_
  refine R_iload_n (pc := 4) d_L_wished_4 rfl rfl ?_
  obtain ⟨k1, h⟩ := h
  refine R_callVC (pc := 5) (As := [.int v1, .int v2]) (rest := [.int 0, .ref (g.1 + v3)]) (c_X6_wished (g := g) v0 v1 v2 M _ _ h) rfl cal_RL_94 ins_X6_wished sel_X6_wished (cls_at k1 clsOK6) (by decide) (by decide) rfl rfl (Nat.le_of_ble_eq_true rfl) d_L_wished_5 (k_I (fun y3 M2 h => ?_)) ?_
  · try dsimp only at h
    refine R_i2l (pc := 8) d_L_wished_8 ?_
    obtain ⟨k4, h⟩ := h
    obtain ⟨k5, h⟩ := h
    refine R_last (pc := 9) k4 k5 d_L_wished_9 (N_M (fun M6 eM6 => ?_))
    have h := h M6 eM6
    refine R_goto (pc := 10) (tgt := 21) d_L_wished_10 (by decide) ?_
    refine R_iconst (pc := 21) (v := 0) d_L_wished_21 (by decide) ?_
    exact R_retv (pc := 22) d_L_wished_22 h
  · intro E9 M9 h9
    rcases h9 with ⟨rfl, h9⟩ | ⟨rfl, h9⟩
    · exact ⟨_, hand_L_wished_1, h9⟩
    · exact ⟨_, hand_L_wished_0, h9⟩
/-! L_notice -/
theorem d_L_notice_0 : decode mL_notice.2.1 0 = .ok (.aload_n 3, 1) := by decide +kernel
theorem d_L_notice_1 : decode mL_notice.2.1 1 = .ok (.iconst 0, 1) := by decide +kernel
theorem d_L_notice_2 : decode mL_notice.2.1 2 = .ok (.aload_n 0, 1) := by decide +kernel
theorem d_L_notice_3 : decode mL_notice.2.1 3 = .ok (.iload_n 1, 1) := by decide +kernel
theorem d_L_notice_4 : decode mL_notice.2.1 4 = .ok (.iload_n 2, 1) := by decide +kernel
theorem d_L_notice_5 : decode mL_notice.2.1 5 = .ok (.invokevirtual 97, 3) := by decide +kernel
theorem d_L_notice_8 : decode mL_notice.2.1 8 = .ok (.i2l, 1) := by decide +kernel
theorem d_L_notice_9 : decode mL_notice.2.1 9 = .ok (.lastore, 1) := by decide +kernel
theorem d_L_notice_10 : decode mL_notice.2.1 10 = .ok (.goto 7, 3) := by decide +kernel
theorem d_L_notice_13 : decode mL_notice.2.1 13 = .ok (.astore 4, 2) := by decide +kernel
theorem d_L_notice_15 : decode mL_notice.2.1 15 = .ok (.iconst 1, 1) := by decide +kernel
theorem d_L_notice_16 : decode mL_notice.2.1 16 = .ok (.ireturn, 1) := by decide +kernel
theorem d_L_notice_17 : decode mL_notice.2.1 17 = .ok (.iconst 0, 1) := by decide +kernel
theorem d_L_notice_18 : decode mL_notice.2.1 18 = .ok (.ireturn, 1) := by decide +kernel
theorem hand_L_notice_0 : handOK mL_notice 5 "java/util/NoSuchElementException" 1 := ⟨[], (0, 10, 13, 52), [], "java/util/NoSuchElementException", 4, 1, 15, rfl, fun _ h => absurd h List.not_mem_nil, ⟨by decide, by decide⟩, by decide, aw_t 642 (by decide +kernel) (by decide +kernel), aw_t 649 (by decide +kernel) (by decide +kernel), by decide, Or.inr ⟨d_L_notice_13, rfl⟩, d_L_notice_15, by decide, d_L_notice_16⟩
def T_L_notice (Q : Int32 → Mem → Prop) (v0 : Nat) (v1 : Int32) (v2 : Int32) (v3 : Nat) (M : Mem) : Prop := (kd v0 = 6) ∧ T_X6_notice (fun y3 M2 => (kd v3 = 12) ∧ (vp_in 0 (ln v3)) ∧ ∀ M6 : Mem, M6 = (M2.1, vp_updL M2.2.1 (Int32.toNatClampNeg 0) (Int32.toInt64 y3), M2.2.2) → Q 0 M6) (fun E9 M9 => (E9 = "java/util/NoSuchElementException" ∧ Q 1 M9)) v0 v1 v2 M
set_option maxRecDepth 100000 in
set_option maxHeartbeats 4000000 in
theorem c_L_notice {g : GG} (v0 : Nat) (v1 : Int32) (v2 : Int32) (v3 : Nat) (M : Mem) (Q : Int32 → Mem → Prop) (h : T_L_notice Q v0 v1 v2 v3 M) : CT g 11 mL_notice [.ref (g.1 + v0), .int v1, .int v2, .ref (g.1 + v3)] M 1 (oI Q noX) := by
  refine CT_ofH (L := [some (.ref (g.1 + v0)), some (.int v1), some (.int v2), some (.ref (g.1 + v3)), none]) (by decide) rfl (Nat.le_of_ble_eq_true rfl) (ro_I rfl) rfl ?_
  unfold T_L_notice at h
  refine R_aload_n (pc := 0) d_L_notice_0 rfl rfl ?_
  refine R_iconst (pc := 1) (v := 0) d_L_notice_1 (by decide) ?_
  refine R_aload_n (pc := 2) d_L_notice_2 rfl rfl ?_
  refine R_iload_n (pc := 3) d_L_notice_3 rfl rfl ?_
  refine R_iload_n (pc := 4) d_L_notice_4 rfl rfl ?_
  obtain ⟨k1, h⟩ := h
  refine R_callVC (pc := 5) (As := [.int v1, .int v2]) (rest := [.int 0, .ref (g.1 + v3)]) (c_X6_notice (g := g) v0 v1 v2 M _ _ h) rfl cal_RL_97 ins_X6_notice sel_X6_notice (cls_at k1 clsOK6) (by decide) (by decide) rfl rfl (Nat.le_of_ble_eq_true rfl) d_L_notice_5 (k_I (fun y3 M2 h => ?_)) ?_
  · try dsimp only at h
    refine R_i2l (pc := 8) d_L_notice_8 ?_
    obtain ⟨k4, h⟩ := h
    obtain ⟨k5, h⟩ := h
    refine R_last (pc := 9) k4 k5 d_L_notice_9 (N_M (fun M6 eM6 => ?_))
    have h := h M6 eM6
    refine R_goto (pc := 10) (tgt := 17) d_L_notice_10 (by decide) ?_
    refine R_iconst (pc := 17) (v := 0) d_L_notice_17 (by decide) ?_
    exact R_retv (pc := 18) d_L_notice_18 h
  · intro E9 M9 h9
    obtain ⟨rfl, h9⟩ := h9
    exact ⟨_, hand_L_notice_0, h9⟩
/-! L_report -/
theorem d_L_report_0 : decode mL_report.2.1 0 = .ok (.aload_n 3, 1) := by decide +kernel
theorem d_L_report_1 : decode mL_report.2.1 1 = .ok (.iconst 0, 1) := by decide +kernel
theorem d_L_report_2 : decode mL_report.2.1 2 = .ok (.aload_n 0, 1) := by decide +kernel
theorem d_L_report_3 : decode mL_report.2.1 3 = .ok (.iload_n 1, 1) := by decide +kernel
theorem d_L_report_4 : decode mL_report.2.1 4 = .ok (.iload_n 2, 1) := by decide +kernel
theorem d_L_report_5 : decode mL_report.2.1 5 = .ok (.invokevirtual 100, 3) := by decide +kernel
theorem d_L_report_8 : decode mL_report.2.1 8 = .ok (.i2l, 1) := by decide +kernel
theorem d_L_report_9 : decode mL_report.2.1 9 = .ok (.lastore, 1) := by decide +kernel
theorem d_L_report_10 : decode mL_report.2.1 10 = .ok (.goto 7, 3) := by decide +kernel
theorem d_L_report_13 : decode mL_report.2.1 13 = .ok (.astore 4, 2) := by decide +kernel
theorem d_L_report_15 : decode mL_report.2.1 15 = .ok (.iconst 1, 1) := by decide +kernel
theorem d_L_report_16 : decode mL_report.2.1 16 = .ok (.ireturn, 1) := by decide +kernel
theorem d_L_report_17 : decode mL_report.2.1 17 = .ok (.iconst 0, 1) := by decide +kernel
theorem d_L_report_18 : decode mL_report.2.1 18 = .ok (.ireturn, 1) := by decide +kernel
theorem hand_L_report_0 : handOK mL_report 5 "java/util/NoSuchElementException" 1 := ⟨[], (0, 10, 13, 52), [], "java/util/NoSuchElementException", 4, 1, 15, rfl, fun _ h => absurd h List.not_mem_nil, ⟨by decide, by decide⟩, by decide, aw_t 642 (by decide +kernel) (by decide +kernel), aw_t 649 (by decide +kernel) (by decide +kernel), by decide, Or.inr ⟨d_L_report_13, rfl⟩, d_L_report_15, by decide, d_L_report_16⟩
def T_L_report (Q : Int32 → Mem → Prop) (v0 : Nat) (v1 : Int32) (v2 : Int32) (v3 : Nat) (M : Mem) : Prop := (kd v0 = 6) ∧ T_X6_report (fun y3 M2 => (kd v3 = 12) ∧ (vp_in 0 (ln v3)) ∧ ∀ M6 : Mem, M6 = (M2.1, vp_updL M2.2.1 (Int32.toNatClampNeg 0) (Int32.toInt64 y3), M2.2.2) → Q 0 M6) (fun E9 M9 => (E9 = "java/util/NoSuchElementException" ∧ Q 1 M9)) v0 v1 v2 M
set_option maxRecDepth 100000 in
set_option maxHeartbeats 4000000 in
theorem c_L_report {g : GG} (v0 : Nat) (v1 : Int32) (v2 : Int32) (v3 : Nat) (M : Mem) (Q : Int32 → Mem → Prop) (h : T_L_report Q v0 v1 v2 v3 M) : CT g 11 mL_report [.ref (g.1 + v0), .int v1, .int v2, .ref (g.1 + v3)] M 1 (oI Q noX) := by
  refine CT_ofH (L := [some (.ref (g.1 + v0)), some (.int v1), some (.int v2), some (.ref (g.1 + v3)), none]) (by decide) rfl (Nat.le_of_ble_eq_true rfl) (ro_I rfl) rfl ?_
  unfold T_L_report at h
  refine R_aload_n (pc := 0) d_L_report_0 rfl rfl ?_
  refine R_iconst (pc := 1) (v := 0) d_L_report_1 (by decide) ?_
  refine R_aload_n (pc := 2) d_L_report_2 rfl rfl ?_
  refine R_iload_n (pc := 3) d_L_report_3 rfl rfl ?_
  refine R_iload_n (pc := 4) d_L_report_4 rfl rfl ?_
  obtain ⟨k1, h⟩ := h
  refine R_callVC (pc := 5) (As := [.int v1, .int v2]) (rest := [.int 0, .ref (g.1 + v3)]) (c_X6_report (g := g) v0 v1 v2 M _ _ h) rfl cal_RL_100 ins_X6_report sel_X6_report (cls_at k1 clsOK6) (by decide) (by decide) rfl rfl (Nat.le_of_ble_eq_true rfl) d_L_report_5 (k_I (fun y3 M2 h => ?_)) ?_
  · try dsimp only at h
    refine R_i2l (pc := 8) d_L_report_8 ?_
    obtain ⟨k4, h⟩ := h
    obtain ⟨k5, h⟩ := h
    refine R_last (pc := 9) k4 k5 d_L_report_9 (N_M (fun M6 eM6 => ?_))
    have h := h M6 eM6
    refine R_goto (pc := 10) (tgt := 17) d_L_report_10 (by decide) ?_
    refine R_iconst (pc := 17) (v := 0) d_L_report_17 (by decide) ?_
    exact R_retv (pc := 18) d_L_report_18 h
  · intro E9 M9 h9
    obtain ⟨rfl, h9⟩ := h9
    exact ⟨_, hand_L_report_0, h9⟩
/-! L_account -/
theorem d_L_account_0 : decode mL_account.2.1 0 = .ok (.aload_n 2, 1) := by decide +kernel
theorem d_L_account_1 : decode mL_account.2.1 1 = .ok (.iconst 0, 1) := by decide +kernel
theorem d_L_account_2 : decode mL_account.2.1 2 = .ok (.aload_n 0, 1) := by decide +kernel
theorem d_L_account_3 : decode mL_account.2.1 3 = .ok (.iload_n 1, 1) := by decide +kernel
theorem d_L_account_4 : decode mL_account.2.1 4 = .ok (.invokevirtual 103, 3) := by decide +kernel
theorem d_L_account_7 : decode mL_account.2.1 7 = .ok (.i2l, 1) := by decide +kernel
theorem d_L_account_8 : decode mL_account.2.1 8 = .ok (.lastore, 1) := by decide +kernel
theorem d_L_account_9 : decode mL_account.2.1 9 = .ok (.goto 6, 3) := by decide +kernel
theorem d_L_account_12 : decode mL_account.2.1 12 = .ok (.astore_n 3, 1) := by decide +kernel
theorem d_L_account_13 : decode mL_account.2.1 13 = .ok (.iconst 1, 1) := by decide +kernel
theorem d_L_account_14 : decode mL_account.2.1 14 = .ok (.ireturn, 1) := by decide +kernel
theorem d_L_account_15 : decode mL_account.2.1 15 = .ok (.iconst 0, 1) := by decide +kernel
theorem d_L_account_16 : decode mL_account.2.1 16 = .ok (.ireturn, 1) := by decide +kernel
theorem hand_L_account_0 : handOK mL_account 4 "java/lang/IllegalArgumentException" 1 := ⟨[], (0, 9, 12, 13), [], "java/lang/IllegalArgumentException", 3, 1, 13, rfl, fun _ h => absurd h List.not_mem_nil, ⟨by decide, by decide⟩, by decide, aw_t 251 (by decide +kernel) (by decide +kernel), aw_t 262 (by decide +kernel) (by decide +kernel), by decide, Or.inl ⟨3, rfl, d_L_account_12, rfl⟩, d_L_account_13, by decide, d_L_account_14⟩
def T_L_account (Q : Int32 → Mem → Prop) (v0 : Nat) (v1 : Int32) (v2 : Nat) (M : Mem) : Prop := (kd v0 = 6) ∧ T_X6_account (fun y3 M2 => (kd v2 = 12) ∧ (vp_in 0 (ln v2)) ∧ ∀ M6 : Mem, M6 = (M2.1, vp_updL M2.2.1 (Int32.toNatClampNeg 0) (Int32.toInt64 y3), M2.2.2) → Q 0 M6) (fun E9 M9 => (E9 = "java/lang/IllegalArgumentException" ∧ Q 1 M9)) v0 v1 M
set_option maxRecDepth 100000 in
set_option maxHeartbeats 4000000 in
theorem c_L_account {g : GG} (v0 : Nat) (v1 : Int32) (v2 : Nat) (M : Mem) (Q : Int32 → Mem → Prop) (h : T_L_account Q v0 v1 v2 M) : CT g 13 mL_account [.ref (g.1 + v0), .int v1, .ref (g.1 + v2)] M 1 (oI Q noX) := by
  refine CT_ofH (L := [some (.ref (g.1 + v0)), some (.int v1), some (.ref (g.1 + v2)), none]) (by decide) rfl (Nat.le_of_ble_eq_true rfl) (ro_I rfl) rfl ?_
  unfold T_L_account at h
  refine R_aload_n (pc := 0) d_L_account_0 rfl rfl ?_
  refine R_iconst (pc := 1) (v := 0) d_L_account_1 (by decide) ?_
  refine R_aload_n (pc := 2) d_L_account_2 rfl rfl ?_
  refine R_iload_n (pc := 3) d_L_account_3 rfl rfl ?_
  obtain ⟨k1, h⟩ := h
  refine R_callVC (pc := 4) (As := [.int v1]) (rest := [.int 0, .ref (g.1 + v2)]) (c_X6_account (g := g) v0 v1 M _ _ h) rfl cal_RL_103 ins_X6_account sel_X6_account (cls_at k1 clsOK6) (by decide) (by decide) rfl rfl (Nat.le_of_ble_eq_true rfl) d_L_account_4 (k_I (fun y3 M2 h => ?_)) ?_
  · try dsimp only at h
    refine R_i2l (pc := 7) d_L_account_7 ?_
    obtain ⟨k4, h⟩ := h
    obtain ⟨k5, h⟩ := h
    refine R_last (pc := 8) k4 k5 d_L_account_8 (N_M (fun M6 eM6 => ?_))
    have h := h M6 eM6
    refine R_goto (pc := 9) (tgt := 15) d_L_account_9 (by decide) ?_
    refine R_iconst (pc := 15) (v := 0) d_L_account_15 (by decide) ?_
    exact R_retv (pc := 16) d_L_account_16 h
  · intro E9 M9 h9
    obtain ⟨rfl, h9⟩ := h9
    exact ⟨_, hand_L_account_0, h9⟩
/-! L_meanDistance -/
theorem d_L_meanDistance_0 : decode mL_meanDistance.2.1 0 = .ok (.aload_n 1, 1) := by decide +kernel
theorem d_L_meanDistance_1 : decode mL_meanDistance.2.1 1 = .ok (.iconst 0, 1) := by decide +kernel
theorem d_L_meanDistance_2 : decode mL_meanDistance.2.1 2 = .ok (.aload_n 0, 1) := by decide +kernel
theorem d_L_meanDistance_3 : decode mL_meanDistance.2.1 3 = .ok (.invokevirtual 106, 3) := by decide +kernel
theorem d_L_meanDistance_6 : decode mL_meanDistance.2.1 6 = .ok (.dastore, 1) := by decide +kernel
theorem d_L_meanDistance_7 : decode mL_meanDistance.2.1 7 = .ok (.goto 6, 3) := by decide +kernel
theorem d_L_meanDistance_10 : decode mL_meanDistance.2.1 10 = .ok (.astore_n 2, 1) := by decide +kernel
theorem d_L_meanDistance_11 : decode mL_meanDistance.2.1 11 = .ok (.iconst 1, 1) := by decide +kernel
theorem d_L_meanDistance_12 : decode mL_meanDistance.2.1 12 = .ok (.ireturn, 1) := by decide +kernel
theorem d_L_meanDistance_13 : decode mL_meanDistance.2.1 13 = .ok (.iconst 0, 1) := by decide +kernel
theorem d_L_meanDistance_14 : decode mL_meanDistance.2.1 14 = .ok (.ireturn, 1) := by decide +kernel
theorem hand_L_meanDistance_0 : handOK mL_meanDistance 3 "java/lang/ArithmeticException" 1 := ⟨[], (0, 7, 10, 110), [], "java/lang/ArithmeticException", 2, 1, 11, rfl, fun _ h => absurd h List.not_mem_nil, ⟨by decide, by decide⟩, by decide, aw_t 896 (by decide +kernel) (by decide +kernel), aw_t 908 (by decide +kernel) (by decide +kernel), by decide, Or.inl ⟨2, rfl, d_L_meanDistance_10, rfl⟩, d_L_meanDistance_11, by decide, d_L_meanDistance_12⟩
def T_L_meanDistance (Q : Int32 → Mem → Prop) (v0 : Nat) (v1 : Nat) (M : Mem) : Prop := (kd v0 = 6) ∧ T_X6_meanDistance (fun y3 M2 => (kd v1 = 13) ∧ (vp_in 0 (ln v1)) ∧ ∀ M6 : Mem, M6 = (M2.1, M2.2.1, vf_upd M2.2.2 (Int32.toNatClampNeg 0) y3) → Q 0 M6) (fun E9 M9 => (E9 = "java/lang/ArithmeticException" ∧ Q 1 M9)) v0 M
set_option maxRecDepth 100000 in
set_option maxHeartbeats 4000000 in
theorem c_L_meanDistance {g : GG} (v0 : Nat) (v1 : Nat) (M : Mem) (Q : Int32 → Mem → Prop) (h : T_L_meanDistance Q v0 v1 M) : CT g 12 mL_meanDistance [.ref (g.1 + v0), .ref (g.1 + v1)] M 1 (oI Q noX) := by
  refine CT_ofH (L := [some (.ref (g.1 + v0)), some (.ref (g.1 + v1)), none]) (by decide) rfl (Nat.le_of_ble_eq_true rfl) (ro_I rfl) rfl ?_
  unfold T_L_meanDistance at h
  refine R_aload_n (pc := 0) d_L_meanDistance_0 rfl rfl ?_
  refine R_iconst (pc := 1) (v := 0) d_L_meanDistance_1 (by decide) ?_
  refine R_aload_n (pc := 2) d_L_meanDistance_2 rfl rfl ?_
  obtain ⟨k1, h⟩ := h
  refine R_callVC (pc := 3) (As := []) (rest := [.int 0, .ref (g.1 + v1)]) (c_X6_meanDistance (g := g) v0 M _ _ h) rfl cal_RL_106 ins_X6_meanDistance sel_X6_meanDistance (cls_at k1 clsOK6) (by decide) (by decide) rfl rfl (Nat.le_of_ble_eq_true rfl) d_L_meanDistance_3 (k_D (fun y3 M2 h => ?_)) ?_
  · try dsimp only at h
    obtain ⟨k4, h⟩ := h
    obtain ⟨k5, h⟩ := h
    refine R_dast (pc := 6) k4 k5 d_L_meanDistance_6 (N_M (fun M6 eM6 => ?_))
    have h := h M6 eM6
    refine R_goto (pc := 7) (tgt := 13) d_L_meanDistance_7 (by decide) ?_
    refine R_iconst (pc := 13) (v := 0) d_L_meanDistance_13 (by decide) ?_
    exact R_retv (pc := 14) d_L_meanDistance_14 h
  · intro E9 M9 h9
    obtain ⟨rfl, h9⟩ := h9
    exact ⟨_, hand_L_meanDistance_0, h9⟩
/-! L_use -/
theorem d_L_use_0 : decode mL_use.2.1 0 = .ok (.aload_n 2, 1) := by decide +kernel
theorem d_L_use_1 : decode mL_use.2.1 1 = .ok (.iconst 0, 1) := by decide +kernel
theorem d_L_use_2 : decode mL_use.2.1 2 = .ok (.aload_n 0, 1) := by decide +kernel
theorem d_L_use_3 : decode mL_use.2.1 3 = .ok (.iload_n 1, 1) := by decide +kernel
theorem d_L_use_4 : decode mL_use.2.1 4 = .ok (.invokevirtual 112, 3) := by decide +kernel
theorem d_L_use_7 : decode mL_use.2.1 7 = .ok (.f2d, 1) := by decide +kernel
theorem d_L_use_8 : decode mL_use.2.1 8 = .ok (.dastore, 1) := by decide +kernel
theorem d_L_use_9 : decode mL_use.2.1 9 = .ok (.goto 9, 3) := by decide +kernel
theorem d_L_use_12 : decode mL_use.2.1 12 = .ok (.astore_n 3, 1) := by decide +kernel
theorem d_L_use_13 : decode mL_use.2.1 13 = .ok (.iconst 1, 1) := by decide +kernel
theorem d_L_use_14 : decode mL_use.2.1 14 = .ok (.ireturn, 1) := by decide +kernel
theorem d_L_use_15 : decode mL_use.2.1 15 = .ok (.astore_n 3, 1) := by decide +kernel
theorem d_L_use_16 : decode mL_use.2.1 16 = .ok (.iconst 2, 1) := by decide +kernel
theorem d_L_use_17 : decode mL_use.2.1 17 = .ok (.ireturn, 1) := by decide +kernel
theorem d_L_use_18 : decode mL_use.2.1 18 = .ok (.iconst 0, 1) := by decide +kernel
theorem d_L_use_19 : decode mL_use.2.1 19 = .ok (.ireturn, 1) := by decide +kernel
theorem hand_L_use_1 : handOK mL_use 4 "java/lang/ArithmeticException" 2 := ⟨[(0, 9, 12, 13)], (0, 9, 15, 110), [], "java/lang/ArithmeticException", 3, 2, 16, rfl, List.forall_mem_cons.mpr ⟨⟨by decide, "java/lang/IllegalArgumentException", aw_t 251 (by decide +kernel) (by decide +kernel), by decide +kernel⟩, fun _ h => absurd h List.not_mem_nil⟩, ⟨by decide, by decide⟩, by decide, aw_t 896 (by decide +kernel) (by decide +kernel), aw_t 908 (by decide +kernel) (by decide +kernel), by decide, Or.inl ⟨3, rfl, d_L_use_15, rfl⟩, d_L_use_16, by decide, d_L_use_17⟩
theorem hand_L_use_0 : handOK mL_use 4 "java/lang/IllegalArgumentException" 1 := ⟨[], (0, 9, 12, 13), [(0, 9, 15, 110)], "java/lang/IllegalArgumentException", 3, 1, 13, rfl, fun _ h => absurd h List.not_mem_nil, ⟨by decide, by decide⟩, by decide, aw_t 251 (by decide +kernel) (by decide +kernel), aw_t 262 (by decide +kernel) (by decide +kernel), by decide, Or.inl ⟨3, rfl, d_L_use_12, rfl⟩, d_L_use_13, by decide, d_L_use_14⟩
def T_L_use (Q : Int32 → Mem → Prop) (v0 : Nat) (v1 : Int32) (v2 : Nat) (M : Mem) : Prop := (kd v0 = 6) ∧ T_X6_use (fun y3 M2 => (vf_n64 (FP.f2d y3)) ∧ (kd v2 = 13) ∧ (vp_in 0 (ln v2)) ∧ ∀ M7 : Mem, M7 = (M2.1, M2.2.1, vf_upd M2.2.2 (Int32.toNatClampNeg 0) (FP.f2d y3)) → Q 0 M7) (fun E9 M9 => (E9 = "java/lang/ArithmeticException" ∧ Q 2 M9) ∨ (E9 = "java/lang/IllegalArgumentException" ∧ Q 1 M9)) v0 v1 M
set_option maxRecDepth 100000 in
set_option maxHeartbeats 4000000 in
theorem c_L_use {g : GG} (v0 : Nat) (v1 : Int32) (v2 : Nat) (M : Mem) (Q : Int32 → Mem → Prop) (h : T_L_use Q v0 v1 v2 M) : CT g 12 mL_use [.ref (g.1 + v0), .int v1, .ref (g.1 + v2)] M 1 (oI Q noX) := by
  refine CT_ofH (L := [some (.ref (g.1 + v0)), some (.int v1), some (.ref (g.1 + v2)), none]) (by decide) rfl (Nat.le_of_ble_eq_true rfl) (ro_I rfl) rfl ?_
  unfold T_L_use at h
  refine R_aload_n (pc := 0) d_L_use_0 rfl rfl ?_
  refine R_iconst (pc := 1) (v := 0) d_L_use_1 (by decide) ?_
  refine R_aload_n (pc := 2) d_L_use_2 rfl rfl ?_
  refine R_iload_n (pc := 3) d_L_use_3 rfl rfl ?_
  obtain ⟨k1, h⟩ := h
  refine R_callVC (pc := 4) (As := [.int v1]) (rest := [.int 0, .ref (g.1 + v2)]) (c_X6_use (g := g) v0 v1 M _ _ h) rfl cal_RL_112 ins_X6_use sel_X6_use (cls_at k1 clsOK6) (by decide) (by decide) rfl rfl (Nat.le_of_ble_eq_true rfl) d_L_use_4 (k_F (fun y3 M2 h => ?_)) ?_
  · try dsimp only at h
    obtain ⟨k4, h⟩ := h
    refine R_f2d (pc := 7) d_L_use_7 k4 ?_
    obtain ⟨k5, h⟩ := h
    obtain ⟨k6, h⟩ := h
    refine R_dast (pc := 8) k5 k6 d_L_use_8 (N_M (fun M7 eM7 => ?_))
    have h := h M7 eM7
    refine R_goto (pc := 9) (tgt := 18) d_L_use_9 (by decide) ?_
    refine R_iconst (pc := 18) (v := 0) d_L_use_18 (by decide) ?_
    exact R_retv (pc := 19) d_L_use_19 h
  · intro E9 M9 h9
    rcases h9 with ⟨rfl, h9⟩ | ⟨rfl, h9⟩
    · exact ⟨_, hand_L_use_1, h9⟩
    · exact ⟨_, hand_L_use_0, h9⟩
/-! L_feed -/
theorem d_L_feed_0 : decode mL_feed.2.1 0 = .ok (.aload_n 2, 1) := by decide +kernel
theorem d_L_feed_1 : decode mL_feed.2.1 1 = .ok (.iconst 0, 1) := by decide +kernel
theorem d_L_feed_2 : decode mL_feed.2.1 2 = .ok (.aload_n 0, 1) := by decide +kernel
theorem d_L_feed_3 : decode mL_feed.2.1 3 = .ok (.iload_n 1, 1) := by decide +kernel
theorem d_L_feed_4 : decode mL_feed.2.1 4 = .ok (.invokevirtual 116, 3) := by decide +kernel
theorem d_L_feed_7 : decode mL_feed.2.1 7 = .ok (.i2l, 1) := by decide +kernel
theorem d_L_feed_8 : decode mL_feed.2.1 8 = .ok (.lastore, 1) := by decide +kernel
theorem d_L_feed_9 : decode mL_feed.2.1 9 = .ok (.goto 6, 3) := by decide +kernel
theorem d_L_feed_12 : decode mL_feed.2.1 12 = .ok (.astore_n 3, 1) := by decide +kernel
theorem d_L_feed_13 : decode mL_feed.2.1 13 = .ok (.iconst 1, 1) := by decide +kernel
theorem d_L_feed_14 : decode mL_feed.2.1 14 = .ok (.ireturn, 1) := by decide +kernel
theorem d_L_feed_15 : decode mL_feed.2.1 15 = .ok (.iconst 0, 1) := by decide +kernel
theorem d_L_feed_16 : decode mL_feed.2.1 16 = .ok (.ireturn, 1) := by decide +kernel
theorem hand_L_feed_0 : handOK mL_feed 4 "java/lang/IllegalStateException" 1 := ⟨[], (0, 9, 12, 15), [], "java/lang/IllegalStateException", 3, 1, 13, rfl, fun _ h => absurd h List.not_mem_nil, ⟨by decide, by decide⟩, by decide, aw_t 252 (by decide +kernel) (by decide +kernel), aw_t 338 (by decide +kernel) (by decide +kernel), by decide, Or.inl ⟨3, rfl, d_L_feed_12, rfl⟩, d_L_feed_13, by decide, d_L_feed_14⟩
def T_L_feed (Q : Int32 → Mem → Prop) (v0 : Nat) (v1 : Int32) (v2 : Nat) (M : Mem) : Prop := (kd v0 = 6) ∧ T_X6_feed (fun y3 M2 => (kd v2 = 12) ∧ (vp_in 0 (ln v2)) ∧ ∀ M6 : Mem, M6 = (M2.1, vp_updL M2.2.1 (Int32.toNatClampNeg 0) (Int32.toInt64 y3), M2.2.2) → Q 0 M6) (fun E9 M9 => (E9 = "java/lang/IllegalStateException" ∧ Q 1 M9)) v0 v1 M
set_option maxRecDepth 100000 in
set_option maxHeartbeats 4000000 in
theorem c_L_feed {g : GG} (v0 : Nat) (v1 : Int32) (v2 : Nat) (M : Mem) (Q : Int32 → Mem → Prop) (h : T_L_feed Q v0 v1 v2 M) : CT g 11 mL_feed [.ref (g.1 + v0), .int v1, .ref (g.1 + v2)] M 1 (oI Q noX) := by
  refine CT_ofH (L := [some (.ref (g.1 + v0)), some (.int v1), some (.ref (g.1 + v2)), none]) (by decide) rfl (Nat.le_of_ble_eq_true rfl) (ro_I rfl) rfl ?_
  unfold T_L_feed at h
  refine R_aload_n (pc := 0) d_L_feed_0 rfl rfl ?_
  refine R_iconst (pc := 1) (v := 0) d_L_feed_1 (by decide) ?_
  refine R_aload_n (pc := 2) d_L_feed_2 rfl rfl ?_
  refine R_iload_n (pc := 3) d_L_feed_3 rfl rfl ?_
  obtain ⟨k1, h⟩ := h
  refine R_callVC (pc := 4) (As := [.int v1]) (rest := [.int 0, .ref (g.1 + v2)]) (c_X6_feed (g := g) v0 v1 M _ _ h) rfl cal_RL_116 ins_X6_feed sel_X6_feed (cls_at k1 clsOK6) (by decide) (by decide) rfl rfl (Nat.le_of_ble_eq_true rfl) d_L_feed_4 (k_I (fun y3 M2 h => ?_)) ?_
  · try dsimp only at h
    refine R_i2l (pc := 7) d_L_feed_7 ?_
    obtain ⟨k4, h⟩ := h
    obtain ⟨k5, h⟩ := h
    refine R_last (pc := 8) k4 k5 d_L_feed_8 (N_M (fun M6 eM6 => ?_))
    have h := h M6 eM6
    refine R_goto (pc := 9) (tgt := 15) d_L_feed_9 (by decide) ?_
    refine R_iconst (pc := 15) (v := 0) d_L_feed_15 (by decide) ?_
    exact R_retv (pc := 16) d_L_feed_16 h
  · intro E9 M9 h9
    obtain ⟨rfl, h9⟩ := h9
    exact ⟨_, hand_L_feed_0, h9⟩
/-! L_perform -/
theorem d_L_perform_0 : decode mL_perform.2.1 0 = .ok (.aload_n 1, 1) := by decide +kernel
theorem d_L_perform_1 : decode mL_perform.2.1 1 = .ok (.iconst 0, 1) := by decide +kernel
theorem d_L_perform_2 : decode mL_perform.2.1 2 = .ok (.aload_n 0, 1) := by decide +kernel
theorem d_L_perform_3 : decode mL_perform.2.1 3 = .ok (.invokevirtual 120, 3) := by decide +kernel
theorem d_L_perform_6 : decode mL_perform.2.1 6 = .ok (.i2l, 1) := by decide +kernel
theorem d_L_perform_7 : decode mL_perform.2.1 7 = .ok (.lastore, 1) := by decide +kernel
theorem d_L_perform_8 : decode mL_perform.2.1 8 = .ok (.goto 6, 3) := by decide +kernel
theorem d_L_perform_11 : decode mL_perform.2.1 11 = .ok (.astore_n 2, 1) := by decide +kernel
theorem d_L_perform_12 : decode mL_perform.2.1 12 = .ok (.iconst 1, 1) := by decide +kernel
theorem d_L_perform_13 : decode mL_perform.2.1 13 = .ok (.ireturn, 1) := by decide +kernel
theorem d_L_perform_14 : decode mL_perform.2.1 14 = .ok (.iconst 0, 1) := by decide +kernel
theorem d_L_perform_15 : decode mL_perform.2.1 15 = .ok (.ireturn, 1) := by decide +kernel
theorem hand_L_perform_0 : handOK mL_perform 3 "java/lang/UnsupportedOperationException" 1 := ⟨[], (0, 8, 11, 58), [], "java/lang/UnsupportedOperationException", 2, 1, 12, rfl, fun _ h => absurd h List.not_mem_nil, ⟨by decide, by decide⟩, by decide, aw_t 667 (by decide +kernel) (by decide +kernel), aw_t 694 (by decide +kernel) (by decide +kernel), by decide, Or.inl ⟨2, rfl, d_L_perform_11, rfl⟩, d_L_perform_12, by decide, d_L_perform_13⟩
def T_L_perform (Q : Int32 → Mem → Prop) (v0 : Nat) (v1 : Nat) (M : Mem) : Prop := (kd v0 = 6) ∧ T_X6_perform (fun y3 M2 => (kd v1 = 12) ∧ (vp_in 0 (ln v1)) ∧ ∀ M6 : Mem, M6 = (M2.1, vp_updL M2.2.1 (Int32.toNatClampNeg 0) (Int32.toInt64 y3), M2.2.2) → Q 0 M6) (fun E9 M9 => (E9 = "java/lang/UnsupportedOperationException" ∧ Q 1 M9)) v0 M
set_option maxRecDepth 100000 in
set_option maxHeartbeats 4000000 in
theorem c_L_perform {g : GG} (v0 : Nat) (v1 : Nat) (M : Mem) (Q : Int32 → Mem → Prop) (h : T_L_perform Q v0 v1 M) : CT g 17 mL_perform [.ref (g.1 + v0), .ref (g.1 + v1)] M 1 (oI Q noX) := by
  refine CT_ofH (L := [some (.ref (g.1 + v0)), some (.ref (g.1 + v1)), none]) (by decide) rfl (Nat.le_of_ble_eq_true rfl) (ro_I rfl) rfl ?_
  unfold T_L_perform at h
  refine R_aload_n (pc := 0) d_L_perform_0 rfl rfl ?_
  refine R_iconst (pc := 1) (v := 0) d_L_perform_1 (by decide) ?_
  refine R_aload_n (pc := 2) d_L_perform_2 rfl rfl ?_
  obtain ⟨k1, h⟩ := h
  refine R_callVC (pc := 3) (As := []) (rest := [.int 0, .ref (g.1 + v1)]) (c_X6_perform (g := g) v0 M _ _ h) rfl cal_RL_120 ins_X6_perform sel_X6_perform (cls_at k1 clsOK6) (by decide) (by decide) rfl rfl (Nat.le_of_ble_eq_true rfl) d_L_perform_3 (k_I (fun y3 M2 h => ?_)) ?_
  · try dsimp only at h
    refine R_i2l (pc := 6) d_L_perform_6 ?_
    obtain ⟨k4, h⟩ := h
    obtain ⟨k5, h⟩ := h
    refine R_last (pc := 7) k4 k5 d_L_perform_7 (N_M (fun M6 eM6 => ?_))
    have h := h M6 eM6
    refine R_goto (pc := 8) (tgt := 14) d_L_perform_8 (by decide) ?_
    refine R_iconst (pc := 14) (v := 0) d_L_perform_14 (by decide) ?_
    exact R_retv (pc := 15) d_L_perform_15 h
  · intro E9 M9 h9
    obtain ⟨rfl, h9⟩ := h9
    exact ⟨_, hand_L_perform_0, h9⟩
/-! L_undo -/
theorem d_L_undo_0 : decode mL_undo.2.1 0 = .ok (.aload_n 1, 1) := by decide +kernel
theorem d_L_undo_1 : decode mL_undo.2.1 1 = .ok (.iconst 0, 1) := by decide +kernel
theorem d_L_undo_2 : decode mL_undo.2.1 2 = .ok (.aload_n 0, 1) := by decide +kernel
theorem d_L_undo_3 : decode mL_undo.2.1 3 = .ok (.invokevirtual 124, 3) := by decide +kernel
theorem d_L_undo_6 : decode mL_undo.2.1 6 = .ok (.i2l, 1) := by decide +kernel
theorem d_L_undo_7 : decode mL_undo.2.1 7 = .ok (.lastore, 1) := by decide +kernel
theorem d_L_undo_8 : decode mL_undo.2.1 8 = .ok (.goto 6, 3) := by decide +kernel
theorem d_L_undo_11 : decode mL_undo.2.1 11 = .ok (.astore_n 2, 1) := by decide +kernel
theorem d_L_undo_12 : decode mL_undo.2.1 12 = .ok (.iconst 1, 1) := by decide +kernel
theorem d_L_undo_13 : decode mL_undo.2.1 13 = .ok (.ireturn, 1) := by decide +kernel
theorem d_L_undo_14 : decode mL_undo.2.1 14 = .ok (.iconst 0, 1) := by decide +kernel
theorem d_L_undo_15 : decode mL_undo.2.1 15 = .ok (.ireturn, 1) := by decide +kernel
theorem hand_L_undo_0 : handOK mL_undo 3 "java/lang/IllegalStateException" 1 := ⟨[], (0, 8, 11, 15), [], "java/lang/IllegalStateException", 2, 1, 12, rfl, fun _ h => absurd h List.not_mem_nil, ⟨by decide, by decide⟩, by decide, aw_t 252 (by decide +kernel) (by decide +kernel), aw_t 338 (by decide +kernel) (by decide +kernel), by decide, Or.inl ⟨2, rfl, d_L_undo_11, rfl⟩, d_L_undo_12, by decide, d_L_undo_13⟩
def T_L_undo (Q : Int32 → Mem → Prop) (v0 : Nat) (v1 : Nat) (M : Mem) : Prop := (kd v0 = 6) ∧ T_X6_undo (fun y3 M2 => (kd v1 = 12) ∧ (vp_in 0 (ln v1)) ∧ ∀ M6 : Mem, M6 = (M2.1, vp_updL M2.2.1 (Int32.toNatClampNeg 0) (Int32.toInt64 y3), M2.2.2) → Q 0 M6) (fun E9 M9 => (E9 = "java/lang/IllegalStateException" ∧ Q 1 M9)) v0 M
set_option maxRecDepth 100000 in
set_option maxHeartbeats 4000000 in
theorem c_L_undo {g : GG} (v0 : Nat) (v1 : Nat) (M : Mem) (Q : Int32 → Mem → Prop) (h : T_L_undo Q v0 v1 M) : CT g 14 mL_undo [.ref (g.1 + v0), .ref (g.1 + v1)] M 1 (oI Q noX) := by
  refine CT_ofH (L := [some (.ref (g.1 + v0)), some (.ref (g.1 + v1)), none]) (by decide) rfl (Nat.le_of_ble_eq_true rfl) (ro_I rfl) rfl ?_
  unfold T_L_undo at h
  refine R_aload_n (pc := 0) d_L_undo_0 rfl rfl ?_
  refine R_iconst (pc := 1) (v := 0) d_L_undo_1 (by decide) ?_
  refine R_aload_n (pc := 2) d_L_undo_2 rfl rfl ?_
  obtain ⟨k1, h⟩ := h
  refine R_callVC (pc := 3) (As := []) (rest := [.int 0, .ref (g.1 + v1)]) (c_X6_undo (g := g) v0 M _ _ h) rfl cal_RL_124 ins_X6_undo sel_X6_undo (cls_at k1 clsOK6) (by decide) (by decide) rfl rfl (Nat.le_of_ble_eq_true rfl) d_L_undo_3 (k_I (fun y3 M2 h => ?_)) ?_
  · try dsimp only at h
    refine R_i2l (pc := 6) d_L_undo_6 ?_
    obtain ⟨k4, h⟩ := h
    obtain ⟨k5, h⟩ := h
    refine R_last (pc := 7) k4 k5 d_L_undo_7 (N_M (fun M6 eM6 => ?_))
    have h := h M6 eM6
    refine R_goto (pc := 8) (tgt := 14) d_L_undo_8 (by decide) ?_
    refine R_iconst (pc := 14) (v := 0) d_L_undo_14 (by decide) ?_
    exact R_retv (pc := 15) d_L_undo_15 h
  · intro E9 M9 h9
    obtain ⟨rfl, h9⟩ := h9
    exact ⟨_, hand_L_undo_0, h9⟩
/-! L_restore -/
theorem d_L_restore_0 : decode mL_restore.2.1 0 = .ok (.aload_n 1, 1) := by decide +kernel
theorem d_L_restore_1 : decode mL_restore.2.1 1 = .ok (.iconst 0, 1) := by decide +kernel
theorem d_L_restore_2 : decode mL_restore.2.1 2 = .ok (.aload_n 0, 1) := by decide +kernel
theorem d_L_restore_3 : decode mL_restore.2.1 3 = .ok (.invokevirtual 127, 3) := by decide +kernel
theorem d_L_restore_6 : decode mL_restore.2.1 6 = .ok (.i2l, 1) := by decide +kernel
theorem d_L_restore_7 : decode mL_restore.2.1 7 = .ok (.lastore, 1) := by decide +kernel
theorem d_L_restore_8 : decode mL_restore.2.1 8 = .ok (.goto 6, 3) := by decide +kernel
theorem d_L_restore_11 : decode mL_restore.2.1 11 = .ok (.astore_n 2, 1) := by decide +kernel
theorem d_L_restore_12 : decode mL_restore.2.1 12 = .ok (.iconst 1, 1) := by decide +kernel
theorem d_L_restore_13 : decode mL_restore.2.1 13 = .ok (.ireturn, 1) := by decide +kernel
theorem d_L_restore_14 : decode mL_restore.2.1 14 = .ok (.iconst 0, 1) := by decide +kernel
theorem d_L_restore_15 : decode mL_restore.2.1 15 = .ok (.ireturn, 1) := by decide +kernel
theorem hand_L_restore_0 : handOK mL_restore 3 "java/lang/IllegalStateException" 1 := ⟨[], (0, 8, 11, 15), [], "java/lang/IllegalStateException", 2, 1, 12, rfl, fun _ h => absurd h List.not_mem_nil, ⟨by decide, by decide⟩, by decide, aw_t 252 (by decide +kernel) (by decide +kernel), aw_t 338 (by decide +kernel) (by decide +kernel), by decide, Or.inl ⟨2, rfl, d_L_restore_11, rfl⟩, d_L_restore_12, by decide, d_L_restore_13⟩
def T_L_restore (Q : Int32 → Mem → Prop) (v0 : Nat) (v1 : Nat) (M : Mem) : Prop := (kd v0 = 6) ∧ T_X6_restore (fun y3 M2 => (kd v1 = 12) ∧ (vp_in 0 (ln v1)) ∧ ∀ M6 : Mem, M6 = (M2.1, vp_updL M2.2.1 (Int32.toNatClampNeg 0) (Int32.toInt64 y3), M2.2.2) → Q 0 M6) (fun E9 M9 => (E9 = "java/lang/IllegalStateException" ∧ Q 1 M9)) v0 M
set_option maxRecDepth 100000 in
set_option maxHeartbeats 4000000 in
theorem c_L_restore {g : GG} (v0 : Nat) (v1 : Nat) (M : Mem) (Q : Int32 → Mem → Prop) (h : T_L_restore Q v0 v1 M) : CT g 12 mL_restore [.ref (g.1 + v0), .ref (g.1 + v1)] M 1 (oI Q noX) := by
  refine CT_ofH (L := [some (.ref (g.1 + v0)), some (.ref (g.1 + v1)), none]) (by decide) rfl (Nat.le_of_ble_eq_true rfl) (ro_I rfl) rfl ?_
  unfold T_L_restore at h
  refine R_aload_n (pc := 0) d_L_restore_0 rfl rfl ?_
  refine R_iconst (pc := 1) (v := 0) d_L_restore_1 (by decide) ?_
  refine R_aload_n (pc := 2) d_L_restore_2 rfl rfl ?_
  obtain ⟨k1, h⟩ := h
  refine R_callVC (pc := 3) (As := []) (rest := [.int 0, .ref (g.1 + v1)]) (c_X6_restore (g := g) v0 M _ _ h) rfl cal_RL_127 ins_X6_restore sel_X6_restore (cls_at k1 clsOK6) (by decide) (by decide) rfl rfl (Nat.le_of_ble_eq_true rfl) d_L_restore_3 (k_I (fun y3 M2 h => ?_)) ?_
  · try dsimp only at h
    refine R_i2l (pc := 6) d_L_restore_6 ?_
    obtain ⟨k4, h⟩ := h
    obtain ⟨k5, h⟩ := h
    refine R_last (pc := 7) k4 k5 d_L_restore_7 (N_M (fun M6 eM6 => ?_))
    have h := h M6 eM6
    refine R_goto (pc := 8) (tgt := 14) d_L_restore_8 (by decide) ?_
    refine R_iconst (pc := 14) (v := 0) d_L_restore_14 (by decide) ?_
    exact R_retv (pc := 15) d_L_restore_15 h
  · intro E9 M9 h9
    obtain ⟨rfl, h9⟩ := h9
    exact ⟨_, hand_L_restore_0, h9⟩
