/-! X6_use -/
theorem d_X6_use_0 : decode mX6_use.2.1 0 = .ok (.iload_n 1, 1) := by decide +kernel
theorem d_X6_use_1 : decode mX6_use.2.1 1 = .ok (.bipush 8, 2) := by decide +kernel
theorem d_X6_use_3 : decode mX6_use.2.1 3 = .ok (.invokestatic 64, 3) := by decide +kernel
theorem d_X6_use_6 : decode mX6_use.2.1 6 = .ok (.ifCond .ne 14, 3) := by decide +kernel
theorem d_X6_use_9 : decode mX6_use.2.1 9 = .ok (.new 68, 3) := by decide +kernel
theorem d_X6_use_12 : decode mX6_use.2.1 12 = .ok (.dup, 1) := by decide +kernel
theorem d_X6_use_13 : decode mX6_use.2.1 13 = .ok (.ldc_w 317, 3) := by decide +kernel
theorem d_X6_use_16 : decode mX6_use.2.1 16 = .ok (.invokespecial 72, 3) := by decide +kernel
theorem d_X6_use_19 : decode mX6_use.2.1 19 = .ok (.athrow, 1) := by decide +kernel
theorem d_X6_use_20 : decode mX6_use.2.1 20 = .ok (.iconst 0, 1) := by decide +kernel
theorem d_X6_use_21 : decode mX6_use.2.1 21 = .ok (.istore_n 2, 1) := by decide +kernel
theorem d_X6_use_22 : decode mX6_use.2.1 22 = .ok (.iconst 0, 1) := by decide +kernel
theorem d_X6_use_23 : decode mX6_use.2.1 23 = .ok (.istore_n 3, 1) := by decide +kernel
theorem d_X6_use_24 : decode mX6_use.2.1 24 = .ok (.iconst 0, 1) := by decide +kernel
theorem d_X6_use_25 : decode mX6_use.2.1 25 = .ok (.istore 4, 2) := by decide +kernel
theorem d_X6_use_27 : decode mX6_use.2.1 27 = .ok (.iload 4, 2) := by decide +kernel
theorem d_X6_use_29 : decode mX6_use.2.1 29 = .ok (.aload_n 0, 1) := by decide +kernel
theorem d_X6_use_30 : decode mX6_use.2.1 30 = .ok (.getfield 10, 3) := by decide +kernel
theorem d_X6_use_33 : decode mX6_use.2.1 33 = .ok (.getfield 75, 3) := by decide +kernel
theorem d_X6_use_36 : decode mX6_use.2.1 36 = .ok (.getfield 94, 3) := by decide +kernel
theorem d_X6_use_39 : decode mX6_use.2.1 39 = .ok (.if_icmp .ge 34, 3) := by decide +kernel
theorem d_X6_use_42 : decode mX6_use.2.1 42 = .ok (.iload_n 2, 1) := by decide +kernel
theorem d_X6_use_43 : decode mX6_use.2.1 43 = .ok (.aload_n 0, 1) := by decide +kernel
theorem d_X6_use_44 : decode mX6_use.2.1 44 = .ok (.getfield 10, 3) := by decide +kernel
theorem d_X6_use_47 : decode mX6_use.2.1 47 = .ok (.iload 4, 2) := by decide +kernel
theorem d_X6_use_49 : decode mX6_use.2.1 49 = .ok (.iload_n 1, 1) := by decide +kernel
theorem d_X6_use_50 : decode mX6_use.2.1 50 = .ok (.invokevirtual 170, 3) := by decide +kernel
theorem d_X6_use_53 : decode mX6_use.2.1 53 = .ok (.iadd, 1) := by decide +kernel
theorem d_X6_use_54 : decode mX6_use.2.1 54 = .ok (.istore_n 2, 1) := by decide +kernel
theorem d_X6_use_55 : decode mX6_use.2.1 55 = .ok (.iload_n 3, 1) := by decide +kernel
theorem d_X6_use_56 : decode mX6_use.2.1 56 = .ok (.aload_n 0, 1) := by decide +kernel
theorem d_X6_use_57 : decode mX6_use.2.1 57 = .ok (.getfield 10, 3) := by decide +kernel
theorem d_X6_use_60 : decode mX6_use.2.1 60 = .ok (.iload 4, 2) := by decide +kernel
theorem d_X6_use_62 : decode mX6_use.2.1 62 = .ok (.invokevirtual 319, 3) := by decide +kernel
theorem d_X6_use_65 : decode mX6_use.2.1 65 = .ok (.iadd, 1) := by decide +kernel
theorem d_X6_use_66 : decode mX6_use.2.1 66 = .ok (.istore_n 3, 1) := by decide +kernel
theorem d_X6_use_67 : decode mX6_use.2.1 67 = .ok (.iinc 4 1, 3) := by decide +kernel
theorem d_X6_use_70 : decode mX6_use.2.1 70 = .ok (.goto (-43), 3) := by decide +kernel
theorem d_X6_use_73 : decode mX6_use.2.1 73 = .ok (.iload_n 3, 1) := by decide +kernel
theorem d_X6_use_74 : decode mX6_use.2.1 74 = .ok (.ifCond .ne 14, 3) := by decide +kernel
theorem d_X6_use_77 : decode mX6_use.2.1 77 = .ok (.new 312, 3) := by decide +kernel
theorem d_X6_use_80 : decode mX6_use.2.1 80 = .ok (.dup, 1) := by decide +kernel
theorem d_X6_use_81 : decode mX6_use.2.1 81 = .ok (.ldc_w 322, 3) := by decide +kernel
theorem d_X6_use_84 : decode mX6_use.2.1 84 = .ok (.invokespecial 316, 3) := by decide +kernel
theorem d_X6_use_87 : decode mX6_use.2.1 87 = .ok (.athrow, 1) := by decide +kernel
theorem d_X6_use_88 : decode mX6_use.2.1 88 = .ok (.iload_n 2, 1) := by decide +kernel
theorem d_X6_use_89 : decode mX6_use.2.1 89 = .ok (.i2f, 1) := by decide +kernel
theorem d_X6_use_90 : decode mX6_use.2.1 90 = .ok (.iload_n 3, 1) := by decide +kernel
theorem d_X6_use_91 : decode mX6_use.2.1 91 = .ok (.i2f, 1) := by decide +kernel
theorem d_X6_use_92 : decode mX6_use.2.1 92 = .ok (.fdiv, 1) := by decide +kernel
theorem d_X6_use_93 : decode mX6_use.2.1 93 = .ok (.freturn, 1) := by decide +kernel
def T_X6_use_27 (Q : UInt32 → Mem → Prop) (X : String → Mem → Prop) : Nat → Nat → Int32 → Int32 → Int32 → Int32 → Mem → Prop
  | 0, _, _, _, _, _, _ => False
  | n + 1, v0, v1, v2, v3, v4, M => (kd v0 = 6) ∧ (kd (rf v0 0) = 3) ∧ (kd (rf (rf v0 0) 2) = 4) ∧ if (M.1 (rf (rf v0 0) 2) 2) ≤ v4 then (if v3 = 0 then (X "java/lang/ArithmeticException" M) else ((vf_n32 (FP.fdiv (FP.i2f v2) (FP.i2f v3))) ∧ Q (FP.fdiv (FP.i2f v2) (FP.i2f v3)) M)) else (T_X3_countedVisits (fun y6 M5 => ∀ x7 : Int32, x7 = v2 + y6 → T_X3_quotaOf (fun y9 M8 => ∀ x10 : Int32, x10 = v3 + y9 → ∀ x11 : Int32, x11 = v4 + 1 → (T_X6_use_27 Q X n) v0 v1 x7 x10 x11 M8)  (rf v0 0) v4 M5)  (rf v0 0) v4 v1 M)
set_option maxRecDepth 100000 in
set_option maxHeartbeats 4000000 in
theorem B_X6_use_27 {g : GG} (Q : UInt32 → Mem → Prop) (X : String → Mem → Prop) : ∀ (n : Nat) (v0 : Nat) (v1 : Int32) (v2 : Int32) (v3 : Int32) (v4 : Int32) (M : Mem), T_X6_use_27 Q X n v0 v1 v2 v3 v4 M → WP g 11 mX6_use 27 [some (.ref (g.1 + v0)), some (.int v1), some (.int v2), some (.int v3), some (.int v4)] [] M 1 (oF Q X) := by
  intro n
  induction n with
  | zero => intro v0 v1 v2 v3 v4 M h; exact h.elim
  | succ n hκ27 =>
    intro v0 v1 v2 v3 v4 M h
    unfold T_X6_use_27 at h
    refine R_iload (pc := 27) d_X6_use_27 rfl ?_
    refine R_aload_n (pc := 29) d_X6_use_29 rfl rfl ?_
    obtain ⟨k1, h⟩ := h
    refine R_getR (pc := 30) fld_RX6_10 rfl rfl k1 d_X6_use_30 ?_
    obtain ⟨k2, h⟩ := h
    refine R_getR (pc := 33) fld_RX6_75 rfl rfl k2 d_X6_use_33 ?_
    obtain ⟨k3, h⟩ := h
    refine R_getI (pc := 36) fld_RX6_94 rfl rfl k3 d_X6_use_36 ?_
    refine R_icmp_ge (pc := 39) (tgt := 73) d_X6_use_39 (by decide) (fun c => ?_) (fun c => ?_)
    · rw [if_pos c] at h
      refine R_iload_n (pc := 73) d_X6_use_73 rfl rfl ?_
      refine R_if_ne (pc := 74) (tgt := 88) d_X6_use_74 (by decide) (fun c => ?_) (fun c => ?_)
      · rw [if_neg c] at h
        refine R_iload_n (pc := 88) d_X6_use_88 rfl rfl ?_
        refine R_i2f (pc := 89) d_X6_use_89 ?_
        refine R_iload_n (pc := 90) d_X6_use_90 rfl rfl ?_
        refine R_i2f (pc := 91) d_X6_use_91 ?_
        obtain ⟨k4, h⟩ := h
        refine R_fdiv (pc := 92) d_X6_use_92 k4 ?_
        exact R_retv (pc := 93) d_X6_use_93 h
      · rw [if_pos c] at h
        exact R_throwW rfl rfl thr_RX6_312_322_316 (by decide) (by decide) (Nat.le_of_ble_eq_true rfl) d_X6_use_77 d_X6_use_80 d_X6_use_81 d_X6_use_84 d_X6_use_87 h
    · rw [if_neg c] at h
      refine R_iload_n (pc := 42) d_X6_use_42 rfl rfl ?_
      refine R_aload_n (pc := 43) d_X6_use_43 rfl rfl ?_
      refine R_getR (pc := 44) fld_RX6_10 rfl rfl k1 d_X6_use_44 ?_
      refine R_iload (pc := 47) d_X6_use_47 rfl ?_
      refine R_iload_n (pc := 49) d_X6_use_49 rfl rfl ?_
      refine R_callV (pc := 50) (As := [.int v4, .int v1]) (rest := [.int v2]) (c_X3_countedVisits (g := g) (rf v0 0) v4 v1 M _ h) rfl rfl cal_RX6_170 ins_X3_countedVisits sel_X3_countedVisits (cls_at k2 clsOK3) (by decide) (by decide) rfl rfl (Nat.le_of_ble_eq_true rfl) d_X6_use_50 (k_I (fun y6 M5 h => ?_)) (fun _ _ h9 => False.elim h9)
      try dsimp only at h
      refine R_iadd (pc := 53) d_X6_use_53 ?_
      refine N_i (fun x7 ex7 => ?_)
      have h := h x7 ex7
      refine R_istore_n (pc := 54) (L' := [some (.ref (g.1 + v0)), some (.int v1), some (.int x7), some (.int v3), some (.int v4)]) d_X6_use_54 rfl (by decide) rfl ?_
      refine R_iload_n (pc := 55) d_X6_use_55 rfl rfl ?_
      refine R_aload_n (pc := 56) d_X6_use_56 rfl rfl ?_
      refine R_getR (pc := 57) fld_RX6_10 rfl rfl k1 d_X6_use_57 ?_
      refine R_iload (pc := 60) d_X6_use_60 rfl ?_
      refine R_callV (pc := 62) (As := [.int v4]) (rest := [.int v3]) (c_X3_quotaOf (g := g) (rf v0 0) v4 M5 _ h) rfl rfl cal_RX6_319 ins_X3_quotaOf sel_X3_quotaOf (cls_at k2 clsOK3) (by decide) (by decide) rfl rfl (Nat.le_of_ble_eq_true rfl) d_X6_use_62 (k_I (fun y9 M8 h => ?_)) (fun _ _ h9 => False.elim h9)
      try dsimp only at h
      refine R_iadd (pc := 65) d_X6_use_65 ?_
      refine N_i (fun x10 ex10 => ?_)
      have h := h x10 ex10
      refine R_istore_n (pc := 66) (L' := [some (.ref (g.1 + v0)), some (.int v1), some (.int x7), some (.int x10), some (.int v4)]) d_X6_use_66 rfl (by decide) rfl ?_
      obtain ⟨x11, ex11⟩ : ∃ z : Int32, z = v4 + 1 := ⟨_, rfl⟩
      have h := h x11 ex11
      refine R_iinc (pc := 67) (v := x11) (L' := [some (.ref (g.1 + v0)), some (.int v1), some (.int x7), some (.int x10), some (.int x11)]) d_X6_use_67 rfl (by rw [ex11]; rfl) (by decide) rfl ?_
      refine R_goto (pc := 70) (tgt := 27) d_X6_use_70 (by decide) ?_
      exact WP_sub (hκ27 v0 v1 x7 x10 x11 M8 h) (by decide) (ls_s (ls_s (ls_s (ls_s (ls_s ls_0)))))
def T_X6_use (Q : UInt32 → Mem → Prop) (X : String → Mem → Prop) (v0 : Nat) (v1 : Int32) (M : Mem) : Prop := T_X6_isBelow (fun y2 M1 => if y2 = 0 then (X "java/lang/IllegalArgumentException" M1) else ((∃ N : Nat, T_X6_use_27 Q X N v0 v1 0 0 0 M1)))  v1 8 M
set_option maxRecDepth 100000 in
set_option maxHeartbeats 4000000 in
theorem c_X6_use {g : GG} (v0 : Nat) (v1 : Int32) (M : Mem) (Q : UInt32 → Mem → Prop) (X : String → Mem → Prop) (h : T_X6_use Q X v0 v1 M) : CT g 11 mX6_use [.ref (g.1 + v0), .int v1] M 1 (oF Q X) := by
  refine CT_of (L := [some (.ref (g.1 + v0)), some (.int v1), none, none, none]) (by decide) rfl (Nat.le_of_ble_eq_true rfl) (ro_F rfl) rfl ?_
  unfold T_X6_use at h
  refine R_iload_n (pc := 0) d_X6_use_0 rfl rfl ?_
  refine R_bipush (pc := 1) (v := 8) d_X6_use_1 (by decide) ?_
  refine R_callS (pc := 3) (As := [.int v1, .int 8]) (rest := []) (c_X6_isBelow (g := g) v1 8 M _ h) rfl rfl cal_RX6_64 sta_X6_isBelow (by decide) (by decide) rfl rfl (Nat.le_of_ble_eq_true rfl) d_X6_use_3 (k_Z (fun y2 M1 h => ?_)) (fun _ _ h9 => False.elim h9)
  try dsimp only at h
  refine R_if_ne (pc := 6) (tgt := 20) d_X6_use_6 (by decide) (fun c => ?_) (fun c => ?_)
  · rw [if_neg c] at h
    refine R_iconst (pc := 20) (v := 0) d_X6_use_20 (by decide) ?_
    refine R_istore_n (pc := 21) (L' := [some (.ref (g.1 + v0)), some (.int v1), some (.int 0), none, none]) d_X6_use_21 rfl (by decide) rfl ?_
    refine R_iconst (pc := 22) (v := 0) d_X6_use_22 (by decide) ?_
    refine R_istore_n (pc := 23) (L' := [some (.ref (g.1 + v0)), some (.int v1), some (.int 0), some (.int 0), none]) d_X6_use_23 rfl (by decide) rfl ?_
    refine R_iconst (pc := 24) (v := 0) d_X6_use_24 (by decide) ?_
    refine R_istore (pc := 25) (L' := [some (.ref (g.1 + v0)), some (.int v1), some (.int 0), some (.int 0), some (.int 0)]) d_X6_use_25 (by decide) rfl ?_
    obtain ⟨N, h⟩ := h
    exact WP_sub (B_X6_use_27 Q X N v0 v1 0 0 0 M1 h) (by decide) (ls_s (ls_s (ls_s (ls_s (ls_s ls_0)))))
  · rw [if_pos c] at h
    exact R_throwW rfl rfl thr_RX6_68_317_72 (by decide) (by decide) (Nat.le_of_ble_eq_true rfl) d_X6_use_9 d_X6_use_12 d_X6_use_13 d_X6_use_16 d_X6_use_19 h
/-! X6_feed -/
theorem d_X6_feed_0 : decode mX6_feed.2.1 0 = .ok (.aload_n 0, 1) := by decide +kernel
theorem d_X6_feed_1 : decode mX6_feed.2.1 1 = .ok (.getfield 60, 3) := by decide +kernel
theorem d_X6_feed_4 : decode mX6_feed.2.1 4 = .ok (.invokevirtual 324, 3) := by decide +kernel
theorem d_X6_feed_7 : decode mX6_feed.2.1 7 = .ok (.ifCond .eq 14, 3) := by decide +kernel
theorem d_X6_feed_10 : decode mX6_feed.2.1 10 = .ok (.new 82, 3) := by decide +kernel
theorem d_X6_feed_13 : decode mX6_feed.2.1 13 = .ok (.dup, 1) := by decide +kernel
theorem d_X6_feed_14 : decode mX6_feed.2.1 14 = .ok (.ldc_w 325, 3) := by decide +kernel
theorem d_X6_feed_17 : decode mX6_feed.2.1 17 = .ok (.invokespecial 86, 3) := by decide +kernel
theorem d_X6_feed_20 : decode mX6_feed.2.1 20 = .ok (.athrow, 1) := by decide +kernel
theorem d_X6_feed_21 : decode mX6_feed.2.1 21 = .ok (.aload_n 0, 1) := by decide +kernel
theorem d_X6_feed_22 : decode mX6_feed.2.1 22 = .ok (.getfield 60, 3) := by decide +kernel
theorem d_X6_feed_25 : decode mX6_feed.2.1 25 = .ok (.iload_n 1, 1) := by decide +kernel
theorem d_X6_feed_26 : decode mX6_feed.2.1 26 = .ok (.invokevirtual 327, 3) := by decide +kernel
theorem d_X6_feed_29 : decode mX6_feed.2.1 29 = .ok (.ireturn, 1) := by decide +kernel
def T_X6_feed (Q : Int32 → Mem → Prop) (X : String → Mem → Prop) (v0 : Nat) (v1 : Int32) (M : Mem) : Prop := (kd v0 = 6) ∧ (kd (rf v0 7) = 5) ∧ T_X5_isFull (fun y4 M3 => if y4 = 0 then (T_X5_append (fun y6 M5 => Q y6 M5)  (rf v0 7) v1 M3) else (X "java/lang/IllegalStateException" M3))  (rf v0 7) M
set_option maxRecDepth 100000 in
set_option maxHeartbeats 4000000 in
theorem c_X6_feed {g : GG} (v0 : Nat) (v1 : Int32) (M : Mem) (Q : Int32 → Mem → Prop) (X : String → Mem → Prop) (h : T_X6_feed Q X v0 v1 M) : CT g 10 mX6_feed [.ref (g.1 + v0), .int v1] M 1 (oI Q X) := by
  refine CT_of (L := [some (.ref (g.1 + v0)), some (.int v1)]) (by decide) rfl (Nat.le_of_ble_eq_true rfl) (ro_I rfl) rfl ?_
  unfold T_X6_feed at h
  refine R_aload_n (pc := 0) d_X6_feed_0 rfl rfl ?_
  obtain ⟨k1, h⟩ := h
  refine R_getR (pc := 1) fld_RX6_60 rfl rfl k1 d_X6_feed_1 ?_
  obtain ⟨k2, h⟩ := h
  refine R_callV (pc := 4) (As := []) (rest := []) (c_X5_isFull (g := g) (rf v0 7) M _ h) rfl rfl cal_RX6_324 ins_X5_isFull sel_X5_isFull (cls_at k2 clsOK5) (by decide) (by decide) rfl rfl (Nat.le_of_ble_eq_true rfl) d_X6_feed_4 (k_Z (fun y4 M3 h => ?_)) (fun _ _ h9 => False.elim h9)
  try dsimp only at h
  refine R_if_eq (pc := 7) (tgt := 21) d_X6_feed_7 (by decide) (fun c => ?_) (fun c => ?_)
  · rw [if_pos c] at h
    refine R_aload_n (pc := 21) d_X6_feed_21 rfl rfl ?_
    refine R_getR (pc := 22) fld_RX6_60 rfl rfl k1 d_X6_feed_22 ?_
    refine R_iload_n (pc := 25) d_X6_feed_25 rfl rfl ?_
    refine R_callV (pc := 26) (As := [.int v1]) (rest := []) (c_X5_append (g := g) (rf v0 7) v1 M3 _ h) rfl rfl cal_RX6_327 ins_X5_append sel_X5_append (cls_at k2 clsOK5) (by decide) (by decide) rfl rfl (Nat.le_of_ble_eq_true rfl) d_X6_feed_26 (k_I (fun y6 M5 h => ?_)) (fun _ _ h9 => False.elim h9)
    try dsimp only at h
    exact R_retv (pc := 29) d_X6_feed_29 h
  · rw [if_neg c] at h
    exact R_throwW rfl rfl thr_RX6_82_325_86 (by decide) (by decide) (Nat.le_of_ble_eq_true rfl) d_X6_feed_10 d_X6_feed_13 d_X6_feed_14 d_X6_feed_17 d_X6_feed_20 h
/-! X6_isBookedByCommand -/
theorem d_X6_isBookedByCommand_0 : decode mX6_isBookedByCommand.2.1 0 = .ok (.aload_n 1, 1) := by decide +kernel
theorem d_X6_isBookedByCommand_1 : decode mX6_isBookedByCommand.2.1 1 = .ok (.iconst 1, 1) := by decide +kernel
theorem d_X6_isBookedByCommand_2 : decode mX6_isBookedByCommand.2.1 2 = .ok (.iaload, 1) := by decide +kernel
theorem d_X6_isBookedByCommand_3 : decode mX6_isBookedByCommand.2.1 3 = .ok (.istore_n 3, 1) := by decide +kernel
theorem d_X6_isBookedByCommand_4 : decode mX6_isBookedByCommand.2.1 4 = .ok (.aload_n 1, 1) := by decide +kernel
theorem d_X6_isBookedByCommand_5 : decode mX6_isBookedByCommand.2.1 5 = .ok (.iconst 2, 1) := by decide +kernel
theorem d_X6_isBookedByCommand_6 : decode mX6_isBookedByCommand.2.1 6 = .ok (.iaload, 1) := by decide +kernel
theorem d_X6_isBookedByCommand_7 : decode mX6_isBookedByCommand.2.1 7 = .ok (.istore 4, 2) := by decide +kernel
theorem d_X6_isBookedByCommand_9 : decode mX6_isBookedByCommand.2.1 9 = .ok (.aload_n 1, 1) := by decide +kernel
theorem d_X6_isBookedByCommand_10 : decode mX6_isBookedByCommand.2.1 10 = .ok (.iconst 3, 1) := by decide +kernel
theorem d_X6_isBookedByCommand_11 : decode mX6_isBookedByCommand.2.1 11 = .ok (.iaload, 1) := by decide +kernel
theorem d_X6_isBookedByCommand_12 : decode mX6_isBookedByCommand.2.1 12 = .ok (.istore 5, 2) := by decide +kernel
theorem d_X6_isBookedByCommand_14 : decode mX6_isBookedByCommand.2.1 14 = .ok (.aload_n 1, 1) := by decide +kernel
theorem d_X6_isBookedByCommand_15 : decode mX6_isBookedByCommand.2.1 15 = .ok (.iconst 4, 1) := by decide +kernel
theorem d_X6_isBookedByCommand_16 : decode mX6_isBookedByCommand.2.1 16 = .ok (.iaload, 1) := by decide +kernel
theorem d_X6_isBookedByCommand_17 : decode mX6_isBookedByCommand.2.1 17 = .ok (.istore 6, 2) := by decide +kernel
theorem d_X6_isBookedByCommand_19 : decode mX6_isBookedByCommand.2.1 19 = .ok (.aload_n 0, 1) := by decide +kernel
theorem d_X6_isBookedByCommand_20 : decode mX6_isBookedByCommand.2.1 20 = .ok (.iload_n 3, 1) := by decide +kernel
theorem d_X6_isBookedByCommand_21 : decode mX6_isBookedByCommand.2.1 21 = .ok (.iload 4, 2) := by decide +kernel
theorem d_X6_isBookedByCommand_23 : decode mX6_isBookedByCommand.2.1 23 = .ok (.iload 5, 2) := by decide +kernel
theorem d_X6_isBookedByCommand_25 : decode mX6_isBookedByCommand.2.1 25 = .ok (.iload 6, 2) := by decide +kernel
theorem d_X6_isBookedByCommand_27 : decode mX6_isBookedByCommand.2.1 27 = .ok (.invokevirtual 181, 3) := by decide +kernel
theorem d_X6_isBookedByCommand_30 : decode mX6_isBookedByCommand.2.1 30 = .ok (.ifCond .eq 5, 3) := by decide +kernel
theorem d_X6_isBookedByCommand_33 : decode mX6_isBookedByCommand.2.1 33 = .ok (.iconst 0, 1) := by decide +kernel
theorem d_X6_isBookedByCommand_34 : decode mX6_isBookedByCommand.2.1 34 = .ok (.ireturn, 1) := by decide +kernel
theorem d_X6_isBookedByCommand_35 : decode mX6_isBookedByCommand.2.1 35 = .ok (.aload_n 0, 1) := by decide +kernel
theorem d_X6_isBookedByCommand_36 : decode mX6_isBookedByCommand.2.1 36 = .ok (.getfield 35, 3) := by decide +kernel
theorem d_X6_isBookedByCommand_39 : decode mX6_isBookedByCommand.2.1 39 = .ok (.iload_n 3, 1) := by decide +kernel
theorem d_X6_isBookedByCommand_40 : decode mX6_isBookedByCommand.2.1 40 = .ok (.iload 4, 2) := by decide +kernel
theorem d_X6_isBookedByCommand_42 : decode mX6_isBookedByCommand.2.1 42 = .ok (.iload 5, 2) := by decide +kernel
theorem d_X6_isBookedByCommand_44 : decode mX6_isBookedByCommand.2.1 44 = .ok (.iload 6, 2) := by decide +kernel
theorem d_X6_isBookedByCommand_46 : decode mX6_isBookedByCommand.2.1 46 = .ok (.invokevirtual 185, 3) := by decide +kernel
theorem d_X6_isBookedByCommand_49 : decode mX6_isBookedByCommand.2.1 49 = .ok (.istore 7, 2) := by decide +kernel
theorem d_X6_isBookedByCommand_51 : decode mX6_isBookedByCommand.2.1 51 = .ok (.iload 7, 2) := by decide +kernel
theorem d_X6_isBookedByCommand_53 : decode mX6_isBookedByCommand.2.1 53 = .ok (.ifCond .eq 46, 3) := by decide +kernel
theorem d_X6_isBookedByCommand_56 : decode mX6_isBookedByCommand.2.1 56 = .ok (.aload_n 0, 1) := by decide +kernel
theorem d_X6_isBookedByCommand_57 : decode mX6_isBookedByCommand.2.1 57 = .ok (.getfield 53, 3) := by decide +kernel
theorem d_X6_isBookedByCommand_60 : decode mX6_isBookedByCommand.2.1 60 = .ok (.invokevirtual 188, 3) := by decide +kernel
theorem d_X6_isBookedByCommand_63 : decode mX6_isBookedByCommand.2.1 63 = .ok (.aload_n 0, 1) := by decide +kernel
theorem d_X6_isBookedByCommand_64 : decode mX6_isBookedByCommand.2.1 64 = .ok (.getfield 53, 3) := by decide +kernel
theorem d_X6_isBookedByCommand_67 : decode mX6_isBookedByCommand.2.1 67 = .ok (.invokevirtual 90, 3) := by decide +kernel
theorem d_X6_isBookedByCommand_70 : decode mX6_isBookedByCommand.2.1 70 = .ok (.astore 8, 2) := by decide +kernel
theorem d_X6_isBookedByCommand_72 : decode mX6_isBookedByCommand.2.1 72 = .ok (.aload 8, 2) := by decide +kernel
theorem d_X6_isBookedByCommand_74 : decode mX6_isBookedByCommand.2.1 74 = .ok (.iconst 0, 1) := by decide +kernel
theorem d_X6_isBookedByCommand_75 : decode mX6_isBookedByCommand.2.1 75 = .ok (.bipush 99, 2) := by decide +kernel
theorem d_X6_isBookedByCommand_77 : decode mX6_isBookedByCommand.2.1 77 = .ok (.iastore, 1) := by decide +kernel
theorem d_X6_isBookedByCommand_78 : decode mX6_isBookedByCommand.2.1 78 = .ok (.aload 8, 2) := by decide +kernel
theorem d_X6_isBookedByCommand_80 : decode mX6_isBookedByCommand.2.1 80 = .ok (.iconst 1, 1) := by decide +kernel
theorem d_X6_isBookedByCommand_81 : decode mX6_isBookedByCommand.2.1 81 = .ok (.iload_n 2, 1) := by decide +kernel
theorem d_X6_isBookedByCommand_82 : decode mX6_isBookedByCommand.2.1 82 = .ok (.iastore, 1) := by decide +kernel
theorem d_X6_isBookedByCommand_83 : decode mX6_isBookedByCommand.2.1 83 = .ok (.aload_n 0, 1) := by decide +kernel
theorem d_X6_isBookedByCommand_84 : decode mX6_isBookedByCommand.2.1 84 = .ok (.iload_n 3, 1) := by decide +kernel
theorem d_X6_isBookedByCommand_85 : decode mX6_isBookedByCommand.2.1 85 = .ok (.iload 5, 2) := by decide +kernel
theorem d_X6_isBookedByCommand_87 : decode mX6_isBookedByCommand.2.1 87 = .ok (.iconst 4, 1) := by decide +kernel
theorem d_X6_isBookedByCommand_88 : decode mX6_isBookedByCommand.2.1 88 = .ok (.imul, 1) := by decide +kernel
theorem d_X6_isBookedByCommand_89 : decode mX6_isBookedByCommand.2.1 89 = .ok (.iload 6, 2) := by decide +kernel
theorem d_X6_isBookedByCommand_91 : decode mX6_isBookedByCommand.2.1 91 = .ok (.iadd, 1) := by decide +kernel
theorem d_X6_isBookedByCommand_92 : decode mX6_isBookedByCommand.2.1 92 = .ok (.iload 7, 2) := by decide +kernel
theorem d_X6_isBookedByCommand_94 : decode mX6_isBookedByCommand.2.1 94 = .ok (.invokevirtual 191, 3) := by decide +kernel
theorem d_X6_isBookedByCommand_97 : decode mX6_isBookedByCommand.2.1 97 = .ok (.iconst 0, 1) := by decide +kernel
theorem d_X6_isBookedByCommand_98 : decode mX6_isBookedByCommand.2.1 98 = .ok (.ireturn, 1) := by decide +kernel
theorem d_X6_isBookedByCommand_99 : decode mX6_isBookedByCommand.2.1 99 = .ok (.aload_n 0, 1) := by decide +kernel
theorem d_X6_isBookedByCommand_100 : decode mX6_isBookedByCommand.2.1 100 = .ok (.getfield 44, 3) := by decide +kernel
theorem d_X6_isBookedByCommand_103 : decode mX6_isBookedByCommand.2.1 103 = .ok (.iload_n 3, 1) := by decide +kernel
theorem d_X6_isBookedByCommand_104 : decode mX6_isBookedByCommand.2.1 104 = .ok (.iload 4, 2) := by decide +kernel
theorem d_X6_isBookedByCommand_106 : decode mX6_isBookedByCommand.2.1 106 = .ok (.iload 5, 2) := by decide +kernel
theorem d_X6_isBookedByCommand_108 : decode mX6_isBookedByCommand.2.1 108 = .ok (.iconst 4, 1) := by decide +kernel
theorem d_X6_isBookedByCommand_109 : decode mX6_isBookedByCommand.2.1 109 = .ok (.imul, 1) := by decide +kernel
theorem d_X6_isBookedByCommand_110 : decode mX6_isBookedByCommand.2.1 110 = .ok (.iload 6, 2) := by decide +kernel
theorem d_X6_isBookedByCommand_112 : decode mX6_isBookedByCommand.2.1 112 = .ok (.iadd, 1) := by decide +kernel
theorem d_X6_isBookedByCommand_113 : decode mX6_isBookedByCommand.2.1 113 = .ok (.invokevirtual 200, 3) := by decide +kernel
theorem d_X6_isBookedByCommand_116 : decode mX6_isBookedByCommand.2.1 116 = .ok (.pop, 1) := by decide +kernel
theorem d_X6_isBookedByCommand_117 : decode mX6_isBookedByCommand.2.1 117 = .ok (.iconst 1, 1) := by decide +kernel
theorem d_X6_isBookedByCommand_118 : decode mX6_isBookedByCommand.2.1 118 = .ok (.ireturn, 1) := by decide +kernel
def T_X6_isBookedByCommand (Q : Int32 → Mem → Prop) (v0 : Nat) (v1 : Nat) (v2 : Int32) (M : Mem) : Prop := (kd v1 = 9) ∧ (vp_in 1 (ln v1)) ∧ ∀ x3 : Int32, x3 = M.1 v1 (Int32.toNatClampNeg 1) → (vp_in 2 (ln v1)) ∧ ∀ x5 : Int32, x5 = M.1 v1 (Int32.toNatClampNeg 2) → (vp_in 3 (ln v1)) ∧ ∀ x7 : Int32, x7 = M.1 v1 (Int32.toNatClampNeg 3) → (vp_in 4 (ln v1)) ∧ ∀ x9 : Int32, x9 = M.1 v1 (Int32.toNatClampNeg 4) → (kd v0 = 6) ∧ T_X6_faultOfBooking (fun y12 M11 => if y12 = 0 then ((kd (rf v0 4) = 2) ∧ T_X2_reasonFor (fun y15 M14 => if y15 = 0 then ((kd (rf v0 5) = 0) ∧ T_X0_enterVisit (fun y18 M17 => ((1 : Int32) = 0 ∨ (1 : Int32) = 1) ∧ Q 1 M17)  (rf v0 5) x3 x5 ((x7 * 4) + x9) M14) else ((kd (rf v0 6) = 4) ∧ T_X4_clear (fun M20 => T_X4_addRow (fun y22 M21 => (kd y22 = 9) ∧ (vp_in 0 (ln y22)) ∧ ∀ M25 : Mem, M25 = mset M21 y22 (Int32.toNatClampNeg 0) 99 → (vp_in 1 (ln y22)) ∧ ∀ M27 : Mem, M27 = mset M25 y22 (Int32.toNatClampNeg 1) v2 → T_X6_writeReport (fun M28 => ((0 : Int32) = 0 ∨ (0 : Int32) = 1) ∧ Q 0 M28)  v0 x3 ((x7 * 4) + x9) y15 M27)  (rf v0 6) M20)  (rf v0 6) M14))  (rf v0 4) x3 x5 x7 x9 M11) else (((0 : Int32) = 0 ∨ (0 : Int32) = 1) ∧ Q 0 M11))  v0 x3 x5 x7 x9 M
set_option maxRecDepth 100000 in
set_option maxHeartbeats 4000000 in
theorem c_X6_isBookedByCommand {g : GG} (v0 : Nat) (v1 : Nat) (v2 : Int32) (M : Mem) (Q : Int32 → Mem → Prop) (h : T_X6_isBookedByCommand Q v0 v1 v2 M) : CT g 14 mX6_isBookedByCommand [.ref (g.1 + v0), .ref (g.1 + v1), .int v2] M 0 (oZ Q noX) := by
  refine CT_of (L := [some (.ref (g.1 + v0)), some (.ref (g.1 + v1)), some (.int v2), none, none, none, none, none, none]) (by decide) rfl (Nat.le_of_ble_eq_true rfl) (ro_Z rfl) rfl ?_
  unfold T_X6_isBookedByCommand at h
  refine R_aload_n (pc := 0) d_X6_isBookedByCommand_0 rfl rfl ?_
  refine R_iconst (pc := 1) (v := 1) d_X6_isBookedByCommand_1 (by decide) ?_
  obtain ⟨k1, h⟩ := h
  obtain ⟨k2, h⟩ := h
  refine R_iald (pc := 2) k1 k2 d_X6_isBookedByCommand_2 ?_
  refine N_i (fun x3 ex3 => ?_)
  have h := h x3 ex3
  refine R_istore_n (pc := 3) (L' := [some (.ref (g.1 + v0)), some (.ref (g.1 + v1)), some (.int v2), some (.int x3), none, none, none, none, none]) d_X6_isBookedByCommand_3 rfl (by decide) rfl ?_
  refine R_aload_n (pc := 4) d_X6_isBookedByCommand_4 rfl rfl ?_
  refine R_iconst (pc := 5) (v := 2) d_X6_isBookedByCommand_5 (by decide) ?_
  obtain ⟨k4, h⟩ := h
  refine R_iald (pc := 6) k1 k4 d_X6_isBookedByCommand_6 ?_
  refine N_i (fun x5 ex5 => ?_)
  have h := h x5 ex5
  refine R_istore (pc := 7) (L' := [some (.ref (g.1 + v0)), some (.ref (g.1 + v1)), some (.int v2), some (.int x3), some (.int x5), none, none, none, none]) d_X6_isBookedByCommand_7 (by decide) rfl ?_
  refine R_aload_n (pc := 9) d_X6_isBookedByCommand_9 rfl rfl ?_
  refine R_iconst (pc := 10) (v := 3) d_X6_isBookedByCommand_10 (by decide) ?_
  obtain ⟨k6, h⟩ := h
  refine R_iald (pc := 11) k1 k6 d_X6_isBookedByCommand_11 ?_
  refine N_i (fun x7 ex7 => ?_)
  have h := h x7 ex7
  refine R_istore (pc := 12) (L' := [some (.ref (g.1 + v0)), some (.ref (g.1 + v1)), some (.int v2), some (.int x3), some (.int x5), some (.int x7), none, none, none]) d_X6_isBookedByCommand_12 (by decide) rfl ?_
  refine R_aload_n (pc := 14) d_X6_isBookedByCommand_14 rfl rfl ?_
  refine R_iconst (pc := 15) (v := 4) d_X6_isBookedByCommand_15 (by decide) ?_
  obtain ⟨k8, h⟩ := h
  refine R_iald (pc := 16) k1 k8 d_X6_isBookedByCommand_16 ?_
  refine N_i (fun x9 ex9 => ?_)
  have h := h x9 ex9
  refine R_istore (pc := 17) (L' := [some (.ref (g.1 + v0)), some (.ref (g.1 + v1)), some (.int v2), some (.int x3), some (.int x5), some (.int x7), some (.int x9), none, none]) d_X6_isBookedByCommand_17 (by decide) rfl ?_
  refine R_aload_n (pc := 19) d_X6_isBookedByCommand_19 rfl rfl ?_
  refine R_iload_n (pc := 20) d_X6_isBookedByCommand_20 rfl rfl ?_
  refine R_iload (pc := 21) d_X6_isBookedByCommand_21 rfl ?_
  refine R_iload (pc := 23) d_X6_isBookedByCommand_23 rfl ?_
  refine R_iload (pc := 25) d_X6_isBookedByCommand_25 rfl ?_
  obtain ⟨k10, h⟩ := h
  refine R_callV (pc := 27) (As := [.int x3, .int x5, .int x7, .int x9]) (rest := []) (c_X6_faultOfBooking (g := g) v0 x3 x5 x7 x9 M _ h) rfl rfl cal_RX6_181 ins_X6_faultOfBooking sel_X6_faultOfBooking (cls_at k10 clsOK6) (by decide) (by decide) rfl rfl (Nat.le_of_ble_eq_true rfl) d_X6_isBookedByCommand_27 (k_I (fun y12 M11 h => ?_)) (fun _ _ h9 => False.elim h9)
  try dsimp only at h
  refine R_if_eq (pc := 30) (tgt := 35) d_X6_isBookedByCommand_30 (by decide) (fun c => ?_) (fun c => ?_)
  · rw [if_pos c] at h
    refine R_aload_n (pc := 35) d_X6_isBookedByCommand_35 rfl rfl ?_
    refine R_getR (pc := 36) fld_RX6_35 rfl rfl k10 d_X6_isBookedByCommand_36 ?_
    refine R_iload_n (pc := 39) d_X6_isBookedByCommand_39 rfl rfl ?_
    refine R_iload (pc := 40) d_X6_isBookedByCommand_40 rfl ?_
    refine R_iload (pc := 42) d_X6_isBookedByCommand_42 rfl ?_
    refine R_iload (pc := 44) d_X6_isBookedByCommand_44 rfl ?_
    obtain ⟨k13, h⟩ := h
    refine R_callV (pc := 46) (As := [.int x3, .int x5, .int x7, .int x9]) (rest := []) (c_X2_reasonFor (g := g) (rf v0 4) x3 x5 x7 x9 M11 _ h) rfl rfl cal_RX6_185 ins_X2_reasonFor sel_X2_reasonFor (cls_at k13 clsOK2) (by decide) (by decide) rfl rfl (Nat.le_of_ble_eq_true rfl) d_X6_isBookedByCommand_46 (k_I (fun y15 M14 h => ?_)) (fun _ _ h9 => False.elim h9)
    try dsimp only at h
    refine R_istore (pc := 49) (L' := [some (.ref (g.1 + v0)), some (.ref (g.1 + v1)), some (.int v2), some (.int x3), some (.int x5), some (.int x7), some (.int x9), some (.int y15), none]) d_X6_isBookedByCommand_49 (by decide) rfl ?_
    refine R_iload (pc := 51) d_X6_isBookedByCommand_51 rfl ?_
    refine R_if_eq (pc := 53) (tgt := 99) d_X6_isBookedByCommand_53 (by decide) (fun c => ?_) (fun c => ?_)
    · rw [if_pos c] at h
      refine R_aload_n (pc := 99) d_X6_isBookedByCommand_99 rfl rfl ?_
      refine R_getR (pc := 100) fld_RX6_44 rfl rfl k10 d_X6_isBookedByCommand_100 ?_
      refine R_iload_n (pc := 103) d_X6_isBookedByCommand_103 rfl rfl ?_
      refine R_iload (pc := 104) d_X6_isBookedByCommand_104 rfl ?_
      refine R_iload (pc := 106) d_X6_isBookedByCommand_106 rfl ?_
      refine R_iconst (pc := 108) (v := 4) d_X6_isBookedByCommand_108 (by decide) ?_
      refine R_imul (pc := 109) d_X6_isBookedByCommand_109 ?_
      refine R_iload (pc := 110) d_X6_isBookedByCommand_110 rfl ?_
      refine R_iadd (pc := 112) d_X6_isBookedByCommand_112 ?_
      obtain ⟨k16, h⟩ := h
      refine R_callV (pc := 113) (As := [.int x3, .int x5, .int ((x7 * 4) + x9)]) (rest := []) (c_X0_enterVisit (g := g) (rf v0 5) x3 x5 ((x7 * 4) + x9) M14 _ h) rfl rfl cal_RX6_200 ins_X0_enterVisit sel_X0_enterVisit (cls_at k16 clsOK0) (by decide) (by decide) rfl rfl (Nat.le_of_ble_eq_true rfl) d_X6_isBookedByCommand_113 (k_I (fun y18 M17 h => ?_)) (fun _ _ h9 => False.elim h9)
      try dsimp only at h
      refine R_pop (pc := 116) d_X6_isBookedByCommand_116 rfl ?_
      refine R_iconst (pc := 117) (v := 1) d_X6_isBookedByCommand_117 (by decide) ?_
      exact R_retv (pc := 118) d_X6_isBookedByCommand_118 h
    · rw [if_neg c] at h
      refine R_aload_n (pc := 56) d_X6_isBookedByCommand_56 rfl rfl ?_
      refine R_getR (pc := 57) fld_RX6_53 rfl rfl k10 d_X6_isBookedByCommand_57 ?_
      obtain ⟨k19, h⟩ := h
      refine R_callV (pc := 60) (As := []) (rest := []) (c_X4_clear (g := g) (rf v0 6) M14 _ h) rfl rfl cal_RX6_188 ins_X4_clear sel_X4_clear (cls_at k19 clsOK4) (by decide) (by decide) rfl rfl (Nat.le_of_ble_eq_true rfl) d_X6_isBookedByCommand_60 (k_V (fun M20 h => ?_)) (fun _ _ h9 => False.elim h9)
      try dsimp only at h
      refine R_aload_n (pc := 63) d_X6_isBookedByCommand_63 rfl rfl ?_
      refine R_getR (pc := 64) fld_RX6_53 rfl rfl k10 d_X6_isBookedByCommand_64 ?_
      refine R_callV (pc := 67) (As := []) (rest := []) (c_X4_addRow (g := g) (rf v0 6) M20 _ h) rfl rfl cal_RX6_90 ins_X4_addRow sel_X4_addRow (cls_at k19 clsOK4) (by decide) (by decide) rfl rfl (Nat.le_of_ble_eq_true rfl) d_X6_isBookedByCommand_67 (k_R (fun y22 M21 h => ?_)) (fun _ _ h9 => False.elim h9)
      try dsimp only at h
      refine R_astore (pc := 70) (L' := [some (.ref (g.1 + v0)), some (.ref (g.1 + v1)), some (.int v2), some (.int x3), some (.int x5), some (.int x7), some (.int x9), some (.int y15), some (.ref (g.1 + y22))]) d_X6_isBookedByCommand_70 (by decide) rfl ?_
      refine R_aload (pc := 72) d_X6_isBookedByCommand_72 rfl ?_
      refine R_iconst (pc := 74) (v := 0) d_X6_isBookedByCommand_74 (by decide) ?_
      refine R_bipush (pc := 75) (v := 99) d_X6_isBookedByCommand_75 (by decide) ?_
      obtain ⟨k23, h⟩ := h
      obtain ⟨k24, h⟩ := h
      refine R_iast (pc := 77) k23 k24 d_X6_isBookedByCommand_77 (N_M (fun M25 eM25 => ?_))
      have h := h M25 eM25
      refine R_aload (pc := 78) d_X6_isBookedByCommand_78 rfl ?_
      refine R_iconst (pc := 80) (v := 1) d_X6_isBookedByCommand_80 (by decide) ?_
      refine R_iload_n (pc := 81) d_X6_isBookedByCommand_81 rfl rfl ?_
      obtain ⟨k26, h⟩ := h
      refine R_iast (pc := 82) k23 k26 d_X6_isBookedByCommand_82 (N_M (fun M27 eM27 => ?_))
      have h := h M27 eM27
      refine R_aload_n (pc := 83) d_X6_isBookedByCommand_83 rfl rfl ?_
      refine R_iload_n (pc := 84) d_X6_isBookedByCommand_84 rfl rfl ?_
      refine R_iload (pc := 85) d_X6_isBookedByCommand_85 rfl ?_
      refine R_iconst (pc := 87) (v := 4) d_X6_isBookedByCommand_87 (by decide) ?_
      refine R_imul (pc := 88) d_X6_isBookedByCommand_88 ?_
      refine R_iload (pc := 89) d_X6_isBookedByCommand_89 rfl ?_
      refine R_iadd (pc := 91) d_X6_isBookedByCommand_91 ?_
      refine R_iload (pc := 92) d_X6_isBookedByCommand_92 rfl ?_
      refine R_callV (pc := 94) (As := [.int x3, .int ((x7 * 4) + x9), .int y15]) (rest := []) (c_X6_writeReport (g := g) v0 x3 ((x7 * 4) + x9) y15 M27 _ h) rfl rfl cal_RX6_191 ins_X6_writeReport sel_X6_writeReport (cls_at k10 clsOK6) (by decide) (by decide) rfl rfl (Nat.le_of_ble_eq_true rfl) d_X6_isBookedByCommand_94 (k_V (fun M28 h => ?_)) (fun _ _ h9 => False.elim h9)
      try dsimp only at h
      refine R_iconst (pc := 97) (v := 0) d_X6_isBookedByCommand_97 (by decide) ?_
      exact R_retv (pc := 98) d_X6_isBookedByCommand_98 h
  · rw [if_neg c] at h
    refine R_iconst (pc := 33) (v := 0) d_X6_isBookedByCommand_33 (by decide) ?_
    exact R_retv (pc := 34) d_X6_isBookedByCommand_34 h
/-! X6_isCarriedOut -/
theorem d_X6_isCarriedOut_0 : decode mX6_isCarriedOut.2.1 0 = .ok (.aload_n 0, 1) := by decide +kernel
theorem d_X6_isCarriedOut_1 : decode mX6_isCarriedOut.2.1 1 = .ok (.getfield 60, 3) := by decide +kernel
theorem d_X6_isCarriedOut_4 : decode mX6_isCarriedOut.2.1 4 = .ok (.getfield 340, 3) := by decide +kernel
theorem d_X6_isCarriedOut_7 : decode mX6_isCarriedOut.2.1 7 = .ok (.getfield 128, 3) := by decide +kernel
theorem d_X6_isCarriedOut_10 : decode mX6_isCarriedOut.2.1 10 = .ok (.iload_n 1, 1) := by decide +kernel
theorem d_X6_isCarriedOut_11 : decode mX6_isCarriedOut.2.1 11 = .ok (.aaload, 1) := by decide +kernel
theorem d_X6_isCarriedOut_12 : decode mX6_isCarriedOut.2.1 12 = .ok (.astore_n 2, 1) := by decide +kernel
theorem d_X6_isCarriedOut_13 : decode mX6_isCarriedOut.2.1 13 = .ok (.aload_n 2, 1) := by decide +kernel
theorem d_X6_isCarriedOut_14 : decode mX6_isCarriedOut.2.1 14 = .ok (.iconst 1, 1) := by decide +kernel
theorem d_X6_isCarriedOut_15 : decode mX6_isCarriedOut.2.1 15 = .ok (.iaload, 1) := by decide +kernel
theorem d_X6_isCarriedOut_16 : decode mX6_isCarriedOut.2.1 16 = .ok (.istore_n 3, 1) := by decide +kernel
theorem d_X6_isCarriedOut_17 : decode mX6_isCarriedOut.2.1 17 = .ok (.aload_n 2, 1) := by decide +kernel
theorem d_X6_isCarriedOut_18 : decode mX6_isCarriedOut.2.1 18 = .ok (.iconst 0, 1) := by decide +kernel
theorem d_X6_isCarriedOut_19 : decode mX6_isCarriedOut.2.1 19 = .ok (.iaload, 1) := by decide +kernel
theorem d_X6_isCarriedOut_20 : decode mX6_isCarriedOut.2.1 20 = .ok (.lookupswitch 63 #[(98, 28), (120, 35)], 28) := by decide +kernel
theorem d_X6_isCarriedOut_48 : decode mX6_isCarriedOut.2.1 48 = .ok (.aload_n 0, 1) := by decide +kernel
theorem d_X6_isCarriedOut_49 : decode mX6_isCarriedOut.2.1 49 = .ok (.aload_n 2, 1) := by decide +kernel
theorem d_X6_isCarriedOut_50 : decode mX6_isCarriedOut.2.1 50 = .ok (.iload_n 1, 1) := by decide +kernel
theorem d_X6_isCarriedOut_51 : decode mX6_isCarriedOut.2.1 51 = .ok (.invokevirtual 380, 3) := by decide +kernel
theorem d_X6_isCarriedOut_54 : decode mX6_isCarriedOut.2.1 54 = .ok (.ireturn, 1) := by decide +kernel
theorem d_X6_isCarriedOut_55 : decode mX6_isCarriedOut.2.1 55 = .ok (.aload_n 0, 1) := by decide +kernel
theorem d_X6_isCarriedOut_56 : decode mX6_isCarriedOut.2.1 56 = .ok (.iload_n 3, 1) := by decide +kernel
theorem d_X6_isCarriedOut_57 : decode mX6_isCarriedOut.2.1 57 = .ok (.invokevirtual 204, 3) := by decide +kernel
theorem d_X6_isCarriedOut_60 : decode mX6_isCarriedOut.2.1 60 = .ok (.ifCond .eq 5, 3) := by decide +kernel
theorem d_X6_isCarriedOut_63 : decode mX6_isCarriedOut.2.1 63 = .ok (.iconst 0, 1) := by decide +kernel
theorem d_X6_isCarriedOut_64 : decode mX6_isCarriedOut.2.1 64 = .ok (.ireturn, 1) := by decide +kernel
theorem d_X6_isCarriedOut_65 : decode mX6_isCarriedOut.2.1 65 = .ok (.aload_n 0, 1) := by decide +kernel
theorem d_X6_isCarriedOut_66 : decode mX6_isCarriedOut.2.1 66 = .ok (.getfield 44, 3) := by decide +kernel
theorem d_X6_isCarriedOut_69 : decode mX6_isCarriedOut.2.1 69 = .ok (.iload_n 3, 1) := by decide +kernel
theorem d_X6_isCarriedOut_70 : decode mX6_isCarriedOut.2.1 70 = .ok (.invokevirtual 207, 3) := by decide +kernel
theorem d_X6_isCarriedOut_73 : decode mX6_isCarriedOut.2.1 73 = .ok (.aload_n 0, 1) := by decide +kernel
theorem d_X6_isCarriedOut_74 : decode mX6_isCarriedOut.2.1 74 = .ok (.getfield 44, 3) := by decide +kernel
theorem d_X6_isCarriedOut_77 : decode mX6_isCarriedOut.2.1 77 = .ok (.invokevirtual 210, 3) := by decide +kernel
theorem d_X6_isCarriedOut_80 : decode mX6_isCarriedOut.2.1 80 = .ok (.pop, 1) := by decide +kernel
theorem d_X6_isCarriedOut_81 : decode mX6_isCarriedOut.2.1 81 = .ok (.iconst 1, 1) := by decide +kernel
theorem d_X6_isCarriedOut_82 : decode mX6_isCarriedOut.2.1 82 = .ok (.ireturn, 1) := by decide +kernel
theorem d_X6_isCarriedOut_83 : decode mX6_isCarriedOut.2.1 83 = .ok (.aload_n 0, 1) := by decide +kernel
theorem d_X6_isCarriedOut_84 : decode mX6_isCarriedOut.2.1 84 = .ok (.iload_n 3, 1) := by decide +kernel
theorem d_X6_isCarriedOut_85 : decode mX6_isCarriedOut.2.1 85 = .ok (.aload_n 2, 1) := by decide +kernel
theorem d_X6_isCarriedOut_86 : decode mX6_isCarriedOut.2.1 86 = .ok (.iconst 2, 1) := by decide +kernel
theorem d_X6_isCarriedOut_87 : decode mX6_isCarriedOut.2.1 87 = .ok (.iaload, 1) := by decide +kernel
theorem d_X6_isCarriedOut_88 : decode mX6_isCarriedOut.2.1 88 = .ok (.invokevirtual 132, 3) := by decide +kernel
theorem d_X6_isCarriedOut_91 : decode mX6_isCarriedOut.2.1 91 = .ok (.ifCond .eq 5, 3) := by decide +kernel
theorem d_X6_isCarriedOut_94 : decode mX6_isCarriedOut.2.1 94 = .ok (.iconst 0, 1) := by decide +kernel
theorem d_X6_isCarriedOut_95 : decode mX6_isCarriedOut.2.1 95 = .ok (.ireturn, 1) := by decide +kernel
theorem d_X6_isCarriedOut_96 : decode mX6_isCarriedOut.2.1 96 = .ok (.aload_n 0, 1) := by decide +kernel
theorem d_X6_isCarriedOut_97 : decode mX6_isCarriedOut.2.1 97 = .ok (.getfield 44, 3) := by decide +kernel
theorem d_X6_isCarriedOut_100 : decode mX6_isCarriedOut.2.1 100 = .ok (.iload_n 3, 1) := by decide +kernel
theorem d_X6_isCarriedOut_101 : decode mX6_isCarriedOut.2.1 101 = .ok (.aload_n 2, 1) := by decide +kernel
theorem d_X6_isCarriedOut_102 : decode mX6_isCarriedOut.2.1 102 = .ok (.iconst 2, 1) := by decide +kernel
theorem d_X6_isCarriedOut_103 : decode mX6_isCarriedOut.2.1 103 = .ok (.iaload, 1) := by decide +kernel
theorem d_X6_isCarriedOut_104 : decode mX6_isCarriedOut.2.1 104 = .ok (.invokevirtual 140, 3) := by decide +kernel
theorem d_X6_isCarriedOut_107 : decode mX6_isCarriedOut.2.1 107 = .ok (.pop, 1) := by decide +kernel
theorem d_X6_isCarriedOut_108 : decode mX6_isCarriedOut.2.1 108 = .ok (.iconst 1, 1) := by decide +kernel
theorem d_X6_isCarriedOut_109 : decode mX6_isCarriedOut.2.1 109 = .ok (.ireturn, 1) := by decide +kernel
def T_X6_isCarriedOut (Q : Int32 → Mem → Prop) (v0 : Nat) (v1 : Int32) (M : Mem) : Prop := (kd v0 = 6) ∧ (kd (rf v0 7) = 5) ∧ (kd (rf (rf v0 7) 3) = 4) ∧ (kd (rf (rf (rf v0 7) 3) 0) = 10 ∨ kd (rf (rf (rf v0 7) 3) 0) = 11) ∧ (vp_in v1 (ln (rf (rf (rf v0 7) 3) 0))) ∧ ∀ r6 : Nat, r6 = rf (rf (rf (rf v0 7) 3) 0) (Int32.toNatClampNeg v1) → (kd r6 = 9) ∧ (vp_in 1 (ln r6)) ∧ ∀ x9 : Int32, x9 = M.1 r6 (Int32.toNatClampNeg 1) → (vp_in 0 (ln r6)) ∧ ∀ x11 : Int32, x11 = M.1 r6 (Int32.toNatClampNeg 0) → if x11 = 98 then (T_X6_isBookedByCommand (fun y13 M12 => ((y13 : Int32) = 0 ∨ (y13 : Int32) = 1) ∧ Q y13 M12)  v0 r6 v1 M) else if x11 = 120 then (T_X6_faultOfCancelling (fun y15 M14 => if y15 = 0 then ((kd (rf v0 5) = 0) ∧ T_X0_dropVisit (fun M17 => T_X0_serveWishes (fun y19 M18 => ((1 : Int32) = 0 ∨ (1 : Int32) = 1) ∧ Q 1 M18)  (rf v0 5) M17)  (rf v0 5) x9 M14) else (((0 : Int32) = 0 ∨ (0 : Int32) = 1) ∧ Q 0 M14))  v0 x9 M) else ((vp_in 2 (ln r6)) ∧ T_X6_faultOfMove (fun y22 M21 => if y22 = 0 then ((kd (rf v0 5) = 0) ∧ T_X0_moveInmate (fun y25 M24 => ((1 : Int32) = 0 ∨ (1 : Int32) = 1) ∧ Q 1 M24)  (rf v0 5) x9 (M21.1 r6 (Int32.toNatClampNeg 2)) M21) else (((0 : Int32) = 0 ∨ (0 : Int32) = 1) ∧ Q 0 M21))  v0 x9 (M.1 r6 (Int32.toNatClampNeg 2)) M)
set_option maxRecDepth 100000 in
set_option maxHeartbeats 4000000 in
theorem c_X6_isCarriedOut {g : GG} (v0 : Nat) (v1 : Int32) (M : Mem) (Q : Int32 → Mem → Prop) (h : T_X6_isCarriedOut Q v0 v1 M) : CT g 15 mX6_isCarriedOut [.ref (g.1 + v0), .int v1] M 0 (oZ Q noX) := by
  refine CT_of (L := [some (.ref (g.1 + v0)), some (.int v1), none, none]) (by decide) rfl (Nat.le_of_ble_eq_true rfl) (ro_Z rfl) rfl ?_
  unfold T_X6_isCarriedOut at h
  refine R_aload_n (pc := 0) d_X6_isCarriedOut_0 rfl rfl ?_
  obtain ⟨k1, h⟩ := h
  refine R_getR (pc := 1) fld_RX6_60 rfl rfl k1 d_X6_isCarriedOut_1 ?_
  obtain ⟨k2, h⟩ := h
  refine R_getR (pc := 4) fld_RX6_340 rfl rfl k2 d_X6_isCarriedOut_4 ?_
  obtain ⟨k3, h⟩ := h
  refine R_getR (pc := 7) fld_RX6_128 rfl rfl k3 d_X6_isCarriedOut_7 ?_
  refine R_iload_n (pc := 10) d_X6_isCarriedOut_10 rfl rfl ?_
  obtain ⟨k4, h⟩ := h
  obtain ⟨k5, h⟩ := h
  refine R_aald (pc := 11) k4 k5 d_X6_isCarriedOut_11 ?_
  refine N_r (fun r6 er6 => ?_)
  have h := h r6 er6
  refine R_astore_n (pc := 12) (L' := [some (.ref (g.1 + v0)), some (.int v1), some (.ref (g.1 + r6)), none]) d_X6_isCarriedOut_12 rfl (by decide) rfl ?_
  refine R_aload_n (pc := 13) d_X6_isCarriedOut_13 rfl rfl ?_
  refine R_iconst (pc := 14) (v := 1) d_X6_isCarriedOut_14 (by decide) ?_
  obtain ⟨k7, h⟩ := h
  obtain ⟨k8, h⟩ := h
  refine R_iald (pc := 15) k7 k8 d_X6_isCarriedOut_15 ?_
  refine N_i (fun x9 ex9 => ?_)
  have h := h x9 ex9
  refine R_istore_n (pc := 16) (L' := [some (.ref (g.1 + v0)), some (.int v1), some (.ref (g.1 + r6)), some (.int x9)]) d_X6_isCarriedOut_16 rfl (by decide) rfl ?_
  refine R_aload_n (pc := 17) d_X6_isCarriedOut_17 rfl rfl ?_
  refine R_iconst (pc := 18) (v := 0) d_X6_isCarriedOut_18 (by decide) ?_
  obtain ⟨k10, h⟩ := h
  refine R_iald (pc := 19) k7 k10 d_X6_isCarriedOut_19 ?_
  refine N_i (fun x11 ex11 => ?_)
  have h := h x11 ex11
  by_cases c0 : x11 = 98
  · rw [if_pos c0] at h
    rw [c0]
    refine R_lks (pc := 20) (off := 28) (tgt := 48) d_X6_isCarriedOut_20 (by decide) (by decide) (by decide) ?_
    refine R_aload_n (pc := 48) d_X6_isCarriedOut_48 rfl rfl ?_
    refine R_aload_n (pc := 49) d_X6_isCarriedOut_49 rfl rfl ?_
    refine R_iload_n (pc := 50) d_X6_isCarriedOut_50 rfl rfl ?_
    refine R_callV (pc := 51) (As := [.ref (g.1 + r6), .int v1]) (rest := []) (c_X6_isBookedByCommand (g := g) v0 r6 v1 M _ h) rfl rfl cal_RX6_380 ins_X6_isBookedByCommand sel_X6_isBookedByCommand (cls_at k1 clsOK6) (by decide) (by decide) rfl rfl (Nat.le_of_ble_eq_true rfl) d_X6_isCarriedOut_51 (k_Z (fun y13 M12 h => ?_)) (fun _ _ h9 => False.elim h9)
    try dsimp only at h
    exact R_retv (pc := 54) d_X6_isCarriedOut_54 h
  rw [if_neg c0] at h
  by_cases c1 : x11 = 120
  · rw [if_pos c1] at h
    rw [c1]
    refine R_lks (pc := 20) (off := 35) (tgt := 55) d_X6_isCarriedOut_20 (by decide) (by decide) (by decide) ?_
    refine R_aload_n (pc := 55) d_X6_isCarriedOut_55 rfl rfl ?_
    refine R_iload_n (pc := 56) d_X6_isCarriedOut_56 rfl rfl ?_
    refine R_callV (pc := 57) (As := [.int x9]) (rest := []) (c_X6_faultOfCancelling (g := g) v0 x9 M _ h) rfl rfl cal_RX6_204 ins_X6_faultOfCancelling sel_X6_faultOfCancelling (cls_at k1 clsOK6) (by decide) (by decide) rfl rfl (Nat.le_of_ble_eq_true rfl) d_X6_isCarriedOut_57 (k_I (fun y15 M14 h => ?_)) (fun _ _ h9 => False.elim h9)
    try dsimp only at h
    refine R_if_eq (pc := 60) (tgt := 65) d_X6_isCarriedOut_60 (by decide) (fun c => ?_) (fun c => ?_)
    · rw [if_pos c] at h
      refine R_aload_n (pc := 65) d_X6_isCarriedOut_65 rfl rfl ?_
      refine R_getR (pc := 66) fld_RX6_44 rfl rfl k1 d_X6_isCarriedOut_66 ?_
      refine R_iload_n (pc := 69) d_X6_isCarriedOut_69 rfl rfl ?_
      obtain ⟨k16, h⟩ := h
      refine R_callV (pc := 70) (As := [.int x9]) (rest := []) (c_X0_dropVisit (g := g) (rf v0 5) x9 M14 _ h) rfl rfl cal_RX6_207 ins_X0_dropVisit sel_X0_dropVisit (cls_at k16 clsOK0) (by decide) (by decide) rfl rfl (Nat.le_of_ble_eq_true rfl) d_X6_isCarriedOut_70 (k_V (fun M17 h => ?_)) (fun _ _ h9 => False.elim h9)
      try dsimp only at h
      refine R_aload_n (pc := 73) d_X6_isCarriedOut_73 rfl rfl ?_
      refine R_getR (pc := 74) fld_RX6_44 rfl rfl k1 d_X6_isCarriedOut_74 ?_
      refine R_callV (pc := 77) (As := []) (rest := []) (c_X0_serveWishes (g := g) (rf v0 5) M17 _ h) rfl rfl cal_RX6_210 ins_X0_serveWishes sel_X0_serveWishes (cls_at k16 clsOK0) (by decide) (by decide) rfl rfl (Nat.le_of_ble_eq_true rfl) d_X6_isCarriedOut_77 (k_I (fun y19 M18 h => ?_)) (fun _ _ h9 => False.elim h9)
      try dsimp only at h
      refine R_pop (pc := 80) d_X6_isCarriedOut_80 rfl ?_
      refine R_iconst (pc := 81) (v := 1) d_X6_isCarriedOut_81 (by decide) ?_
      exact R_retv (pc := 82) d_X6_isCarriedOut_82 h
    · rw [if_neg c] at h
      refine R_iconst (pc := 63) (v := 0) d_X6_isCarriedOut_63 (by decide) ?_
      exact R_retv (pc := 64) d_X6_isCarriedOut_64 h
  rw [if_neg c1] at h
  have o9 : Op.lookupswitch.offset (#[(98, 28), (120, 35)] : Array (Int × Int)).toList 63 x11.toInt = 63 := by
    have n0 := ne_toInt c0
    rw [show Int32.toInt (98 : Int32) = 98 by decide] at n0
    have n1 := ne_toInt c1
    rw [show Int32.toInt (120 : Int32) = 120 by decide] at n1
    simp [Op.lookupswitch.offset, n0, Ne.symm n0, n1, Ne.symm n1]
  refine R_lks (pc := 20) (tgt := 83) d_X6_isCarriedOut_20 (by decide) o9 (by decide) ?_
  refine R_aload_n (pc := 83) d_X6_isCarriedOut_83 rfl rfl ?_
  refine R_iload_n (pc := 84) d_X6_isCarriedOut_84 rfl rfl ?_
  refine R_aload_n (pc := 85) d_X6_isCarriedOut_85 rfl rfl ?_
  refine R_iconst (pc := 86) (v := 2) d_X6_isCarriedOut_86 (by decide) ?_
  obtain ⟨k20, h⟩ := h
  refine R_iald (pc := 87) k7 k20 d_X6_isCarriedOut_87 ?_
  refine R_callV (pc := 88) (As := [.int x9, .int (M.1 r6 (Int32.toNatClampNeg 2))]) (rest := []) (c_X6_faultOfMove (g := g) v0 x9 (M.1 r6 (Int32.toNatClampNeg 2)) M _ h) rfl rfl cal_RX6_132 ins_X6_faultOfMove sel_X6_faultOfMove (cls_at k1 clsOK6) (by decide) (by decide) rfl rfl (Nat.le_of_ble_eq_true rfl) d_X6_isCarriedOut_88 (k_I (fun y22 M21 h => ?_)) (fun _ _ h9 => False.elim h9)
  try dsimp only at h
  refine R_if_eq (pc := 91) (tgt := 96) d_X6_isCarriedOut_91 (by decide) (fun c => ?_) (fun c => ?_)
  · rw [if_pos c] at h
    refine R_aload_n (pc := 96) d_X6_isCarriedOut_96 rfl rfl ?_
    refine R_getR (pc := 97) fld_RX6_44 rfl rfl k1 d_X6_isCarriedOut_97 ?_
    refine R_iload_n (pc := 100) d_X6_isCarriedOut_100 rfl rfl ?_
    refine R_aload_n (pc := 101) d_X6_isCarriedOut_101 rfl rfl ?_
    refine R_iconst (pc := 102) (v := 2) d_X6_isCarriedOut_102 (by decide) ?_
    refine R_iald (pc := 103) k7 k20 d_X6_isCarriedOut_103 ?_
    obtain ⟨k23, h⟩ := h
    refine R_callV (pc := 104) (As := [.int x9, .int (M21.1 r6 (Int32.toNatClampNeg 2))]) (rest := []) (c_X0_moveInmate (g := g) (rf v0 5) x9 (M21.1 r6 (Int32.toNatClampNeg 2)) M21 _ h) rfl rfl cal_RX6_140 ins_X0_moveInmate sel_X0_moveInmate (cls_at k23 clsOK0) (by decide) (by decide) rfl rfl (Nat.le_of_ble_eq_true rfl) d_X6_isCarriedOut_104 (k_I (fun y25 M24 h => ?_)) (fun _ _ h9 => False.elim h9)
    try dsimp only at h
    refine R_pop (pc := 107) d_X6_isCarriedOut_107 rfl ?_
    refine R_iconst (pc := 108) (v := 1) d_X6_isCarriedOut_108 (by decide) ?_
    exact R_retv (pc := 109) d_X6_isCarriedOut_109 h
  · rw [if_neg c] at h
    refine R_iconst (pc := 94) (v := 0) d_X6_isCarriedOut_94 (by decide) ?_
    exact R_retv (pc := 95) d_X6_isCarriedOut_95 h
/-! X6_perform -/
theorem d_X6_perform_0 : decode mX6_perform.2.1 0 = .ok (.aload_n 0, 1) := by decide +kernel
theorem d_X6_perform_1 : decode mX6_perform.2.1 1 = .ok (.getfield 60, 3) := by decide +kernel
theorem d_X6_perform_4 : decode mX6_perform.2.1 4 = .ok (.invokevirtual 331, 3) := by decide +kernel
theorem d_X6_perform_7 : decode mX6_perform.2.1 7 = .ok (.istore_n 1, 1) := by decide +kernel
theorem d_X6_perform_8 : decode mX6_perform.2.1 8 = .ok (.aload_n 0, 1) := by decide +kernel
theorem d_X6_perform_9 : decode mX6_perform.2.1 9 = .ok (.getfield 60, 3) := by decide +kernel
theorem d_X6_perform_12 : decode mX6_perform.2.1 12 = .ok (.invokevirtual 334, 3) := by decide +kernel
theorem d_X6_perform_15 : decode mX6_perform.2.1 15 = .ok (.iload_n 1, 1) := by decide +kernel
theorem d_X6_perform_16 : decode mX6_perform.2.1 16 = .ok (.iconst (-1), 1) := by decide +kernel
theorem d_X6_perform_17 : decode mX6_perform.2.1 17 = .ok (.if_icmp .eq 8, 3) := by decide +kernel
theorem d_X6_perform_20 : decode mX6_perform.2.1 20 = .ok (.bipush (-100), 2) := by decide +kernel
theorem d_X6_perform_22 : decode mX6_perform.2.1 22 = .ok (.iload_n 1, 1) := by decide +kernel
theorem d_X6_perform_23 : decode mX6_perform.2.1 23 = .ok (.isub, 1) := by decide +kernel
theorem d_X6_perform_24 : decode mX6_perform.2.1 24 = .ok (.ireturn, 1) := by decide +kernel
theorem d_X6_perform_25 : decode mX6_perform.2.1 25 = .ok (.aload_n 0, 1) := by decide +kernel
theorem d_X6_perform_26 : decode mX6_perform.2.1 26 = .ok (.getfield 26, 3) := by decide +kernel
theorem d_X6_perform_29 : decode mX6_perform.2.1 29 = .ok (.aload_n 0, 1) := by decide +kernel
theorem d_X6_perform_30 : decode mX6_perform.2.1 30 = .ok (.getfield 10, 3) := by decide +kernel
theorem d_X6_perform_33 : decode mX6_perform.2.1 33 = .ok (.invokevirtual 337, 3) := by decide +kernel
theorem d_X6_perform_36 : decode mX6_perform.2.1 36 = .ok (.aload_n 0, 1) := by decide +kernel
theorem d_X6_perform_37 : decode mX6_perform.2.1 37 = .ok (.getfield 60, 3) := by decide +kernel
theorem d_X6_perform_40 : decode mX6_perform.2.1 40 = .ok (.getfield 340, 3) := by decide +kernel
theorem d_X6_perform_43 : decode mX6_perform.2.1 43 = .ok (.getfield 94, 3) := by decide +kernel
theorem d_X6_perform_46 : decode mX6_perform.2.1 46 = .ok (.istore_n 2, 1) := by decide +kernel
theorem d_X6_perform_47 : decode mX6_perform.2.1 47 = .ok (.iconst 0, 1) := by decide +kernel
theorem d_X6_perform_48 : decode mX6_perform.2.1 48 = .ok (.istore_n 3, 1) := by decide +kernel
theorem d_X6_perform_49 : decode mX6_perform.2.1 49 = .ok (.iload_n 3, 1) := by decide +kernel
theorem d_X6_perform_50 : decode mX6_perform.2.1 50 = .ok (.iload_n 2, 1) := by decide +kernel
theorem d_X6_perform_51 : decode mX6_perform.2.1 51 = .ok (.if_icmp .ge 39, 3) := by decide +kernel
theorem d_X6_perform_54 : decode mX6_perform.2.1 54 = .ok (.aload_n 0, 1) := by decide +kernel
theorem d_X6_perform_55 : decode mX6_perform.2.1 55 = .ok (.iload_n 3, 1) := by decide +kernel
theorem d_X6_perform_56 : decode mX6_perform.2.1 56 = .ok (.invokevirtual 343, 3) := by decide +kernel
theorem d_X6_perform_59 : decode mX6_perform.2.1 59 = .ok (.ifCond .ne 25, 3) := by decide +kernel
theorem d_X6_perform_62 : decode mX6_perform.2.1 62 = .ok (.aload_n 0, 1) := by decide +kernel
theorem d_X6_perform_63 : decode mX6_perform.2.1 63 = .ok (.getfield 26, 3) := by decide +kernel
theorem d_X6_perform_66 : decode mX6_perform.2.1 66 = .ok (.aload_n 0, 1) := by decide +kernel
theorem d_X6_perform_67 : decode mX6_perform.2.1 67 = .ok (.getfield 10, 3) := by decide +kernel
theorem d_X6_perform_70 : decode mX6_perform.2.1 70 = .ok (.invokevirtual 346, 3) := by decide +kernel
theorem d_X6_perform_73 : decode mX6_perform.2.1 73 = .ok (.new 195, 3) := by decide +kernel
theorem d_X6_perform_76 : decode mX6_perform.2.1 76 = .ok (.dup, 1) := by decide +kernel
theorem d_X6_perform_77 : decode mX6_perform.2.1 77 = .ok (.ldc_w 349, 3) := by decide +kernel
theorem d_X6_perform_80 : decode mX6_perform.2.1 80 = .ok (.invokespecial 199, 3) := by decide +kernel
theorem d_X6_perform_83 : decode mX6_perform.2.1 83 = .ok (.athrow, 1) := by decide +kernel
theorem d_X6_perform_84 : decode mX6_perform.2.1 84 = .ok (.iinc 3 1, 3) := by decide +kernel
theorem d_X6_perform_87 : decode mX6_perform.2.1 87 = .ok (.goto (-38), 3) := by decide +kernel
theorem d_X6_perform_90 : decode mX6_perform.2.1 90 = .ok (.aload_n 0, 1) := by decide +kernel
theorem d_X6_perform_91 : decode mX6_perform.2.1 91 = .ok (.getfield 26, 3) := by decide +kernel
theorem d_X6_perform_94 : decode mX6_perform.2.1 94 = .ok (.invokevirtual 351, 3) := by decide +kernel
theorem d_X6_perform_97 : decode mX6_perform.2.1 97 = .ok (.iload_n 2, 1) := by decide +kernel
theorem d_X6_perform_98 : decode mX6_perform.2.1 98 = .ok (.ireturn, 1) := by decide +kernel
def T_X6_perform_49 (Q : Int32 → Mem → Prop) (X : String → Mem → Prop) : Nat → Nat → Int32 → Int32 → Mem → Prop
  | 0, _, _, _, _ => False
  | n + 1, v0, v2, v3, M => if v2 ≤ v3 then ((kd v0 = 6) ∧ (kd (rf v0 3) = 1) ∧ T_X1_keepDraft (fun M3 => Q v2 M3)  (rf v0 3) M) else ((kd v0 = 6) ∧ T_X6_isCarriedOut (fun y6 M5 => if y6 = 0 then ((kd (rf v0 3) = 1) ∧ T_X1_returnToDraft (fun M9 => X "java/lang/UnsupportedOperationException" M9)  (rf v0 3) (rf v0 0) M5) else (∀ x7 : Int32, x7 = v3 + 1 → (T_X6_perform_49 Q X n) v0 v2 x7 M5))  v0 v3 M)
set_option maxRecDepth 100000 in
set_option maxHeartbeats 4000000 in
theorem B_X6_perform_49 {g : GG} (Q : Int32 → Mem → Prop) (X : String → Mem → Prop) : ∀ (n : Nat) (v0 : Nat) (v2 : Int32) (v3 : Int32) (M : Mem), T_X6_perform_49 Q X n v0 v2 v3 M → WP g 16 mX6_perform 49 [some (.ref (g.1 + v0)), none, some (.int v2), some (.int v3)] [] M 1 (oI Q X) := by
  intro n
  induction n with
  | zero => intro v0 v2 v3 M h; exact h.elim
  | succ n hκ49 =>
    intro v0 v2 v3 M h
    unfold T_X6_perform_49 at h
    refine R_iload_n (pc := 49) d_X6_perform_49 rfl rfl ?_
    refine R_iload_n (pc := 50) d_X6_perform_50 rfl rfl ?_
    refine R_icmp_ge (pc := 51) (tgt := 90) d_X6_perform_51 (by decide) (fun c => ?_) (fun c => ?_)
    · rw [if_pos c] at h
      refine R_aload_n (pc := 90) d_X6_perform_90 rfl rfl ?_
      obtain ⟨k1, h⟩ := h
      refine R_getR (pc := 91) fld_RX6_26 rfl rfl k1 d_X6_perform_91 ?_
      obtain ⟨k2, h⟩ := h
      refine R_callV (pc := 94) (As := []) (rest := []) (c_X1_keepDraft (g := g) (rf v0 3) M _ h) rfl rfl cal_RX6_351 ins_X1_keepDraft sel_X1_keepDraft (cls_at k2 clsOK1) (by decide) (by decide) rfl rfl (Nat.le_of_ble_eq_true rfl) d_X6_perform_94 (k_V (fun M3 h => ?_)) (fun _ _ h9 => False.elim h9)
      try dsimp only at h
      refine R_iload_n (pc := 97) d_X6_perform_97 rfl rfl ?_
      exact R_retv (pc := 98) d_X6_perform_98 h
    · rw [if_neg c] at h
      refine R_aload_n (pc := 54) d_X6_perform_54 rfl rfl ?_
      refine R_iload_n (pc := 55) d_X6_perform_55 rfl rfl ?_
      obtain ⟨k4, h⟩ := h
      refine R_callV (pc := 56) (As := [.int v3]) (rest := []) (c_X6_isCarriedOut (g := g) v0 v3 M _ h) rfl rfl cal_RX6_343 ins_X6_isCarriedOut sel_X6_isCarriedOut (cls_at k4 clsOK6) (by decide) (by decide) rfl rfl (Nat.le_of_ble_eq_true rfl) d_X6_perform_56 (k_Z (fun y6 M5 h => ?_)) (fun _ _ h9 => False.elim h9)
      try dsimp only at h
      refine R_if_ne (pc := 59) (tgt := 84) d_X6_perform_59 (by decide) (fun c => ?_) (fun c => ?_)
      · rw [if_neg c] at h
        obtain ⟨x7, ex7⟩ : ∃ z : Int32, z = v3 + 1 := ⟨_, rfl⟩
        have h := h x7 ex7
        refine R_iinc (pc := 84) (v := x7) (L' := [some (.ref (g.1 + v0)), none, some (.int v2), some (.int x7)]) d_X6_perform_84 rfl (by rw [ex7]; rfl) (by decide) rfl ?_
        refine R_goto (pc := 87) (tgt := 49) d_X6_perform_87 (by decide) ?_
        exact WP_sub (hκ49 v0 v2 x7 M5 h) (by decide) (ls_s (ls_n (ls_s (ls_s ls_0))))
      · rw [if_pos c] at h
        refine R_aload_n (pc := 62) d_X6_perform_62 rfl rfl ?_
        refine R_getR (pc := 63) fld_RX6_26 rfl rfl k4 d_X6_perform_63 ?_
        refine R_aload_n (pc := 66) d_X6_perform_66 rfl rfl ?_
        refine R_getR (pc := 67) fld_RX6_10 rfl rfl k4 d_X6_perform_67 ?_
        obtain ⟨k8, h⟩ := h
        refine R_callV (pc := 70) (As := [.ref (g.1 + (rf v0 0))]) (rest := []) (c_X1_returnToDraft (g := g) (rf v0 3) (rf v0 0) M5 _ h) rfl rfl cal_RX6_346 ins_X1_returnToDraft sel_X1_returnToDraft (cls_at k8 clsOK1) (by decide) (by decide) rfl rfl (Nat.le_of_ble_eq_true rfl) d_X6_perform_70 (k_V (fun M9 h => ?_)) (fun _ _ h9 => False.elim h9)
        try dsimp only at h
        exact R_throwW rfl rfl thr_RX6_195_349_199 (by decide) (by decide) (Nat.le_of_ble_eq_true rfl) d_X6_perform_73 d_X6_perform_76 d_X6_perform_77 d_X6_perform_80 d_X6_perform_83 h
def T_X6_perform (Q : Int32 → Mem → Prop) (X : String → Mem → Prop) (v0 : Nat) (M : Mem) : Prop := (kd v0 = 6) ∧ (kd (rf v0 7) = 5) ∧ T_X5_findError (fun y4 M3 => T_X5_empty (fun M5 => if y4 = ((-1) : Int32) then ((kd (rf v0 3) = 1) ∧ T_X1_draft (fun M7 => (kd (rf (rf v0 7) 3) = 4) ∧ ∀ x9 : Int32, x9 = M7.1 (rf (rf v0 7) 3) 2 → (∃ N : Nat, T_X6_perform_49 Q X N v0 x9 0 M7))  (rf v0 3) (rf v0 0) M5) else (Q ((-100) - y4) M5))  (rf v0 7) M3)  (rf v0 7) M
set_option maxRecDepth 100000 in
set_option maxHeartbeats 4000000 in
theorem c_X6_perform {g : GG} (v0 : Nat) (M : Mem) (Q : Int32 → Mem → Prop) (X : String → Mem → Prop) (h : T_X6_perform Q X v0 M) : CT g 16 mX6_perform [.ref (g.1 + v0)] M 1 (oI Q X) := by
  refine CT_of (L := [some (.ref (g.1 + v0)), none, none, none]) (by decide) rfl (Nat.le_of_ble_eq_true rfl) (ro_I rfl) rfl ?_
  unfold T_X6_perform at h
  refine R_aload_n (pc := 0) d_X6_perform_0 rfl rfl ?_
  obtain ⟨k1, h⟩ := h
  refine R_getR (pc := 1) fld_RX6_60 rfl rfl k1 d_X6_perform_1 ?_
  obtain ⟨k2, h⟩ := h
  refine R_callV (pc := 4) (As := []) (rest := []) (c_X5_findError (g := g) (rf v0 7) M _ h) rfl rfl cal_RX6_331 ins_X5_findError sel_X5_findError (cls_at k2 clsOK5) (by decide) (by decide) rfl rfl (Nat.le_of_ble_eq_true rfl) d_X6_perform_4 (k_I (fun y4 M3 h => ?_)) (fun _ _ h9 => False.elim h9)
  try dsimp only at h
  refine R_istore_n (pc := 7) (L' := [some (.ref (g.1 + v0)), some (.int y4), none, none]) d_X6_perform_7 rfl (by decide) rfl ?_
  refine R_aload_n (pc := 8) d_X6_perform_8 rfl rfl ?_
  refine R_getR (pc := 9) fld_RX6_60 rfl rfl k1 d_X6_perform_9 ?_
  refine R_callV (pc := 12) (As := []) (rest := []) (c_X5_empty (g := g) (rf v0 7) M3 _ h) rfl rfl cal_RX6_334 ins_X5_empty sel_X5_empty (cls_at k2 clsOK5) (by decide) (by decide) rfl rfl (Nat.le_of_ble_eq_true rfl) d_X6_perform_12 (k_V (fun M5 h => ?_)) (fun _ _ h9 => False.elim h9)
  try dsimp only at h
  refine R_iload_n (pc := 15) d_X6_perform_15 rfl rfl ?_
  refine R_iconst (pc := 16) (v := (-1)) d_X6_perform_16 (by decide) ?_
  refine R_icmp_eq (pc := 17) (tgt := 25) d_X6_perform_17 (by decide) (fun c => ?_) (fun c => ?_)
  · rw [if_pos c] at h
    refine R_aload_n (pc := 25) d_X6_perform_25 rfl rfl ?_
    refine R_getR (pc := 26) fld_RX6_26 rfl rfl k1 d_X6_perform_26 ?_
    refine R_aload_n (pc := 29) d_X6_perform_29 rfl rfl ?_
    refine R_getR (pc := 30) fld_RX6_10 rfl rfl k1 d_X6_perform_30 ?_
    obtain ⟨k6, h⟩ := h
    refine R_callV (pc := 33) (As := [.ref (g.1 + (rf v0 0))]) (rest := []) (c_X1_draft (g := g) (rf v0 3) (rf v0 0) M5 _ h) rfl rfl cal_RX6_337 ins_X1_draft sel_X1_draft (cls_at k6 clsOK1) (by decide) (by decide) rfl rfl (Nat.le_of_ble_eq_true rfl) d_X6_perform_33 (k_V (fun M7 h => ?_)) (fun _ _ h9 => False.elim h9)
    try dsimp only at h
    refine R_aload_n (pc := 36) d_X6_perform_36 rfl rfl ?_
    refine R_getR (pc := 37) fld_RX6_60 rfl rfl k1 d_X6_perform_37 ?_
    refine R_getR (pc := 40) fld_RX6_340 rfl rfl k2 d_X6_perform_40 ?_
    obtain ⟨k8, h⟩ := h
    refine R_getI (pc := 43) fld_RX6_94 rfl rfl k8 d_X6_perform_43 ?_
    refine N_i (fun x9 ex9 => ?_)
    have h := h x9 ex9
    refine R_istore_n (pc := 46) (L' := [some (.ref (g.1 + v0)), some (.int y4), some (.int x9), none]) d_X6_perform_46 rfl (by decide) rfl ?_
    refine R_iconst (pc := 47) (v := 0) d_X6_perform_47 (by decide) ?_
    refine R_istore_n (pc := 48) (L' := [some (.ref (g.1 + v0)), some (.int y4), some (.int x9), some (.int 0)]) d_X6_perform_48 rfl (by decide) rfl ?_
    obtain ⟨N, h⟩ := h
    exact WP_sub (B_X6_perform_49 Q X N v0 x9 0 M7 h) (by decide) (ls_s (ls_n (ls_s (ls_s ls_0))))
  · rw [if_neg c] at h
    refine R_bipush (pc := 20) (v := (-100)) d_X6_perform_20 (by decide) ?_
    refine R_iload_n (pc := 22) d_X6_perform_22 rfl rfl ?_
    refine R_isub (pc := 23) d_X6_perform_23 ?_
    exact R_retv (pc := 24) d_X6_perform_24 h
/-! X6_undo -/
theorem d_X6_undo_0 : decode mX6_undo.2.1 0 = .ok (.aload_n 0, 1) := by decide +kernel
theorem d_X6_undo_1 : decode mX6_undo.2.1 1 = .ok (.getfield 26, 3) := by decide +kernel
theorem d_X6_undo_4 : decode mX6_undo.2.1 4 = .ok (.getfield 354, 3) := by decide +kernel
theorem d_X6_undo_7 : decode mX6_undo.2.1 7 = .ok (.ifCond .ne 14, 3) := by decide +kernel
theorem d_X6_undo_10 : decode mX6_undo.2.1 10 = .ok (.new 82, 3) := by decide +kernel
theorem d_X6_undo_13 : decode mX6_undo.2.1 13 = .ok (.dup, 1) := by decide +kernel
theorem d_X6_undo_14 : decode mX6_undo.2.1 14 = .ok (.ldc_w 355, 3) := by decide +kernel
theorem d_X6_undo_17 : decode mX6_undo.2.1 17 = .ok (.invokespecial 86, 3) := by decide +kernel
theorem d_X6_undo_20 : decode mX6_undo.2.1 20 = .ok (.athrow, 1) := by decide +kernel
theorem d_X6_undo_21 : decode mX6_undo.2.1 21 = .ok (.aload_n 0, 1) := by decide +kernel
theorem d_X6_undo_22 : decode mX6_undo.2.1 22 = .ok (.getfield 26, 3) := by decide +kernel
theorem d_X6_undo_25 : decode mX6_undo.2.1 25 = .ok (.aload_n 0, 1) := by decide +kernel
theorem d_X6_undo_26 : decode mX6_undo.2.1 26 = .ok (.getfield 10, 3) := by decide +kernel
theorem d_X6_undo_29 : decode mX6_undo.2.1 29 = .ok (.invokevirtual 357, 3) := by decide +kernel
theorem d_X6_undo_32 : decode mX6_undo.2.1 32 = .ok (.aload_n 0, 1) := by decide +kernel
theorem d_X6_undo_33 : decode mX6_undo.2.1 33 = .ok (.getfield 26, 3) := by decide +kernel
theorem d_X6_undo_36 : decode mX6_undo.2.1 36 = .ok (.getfield 354, 3) := by decide +kernel
theorem d_X6_undo_39 : decode mX6_undo.2.1 39 = .ok (.ireturn, 1) := by decide +kernel
def T_X6_undo (Q : Int32 → Mem → Prop) (X : String → Mem → Prop) (v0 : Nat) (M : Mem) : Prop := (kd v0 = 6) ∧ (kd (rf v0 3) = 1) ∧ if (M.1 (rf v0 3) 2) = 0 then (X "java/lang/IllegalStateException" M) else (T_X1_takeBack (fun M3 => Q (M3.1 (rf v0 3) 2) M3)  (rf v0 3) (rf v0 0) M)
set_option maxRecDepth 100000 in
set_option maxHeartbeats 4000000 in
theorem c_X6_undo {g : GG} (v0 : Nat) (M : Mem) (Q : Int32 → Mem → Prop) (X : String → Mem → Prop) (h : T_X6_undo Q X v0 M) : CT g 13 mX6_undo [.ref (g.1 + v0)] M 1 (oI Q X) := by
  refine CT_of (L := [some (.ref (g.1 + v0))]) (by decide) rfl (Nat.le_of_ble_eq_true rfl) (ro_I rfl) rfl ?_
  unfold T_X6_undo at h
  refine R_aload_n (pc := 0) d_X6_undo_0 rfl rfl ?_
  obtain ⟨k1, h⟩ := h
  refine R_getR (pc := 1) fld_RX6_26 rfl rfl k1 d_X6_undo_1 ?_
  obtain ⟨k2, h⟩ := h
  refine R_getI (pc := 4) fld_RX6_354 rfl rfl k2 d_X6_undo_4 ?_
  refine R_if_ne (pc := 7) (tgt := 21) d_X6_undo_7 (by decide) (fun c => ?_) (fun c => ?_)
  · rw [if_neg c] at h
    refine R_aload_n (pc := 21) d_X6_undo_21 rfl rfl ?_
    refine R_getR (pc := 22) fld_RX6_26 rfl rfl k1 d_X6_undo_22 ?_
    refine R_aload_n (pc := 25) d_X6_undo_25 rfl rfl ?_
    refine R_getR (pc := 26) fld_RX6_10 rfl rfl k1 d_X6_undo_26 ?_
    refine R_callV (pc := 29) (As := [.ref (g.1 + (rf v0 0))]) (rest := []) (c_X1_takeBack (g := g) (rf v0 3) (rf v0 0) M _ h) rfl rfl cal_RX6_357 ins_X1_takeBack sel_X1_takeBack (cls_at k2 clsOK1) (by decide) (by decide) rfl rfl (Nat.le_of_ble_eq_true rfl) d_X6_undo_29 (k_V (fun M3 h => ?_)) (fun _ _ h9 => False.elim h9)
    try dsimp only at h
    refine R_aload_n (pc := 32) d_X6_undo_32 rfl rfl ?_
    refine R_getR (pc := 33) fld_RX6_26 rfl rfl k1 d_X6_undo_33 ?_
    refine R_getI (pc := 36) fld_RX6_354 rfl rfl k2 d_X6_undo_36 ?_
    exact R_retv (pc := 39) d_X6_undo_39 h
  · rw [if_pos c] at h
    exact R_throwW rfl rfl thr_RX6_82_355_86 (by decide) (by decide) (Nat.le_of_ble_eq_true rfl) d_X6_undo_10 d_X6_undo_13 d_X6_undo_14 d_X6_undo_17 d_X6_undo_20 h
/-! X6_save -/
theorem d_X6_save_0 : decode mX6_save.2.1 0 = .ok (.aload_n 0, 1) := by decide +kernel
theorem d_X6_save_1 : decode mX6_save.2.1 1 = .ok (.getfield 16, 3) := by decide +kernel
theorem d_X6_save_4 : decode mX6_save.2.1 4 = .ok (.aload_n 0, 1) := by decide +kernel
theorem d_X6_save_5 : decode mX6_save.2.1 5 = .ok (.getfield 10, 3) := by decide +kernel
theorem d_X6_save_8 : decode mX6_save.2.1 8 = .ok (.invokevirtual 360, 3) := by decide +kernel
theorem d_X6_save_11 : decode mX6_save.2.1 11 = .ok (.aload_n 0, 1) := by decide +kernel
theorem d_X6_save_12 : decode mX6_save.2.1 12 = .ok (.iconst 1, 1) := by decide +kernel
theorem d_X6_save_13 : decode mX6_save.2.1 13 = .ok (.putfield 19, 3) := by decide +kernel
theorem d_X6_save_16 : decode mX6_save.2.1 16 = .ok (.aload_n 0, 1) := by decide +kernel
theorem d_X6_save_17 : decode mX6_save.2.1 17 = .ok (.getfield 10, 3) := by decide +kernel
theorem d_X6_save_20 : decode mX6_save.2.1 20 = .ok (.iconst 0, 1) := by decide +kernel
theorem d_X6_save_21 : decode mX6_save.2.1 21 = .ok (.invokevirtual 301, 3) := by decide +kernel
theorem d_X6_save_24 : decode mX6_save.2.1 24 = .ok (.ireturn, 1) := by decide +kernel
def T_X6_save (Q : Int32 → Mem → Prop) (v0 : Nat) (M : Mem) : Prop := (kd v0 = 6) ∧ (kd (rf v0 1) = 3) ∧ T_X3_copyFrom (fun M3 => ((1 : Int32) = 0 ∨ (1 : Int32) = 1) ∧ ∀ M5 : Mem, M5 = mset M3 v0 2 1 → (kd (rf v0 0) = 3) ∧ T_X3_countStatus (fun y8 M7 => Q y8 M7)  (rf v0 0) 0 M5)  (rf v0 1) (rf v0 0) M
set_option maxRecDepth 100000 in
set_option maxHeartbeats 4000000 in
theorem c_X6_save {g : GG} (v0 : Nat) (M : Mem) (Q : Int32 → Mem → Prop) (h : T_X6_save Q v0 M) : CT g 11 mX6_save [.ref (g.1 + v0)] M 0 (oI Q noX) := by
  refine CT_of (L := [some (.ref (g.1 + v0))]) (by decide) rfl (Nat.le_of_ble_eq_true rfl) (ro_I rfl) rfl ?_
  unfold T_X6_save at h
  refine R_aload_n (pc := 0) d_X6_save_0 rfl rfl ?_
  obtain ⟨k1, h⟩ := h
  refine R_getR (pc := 1) fld_RX6_16 rfl rfl k1 d_X6_save_1 ?_
  refine R_aload_n (pc := 4) d_X6_save_4 rfl rfl ?_
  refine R_getR (pc := 5) fld_RX6_10 rfl rfl k1 d_X6_save_5 ?_
  obtain ⟨k2, h⟩ := h
  refine R_callV (pc := 8) (As := [.ref (g.1 + (rf v0 0))]) (rest := []) (c_X3_copyFrom (g := g) (rf v0 1) (rf v0 0) M _ h) rfl rfl cal_RX6_360 ins_X3_copyFrom sel_X3_copyFrom (cls_at k2 clsOK3) (by decide) (by decide) rfl rfl (Nat.le_of_ble_eq_true rfl) d_X6_save_8 (k_V (fun M3 h => ?_)) (fun _ _ h9 => False.elim h9)
  try dsimp only at h
  refine R_aload_n (pc := 11) d_X6_save_11 rfl rfl ?_
  refine R_iconst (pc := 12) (v := 1) d_X6_save_12 (by decide) ?_
  obtain ⟨k4, h⟩ := h
  refine R_putI (pc := 13) fld_RX6_19 rfl rfl rfl k1 (nar_z k4) (fit_z k4) d_X6_save_13 (N_M (fun M5 eM5 => ?_))
  have h := h M5 eM5
  refine R_aload_n (pc := 16) d_X6_save_16 rfl rfl ?_
  refine R_getR (pc := 17) fld_RX6_10 rfl rfl k1 d_X6_save_17 ?_
  refine R_iconst (pc := 20) (v := 0) d_X6_save_20 (by decide) ?_
  obtain ⟨k6, h⟩ := h
  refine R_callV (pc := 21) (As := [.int 0]) (rest := []) (c_X3_countStatus (g := g) (rf v0 0) 0 M5 _ h) rfl rfl cal_RX6_301 ins_X3_countStatus sel_X3_countStatus (cls_at k6 clsOK3) (by decide) (by decide) rfl rfl (Nat.le_of_ble_eq_true rfl) d_X6_save_21 (k_I (fun y8 M7 h => ?_)) (fun _ _ h9 => False.elim h9)
  try dsimp only at h
  exact R_retv (pc := 24) d_X6_save_24 h
/-! X6_restore -/
theorem d_X6_restore_0 : decode mX6_restore.2.1 0 = .ok (.aload_n 0, 1) := by decide +kernel
theorem d_X6_restore_1 : decode mX6_restore.2.1 1 = .ok (.getfield 19, 3) := by decide +kernel
theorem d_X6_restore_4 : decode mX6_restore.2.1 4 = .ok (.ifCond .ne 14, 3) := by decide +kernel
theorem d_X6_restore_7 : decode mX6_restore.2.1 7 = .ok (.new 82, 3) := by decide +kernel
theorem d_X6_restore_10 : decode mX6_restore.2.1 10 = .ok (.dup, 1) := by decide +kernel
theorem d_X6_restore_11 : decode mX6_restore.2.1 11 = .ok (.ldc_w 363, 3) := by decide +kernel
theorem d_X6_restore_14 : decode mX6_restore.2.1 14 = .ok (.invokespecial 86, 3) := by decide +kernel
theorem d_X6_restore_17 : decode mX6_restore.2.1 17 = .ok (.athrow, 1) := by decide +kernel
theorem d_X6_restore_18 : decode mX6_restore.2.1 18 = .ok (.aload_n 0, 1) := by decide +kernel
theorem d_X6_restore_19 : decode mX6_restore.2.1 19 = .ok (.getfield 10, 3) := by decide +kernel
theorem d_X6_restore_22 : decode mX6_restore.2.1 22 = .ok (.aload_n 0, 1) := by decide +kernel
theorem d_X6_restore_23 : decode mX6_restore.2.1 23 = .ok (.getfield 16, 3) := by decide +kernel
theorem d_X6_restore_26 : decode mX6_restore.2.1 26 = .ok (.invokevirtual 360, 3) := by decide +kernel
theorem d_X6_restore_29 : decode mX6_restore.2.1 29 = .ok (.aload_n 0, 1) := by decide +kernel
theorem d_X6_restore_30 : decode mX6_restore.2.1 30 = .ok (.getfield 26, 3) := by decide +kernel
theorem d_X6_restore_33 : decode mX6_restore.2.1 33 = .ok (.invokevirtual 365, 3) := by decide +kernel
theorem d_X6_restore_36 : decode mX6_restore.2.1 36 = .ok (.aload_n 0, 1) := by decide +kernel
theorem d_X6_restore_37 : decode mX6_restore.2.1 37 = .ok (.getfield 10, 3) := by decide +kernel
theorem d_X6_restore_40 : decode mX6_restore.2.1 40 = .ok (.iconst 0, 1) := by decide +kernel
theorem d_X6_restore_41 : decode mX6_restore.2.1 41 = .ok (.invokevirtual 301, 3) := by decide +kernel
theorem d_X6_restore_44 : decode mX6_restore.2.1 44 = .ok (.ireturn, 1) := by decide +kernel
def T_X6_restore (Q : Int32 → Mem → Prop) (X : String → Mem → Prop) (v0 : Nat) (M : Mem) : Prop := (kd v0 = 6) ∧ if (M.1 v0 2) = 0 then (X "java/lang/IllegalStateException" M) else ((kd (rf v0 0) = 3) ∧ T_X3_copyFrom (fun M3 => (kd (rf v0 3) = 1) ∧ T_X1_forget (fun M5 => T_X3_countStatus (fun y7 M6 => Q y7 M6)  (rf v0 0) 0 M5)  (rf v0 3) M3)  (rf v0 0) (rf v0 1) M)
set_option maxRecDepth 100000 in
set_option maxHeartbeats 4000000 in
theorem c_X6_restore {g : GG} (v0 : Nat) (M : Mem) (Q : Int32 → Mem → Prop) (X : String → Mem → Prop) (h : T_X6_restore Q X v0 M) : CT g 11 mX6_restore [.ref (g.1 + v0)] M 1 (oI Q X) := by
  refine CT_of (L := [some (.ref (g.1 + v0))]) (by decide) rfl (Nat.le_of_ble_eq_true rfl) (ro_I rfl) rfl ?_
  unfold T_X6_restore at h
  refine R_aload_n (pc := 0) d_X6_restore_0 rfl rfl ?_
  obtain ⟨k1, h⟩ := h
  refine R_getI (pc := 1) fld_RX6_19 rfl rfl k1 d_X6_restore_1 ?_
  refine R_if_ne (pc := 4) (tgt := 18) d_X6_restore_4 (by decide) (fun c => ?_) (fun c => ?_)
  · rw [if_neg c] at h
    refine R_aload_n (pc := 18) d_X6_restore_18 rfl rfl ?_
    refine R_getR (pc := 19) fld_RX6_10 rfl rfl k1 d_X6_restore_19 ?_
    refine R_aload_n (pc := 22) d_X6_restore_22 rfl rfl ?_
    refine R_getR (pc := 23) fld_RX6_16 rfl rfl k1 d_X6_restore_23 ?_
    obtain ⟨k2, h⟩ := h
    refine R_callV (pc := 26) (As := [.ref (g.1 + (rf v0 1))]) (rest := []) (c_X3_copyFrom (g := g) (rf v0 0) (rf v0 1) M _ h) rfl rfl cal_RX6_360 ins_X3_copyFrom sel_X3_copyFrom (cls_at k2 clsOK3) (by decide) (by decide) rfl rfl (Nat.le_of_ble_eq_true rfl) d_X6_restore_26 (k_V (fun M3 h => ?_)) (fun _ _ h9 => False.elim h9)
    try dsimp only at h
    refine R_aload_n (pc := 29) d_X6_restore_29 rfl rfl ?_
    refine R_getR (pc := 30) fld_RX6_26 rfl rfl k1 d_X6_restore_30 ?_
    obtain ⟨k4, h⟩ := h
    refine R_callV (pc := 33) (As := []) (rest := []) (c_X1_forget (g := g) (rf v0 3) M3 _ h) rfl rfl cal_RX6_365 ins_X1_forget sel_X1_forget (cls_at k4 clsOK1) (by decide) (by decide) rfl rfl (Nat.le_of_ble_eq_true rfl) d_X6_restore_33 (k_V (fun M5 h => ?_)) (fun _ _ h9 => False.elim h9)
    try dsimp only at h
    refine R_aload_n (pc := 36) d_X6_restore_36 rfl rfl ?_
    refine R_getR (pc := 37) fld_RX6_10 rfl rfl k1 d_X6_restore_37 ?_
    refine R_iconst (pc := 40) (v := 0) d_X6_restore_40 (by decide) ?_
    refine R_callV (pc := 41) (As := [.int 0]) (rest := []) (c_X3_countStatus (g := g) (rf v0 0) 0 M5 _ h) rfl rfl cal_RX6_301 ins_X3_countStatus sel_X3_countStatus (cls_at k2 clsOK3) (by decide) (by decide) rfl rfl (Nat.le_of_ble_eq_true rfl) d_X6_restore_41 (k_I (fun y7 M6 h => ?_)) (fun _ _ h9 => False.elim h9)
    try dsimp only at h
    exact R_retv (pc := 44) d_X6_restore_44 h
  · rw [if_pos c] at h
    exact R_throwW rfl rfl thr_RX6_82_363_86 (by decide) (by decide) (Nat.le_of_ble_eq_true rfl) d_X6_restore_7 d_X6_restore_10 d_X6_restore_11 d_X6_restore_14 d_X6_restore_17 h
/-! X7_thrown -/
theorem d_X7_thrown_0 : decode mX7_thrown.2.1 0 = .ok (.aload_n 0, 1) := by decide +kernel
theorem d_X7_thrown_1 : decode mX7_thrown.2.1 1 = .ok (.getfield 37, 3) := by decide +kernel
theorem d_X7_thrown_4 : decode mX7_thrown.2.1 4 = .ok (.ireturn, 1) := by decide +kernel
def T_X7_thrown (Q : Int32 → Mem → Prop) (v0 : Nat) (M : Mem) : Prop := (kd v0 = 7) ∧ Q (M.1 v0 0) M
set_option maxRecDepth 100000 in
set_option maxHeartbeats 4000000 in
theorem c_X7_thrown {g : GG} (v0 : Nat) (M : Mem) (Q : Int32 → Mem → Prop) (h : T_X7_thrown Q v0 M) : CT g 9 mX7_thrown [.ref (g.1 + v0)] M 0 (oI Q noX) := by
  refine CT_of (L := [some (.ref (g.1 + v0))]) (by decide) rfl (Nat.le_of_ble_eq_true rfl) (ro_I rfl) rfl ?_
  unfold T_X7_thrown at h
  refine R_aload_n (pc := 0) d_X7_thrown_0 rfl rfl ?_
  obtain ⟨k1, h⟩ := h
  refine R_getI (pc := 1) fld_RX7_37 rfl rfl k1 d_X7_thrown_1 ?_
  exact R_retv (pc := 4) d_X7_thrown_4 h
/-! X7_fails -/
theorem d_X7_fails_0 : decode mX7_fails.2.1 0 = .ok (.aload_n 0, 1) := by decide +kernel
theorem d_X7_fails_1 : decode mX7_fails.2.1 1 = .ok (.iload_n 1, 1) := by decide +kernel
theorem d_X7_fails_2 : decode mX7_fails.2.1 2 = .ok (.putfield 37, 3) := by decide +kernel
theorem d_X7_fails_5 : decode mX7_fails.2.1 5 = .ok (.iconst 0, 1) := by decide +kernel
theorem d_X7_fails_6 : decode mX7_fails.2.1 6 = .ok (.ireturn, 1) := by decide +kernel
def T_X7_fails (Q : Int32 → Mem → Prop) (v0 : Nat) (v1 : Int32) (M : Mem) : Prop := (kd v0 = 7) ∧ ∀ M2 : Mem, M2 = mset M v0 0 v1 → Q 0 M2
set_option maxRecDepth 100000 in
set_option maxHeartbeats 4000000 in
theorem c_X7_fails {g : GG} (v0 : Nat) (v1 : Int32) (M : Mem) (Q : Int32 → Mem → Prop) (h : T_X7_fails Q v0 v1 M) : CT g 9 mX7_fails [.ref (g.1 + v0), .int v1] M 0 (oI Q noX) := by
  refine CT_of (L := [some (.ref (g.1 + v0)), some (.int v1)]) (by decide) rfl (Nat.le_of_ble_eq_true rfl) (ro_I rfl) rfl ?_
  unfold T_X7_fails at h
  refine R_aload_n (pc := 0) d_X7_fails_0 rfl rfl ?_
  refine R_iload_n (pc := 1) d_X7_fails_1 rfl rfl ?_
  obtain ⟨k1, h⟩ := h
  refine R_putI (pc := 2) fld_RX7_37 rfl rfl rfl k1 rfl rfl d_X7_fails_2 (N_M (fun M2 eM2 => ?_))
  have h := h M2 eM2
  refine R_iconst (pc := 5) (v := 0) d_X7_fails_5 (by decide) ?_
  exact R_retv (pc := 6) d_X7_fails_6 h
/-! X7_in -/
theorem d_X7_in_0 : decode mX7_in.2.1 0 = .ok (.iload_n 0, 1) := by decide +kernel
theorem d_X7_in_1 : decode mX7_in.2.1 1 = .ok (.iload_n 1, 1) := by decide +kernel
theorem d_X7_in_2 : decode mX7_in.2.1 2 = .ok (.if_icmp .lt 12, 3) := by decide +kernel
theorem d_X7_in_5 : decode mX7_in.2.1 5 = .ok (.iload_n 0, 1) := by decide +kernel
theorem d_X7_in_6 : decode mX7_in.2.1 6 = .ok (.iload_n 2, 1) := by decide +kernel
theorem d_X7_in_7 : decode mX7_in.2.1 7 = .ok (.if_icmp .gt 7, 3) := by decide +kernel
theorem d_X7_in_10 : decode mX7_in.2.1 10 = .ok (.iconst 1, 1) := by decide +kernel
theorem d_X7_in_11 : decode mX7_in.2.1 11 = .ok (.goto 4, 3) := by decide +kernel
theorem d_X7_in_14 : decode mX7_in.2.1 14 = .ok (.iconst 0, 1) := by decide +kernel
theorem d_X7_in_15 : decode mX7_in.2.1 15 = .ok (.ireturn, 1) := by decide +kernel
def T_X7_in_15 (Q : Int32 → Mem → Prop) (s0 : Int32) (M : Mem) : Prop := ((s0 : Int32) = 0 ∨ (s0 : Int32) = 1) ∧ Q s0 M
set_option maxRecDepth 100000 in
set_option maxHeartbeats 4000000 in
theorem B_X7_in_15 {g : GG} (Q : Int32 → Mem → Prop) (s0 : Int32) (M : Mem) (h : T_X7_in_15 Q s0 M) : WP g 9 mX7_in 15 [none, none, none] [.int s0] M 0 (oZ Q noX) := by
  unfold T_X7_in_15 at h
  exact R_retv (pc := 15) d_X7_in_15 h
def T_X7_in_14 (Q : Int32 → Mem → Prop) (M : Mem) : Prop := T_X7_in_15 Q 0 M
set_option maxRecDepth 100000 in
set_option maxHeartbeats 4000000 in
theorem B_X7_in_14 {g : GG} (Q : Int32 → Mem → Prop) (M : Mem) (h : T_X7_in_14 Q  M) : WP g 9 mX7_in 14 [none, none, none] [] M 0 (oZ Q noX) := by
  unfold T_X7_in_14 at h
  refine R_iconst (pc := 14) (v := 0) d_X7_in_14 (by decide) ?_
  exact WP_sub (B_X7_in_15 Q 0 M h) (by decide) (ls_n (ls_n (ls_n ls_0)))
def T_X7_in (Q : Int32 → Mem → Prop) (v0 : Int32) (v1 : Int32) (v2 : Int32) (M : Mem) : Prop := if v0 < v1 then (T_X7_in_14 Q M) else (if v2 < v0 then (T_X7_in_14 Q M) else (T_X7_in_15 Q 1 M))
set_option maxRecDepth 100000 in
set_option maxHeartbeats 4000000 in
theorem c_X7_in {g : GG} (v0 : Int32) (v1 : Int32) (v2 : Int32) (M : Mem) (Q : Int32 → Mem → Prop) (h : T_X7_in Q v0 v1 v2 M) : CT g 9 mX7_in [.int v0, .int v1, .int v2] M 0 (oZ Q noX) := by
  refine CT_of (L := [some (.int v0), some (.int v1), some (.int v2)]) (by decide) rfl (Nat.le_of_ble_eq_true rfl) (ro_Z rfl) rfl ?_
  unfold T_X7_in at h
  refine R_iload_n (pc := 0) d_X7_in_0 rfl rfl ?_
  refine R_iload_n (pc := 1) d_X7_in_1 rfl rfl ?_
  refine R_icmp_lt (pc := 2) (tgt := 14) d_X7_in_2 (by decide) (fun c => ?_) (fun c => ?_)
  · rw [if_pos c] at h
    exact WP_sub (B_X7_in_14 Q M h) (by decide) (ls_n (ls_n (ls_n ls_0)))
  · rw [if_neg c] at h
    refine R_iload_n (pc := 5) d_X7_in_5 rfl rfl ?_
    refine R_iload_n (pc := 6) d_X7_in_6 rfl rfl ?_
    refine R_icmp_gt (pc := 7) (tgt := 14) d_X7_in_7 (by decide) (fun c => ?_) (fun c => ?_)
    · rw [if_pos c] at h
      exact WP_sub (B_X7_in_14 Q M h) (by decide) (ls_n (ls_n (ls_n ls_0)))
    · rw [if_neg c] at h
      refine R_iconst (pc := 10) (v := 1) d_X7_in_10 (by decide) ?_
      refine R_goto (pc := 11) (tgt := 15) d_X7_in_11 (by decide) ?_
      exact WP_sub (B_X7_in_15 Q 1 M h) (by decide) (ls_n (ls_n (ls_n ls_0)))
/-! X7_isInmate -/
theorem d_X7_isInmate_0 : decode mX7_isInmate.2.1 0 = .ok (.iload_n 1, 1) := by decide +kernel
theorem d_X7_isInmate_1 : decode mX7_isInmate.2.1 1 = .ok (.iconst 0, 1) := by decide +kernel
theorem d_X7_isInmate_2 : decode mX7_isInmate.2.1 2 = .ok (.aload_n 0, 1) := by decide +kernel
theorem d_X7_isInmate_3 : decode mX7_isInmate.2.1 3 = .ok (.getfield 7, 3) := by decide +kernel
theorem d_X7_isInmate_6 : decode mX7_isInmate.2.1 6 = .ok (.iconst 1, 1) := by decide +kernel
theorem d_X7_isInmate_7 : decode mX7_isInmate.2.1 7 = .ok (.iaload, 1) := by decide +kernel
theorem d_X7_isInmate_8 : decode mX7_isInmate.2.1 8 = .ok (.iconst 1, 1) := by decide +kernel
theorem d_X7_isInmate_9 : decode mX7_isInmate.2.1 9 = .ok (.isub, 1) := by decide +kernel
theorem d_X7_isInmate_10 : decode mX7_isInmate.2.1 10 = .ok (.invokestatic 41, 3) := by decide +kernel
theorem d_X7_isInmate_13 : decode mX7_isInmate.2.1 13 = .ok (.ireturn, 1) := by decide +kernel
def T_X7_isInmate (Q : Int32 → Mem → Prop) (v0 : Nat) (v1 : Int32) (M : Mem) : Prop := (kd v0 = 7) ∧ (kd (rf v0 1) = 9) ∧ (vp_in 1 (ln (rf v0 1))) ∧ T_X7_in (fun y5 M4 => ((y5 : Int32) = 0 ∨ (y5 : Int32) = 1) ∧ Q y5 M4)  v1 0 ((M.1 (rf v0 1) (Int32.toNatClampNeg 1)) - 1) M
set_option maxRecDepth 100000 in
set_option maxHeartbeats 4000000 in
theorem c_X7_isInmate {g : GG} (v0 : Nat) (v1 : Int32) (M : Mem) (Q : Int32 → Mem → Prop) (h : T_X7_isInmate Q v0 v1 M) : CT g 10 mX7_isInmate [.ref (g.1 + v0), .int v1] M 0 (oZ Q noX) := by
  refine CT_of (L := [some (.ref (g.1 + v0)), some (.int v1)]) (by decide) rfl (Nat.le_of_ble_eq_true rfl) (ro_Z rfl) rfl ?_
  unfold T_X7_isInmate at h
  refine R_iload_n (pc := 0) d_X7_isInmate_0 rfl rfl ?_
  refine R_iconst (pc := 1) (v := 0) d_X7_isInmate_1 (by decide) ?_
  refine R_aload_n (pc := 2) d_X7_isInmate_2 rfl rfl ?_
  obtain ⟨k1, h⟩ := h
  refine R_getR (pc := 3) fld_RX7_7 rfl rfl k1 d_X7_isInmate_3 ?_
  refine R_iconst (pc := 6) (v := 1) d_X7_isInmate_6 (by decide) ?_
  obtain ⟨k2, h⟩ := h
  obtain ⟨k3, h⟩ := h
  refine R_iald (pc := 7) k2 k3 d_X7_isInmate_7 ?_
  refine R_iconst (pc := 8) (v := 1) d_X7_isInmate_8 (by decide) ?_
  refine R_isub (pc := 9) d_X7_isInmate_9 ?_
  refine R_callS (pc := 10) (As := [.int v1, .int 0, .int ((M.1 (rf v0 1) (Int32.toNatClampNeg 1)) - 1)]) (rest := []) (c_X7_in (g := g) v1 0 ((M.1 (rf v0 1) (Int32.toNatClampNeg 1)) - 1) M _ h) rfl rfl cal_RX7_41 sta_X7_in (by decide) (by decide) rfl rfl (Nat.le_of_ble_eq_true rfl) d_X7_isInmate_10 (k_Z (fun y5 M4 h => ?_)) (fun _ _ h9 => False.elim h9)
  try dsimp only at h
  exact R_retv (pc := 13) d_X7_isInmate_13 h
/-! X7_isRoom -/
theorem d_X7_isRoom_0 : decode mX7_isRoom.2.1 0 = .ok (.iload_n 1, 1) := by decide +kernel
theorem d_X7_isRoom_1 : decode mX7_isRoom.2.1 1 = .ok (.iconst 0, 1) := by decide +kernel
theorem d_X7_isRoom_2 : decode mX7_isRoom.2.1 2 = .ok (.aload_n 0, 1) := by decide +kernel
theorem d_X7_isRoom_3 : decode mX7_isRoom.2.1 3 = .ok (.getfield 7, 3) := by decide +kernel
theorem d_X7_isRoom_6 : decode mX7_isRoom.2.1 6 = .ok (.iconst 3, 1) := by decide +kernel
theorem d_X7_isRoom_7 : decode mX7_isRoom.2.1 7 = .ok (.iaload, 1) := by decide +kernel
theorem d_X7_isRoom_8 : decode mX7_isRoom.2.1 8 = .ok (.iconst 1, 1) := by decide +kernel
theorem d_X7_isRoom_9 : decode mX7_isRoom.2.1 9 = .ok (.isub, 1) := by decide +kernel
theorem d_X7_isRoom_10 : decode mX7_isRoom.2.1 10 = .ok (.invokestatic 41, 3) := by decide +kernel
theorem d_X7_isRoom_13 : decode mX7_isRoom.2.1 13 = .ok (.ireturn, 1) := by decide +kernel
def T_X7_isRoom (Q : Int32 → Mem → Prop) (v0 : Nat) (v1 : Int32) (M : Mem) : Prop := (kd v0 = 7) ∧ (kd (rf v0 1) = 9) ∧ (vp_in 3 (ln (rf v0 1))) ∧ T_X7_in (fun y5 M4 => ((y5 : Int32) = 0 ∨ (y5 : Int32) = 1) ∧ Q y5 M4)  v1 0 ((M.1 (rf v0 1) (Int32.toNatClampNeg 3)) - 1) M
set_option maxRecDepth 100000 in
set_option maxHeartbeats 4000000 in
theorem c_X7_isRoom {g : GG} (v0 : Nat) (v1 : Int32) (M : Mem) (Q : Int32 → Mem → Prop) (h : T_X7_isRoom Q v0 v1 M) : CT g 10 mX7_isRoom [.ref (g.1 + v0), .int v1] M 0 (oZ Q noX) := by
  refine CT_of (L := [some (.ref (g.1 + v0)), some (.int v1)]) (by decide) rfl (Nat.le_of_ble_eq_true rfl) (ro_Z rfl) rfl ?_
  unfold T_X7_isRoom at h
  refine R_iload_n (pc := 0) d_X7_isRoom_0 rfl rfl ?_
  refine R_iconst (pc := 1) (v := 0) d_X7_isRoom_1 (by decide) ?_
  refine R_aload_n (pc := 2) d_X7_isRoom_2 rfl rfl ?_
  obtain ⟨k1, h⟩ := h
  refine R_getR (pc := 3) fld_RX7_7 rfl rfl k1 d_X7_isRoom_3 ?_
  refine R_iconst (pc := 6) (v := 3) d_X7_isRoom_6 (by decide) ?_
  obtain ⟨k2, h⟩ := h
  obtain ⟨k3, h⟩ := h
  refine R_iald (pc := 7) k2 k3 d_X7_isRoom_7 ?_
  refine R_iconst (pc := 8) (v := 1) d_X7_isRoom_8 (by decide) ?_
  refine R_isub (pc := 9) d_X7_isRoom_9 ?_
  refine R_callS (pc := 10) (As := [.int v1, .int 0, .int ((M.1 (rf v0 1) (Int32.toNatClampNeg 3)) - 1)]) (rest := []) (c_X7_in (g := g) v1 0 ((M.1 (rf v0 1) (Int32.toNatClampNeg 3)) - 1) M _ h) rfl rfl cal_RX7_41 sta_X7_in (by decide) (by decide) rfl rfl (Nat.le_of_ble_eq_true rfl) d_X7_isRoom_10 (k_Z (fun y5 M4 h => ?_)) (fun _ _ h9 => False.elim h9)
  try dsimp only at h
  exact R_retv (pc := 13) d_X7_isRoom_13 h
/-! X7_isVisit -/
theorem d_X7_isVisit_0 : decode mX7_isVisit.2.1 0 = .ok (.iload_n 1, 1) := by decide +kernel
theorem d_X7_isVisit_1 : decode mX7_isVisit.2.1 1 = .ok (.iconst 0, 1) := by decide +kernel
theorem d_X7_isVisit_2 : decode mX7_isVisit.2.1 2 = .ok (.aload_n 0, 1) := by decide +kernel
theorem d_X7_isVisit_3 : decode mX7_isVisit.2.1 3 = .ok (.getfield 7, 3) := by decide +kernel
theorem d_X7_isVisit_6 : decode mX7_isVisit.2.1 6 = .ok (.iconst 4, 1) := by decide +kernel
theorem d_X7_isVisit_7 : decode mX7_isVisit.2.1 7 = .ok (.iaload, 1) := by decide +kernel
theorem d_X7_isVisit_8 : decode mX7_isVisit.2.1 8 = .ok (.iconst 1, 1) := by decide +kernel
theorem d_X7_isVisit_9 : decode mX7_isVisit.2.1 9 = .ok (.isub, 1) := by decide +kernel
theorem d_X7_isVisit_10 : decode mX7_isVisit.2.1 10 = .ok (.invokestatic 41, 3) := by decide +kernel
theorem d_X7_isVisit_13 : decode mX7_isVisit.2.1 13 = .ok (.ireturn, 1) := by decide +kernel
def T_X7_isVisit (Q : Int32 → Mem → Prop) (v0 : Nat) (v1 : Int32) (M : Mem) : Prop := (kd v0 = 7) ∧ (kd (rf v0 1) = 9) ∧ (vp_in 4 (ln (rf v0 1))) ∧ T_X7_in (fun y5 M4 => ((y5 : Int32) = 0 ∨ (y5 : Int32) = 1) ∧ Q y5 M4)  v1 0 ((M.1 (rf v0 1) (Int32.toNatClampNeg 4)) - 1) M
set_option maxRecDepth 100000 in
set_option maxHeartbeats 4000000 in
theorem c_X7_isVisit {g : GG} (v0 : Nat) (v1 : Int32) (M : Mem) (Q : Int32 → Mem → Prop) (h : T_X7_isVisit Q v0 v1 M) : CT g 10 mX7_isVisit [.ref (g.1 + v0), .int v1] M 0 (oZ Q noX) := by
  refine CT_of (L := [some (.ref (g.1 + v0)), some (.int v1)]) (by decide) rfl (Nat.le_of_ble_eq_true rfl) (ro_Z rfl) rfl ?_
  unfold T_X7_isVisit at h
  refine R_iload_n (pc := 0) d_X7_isVisit_0 rfl rfl ?_
  refine R_iconst (pc := 1) (v := 0) d_X7_isVisit_1 (by decide) ?_
  refine R_aload_n (pc := 2) d_X7_isVisit_2 rfl rfl ?_
  obtain ⟨k1, h⟩ := h
  refine R_getR (pc := 3) fld_RX7_7 rfl rfl k1 d_X7_isVisit_3 ?_
  refine R_iconst (pc := 6) (v := 4) d_X7_isVisit_6 (by decide) ?_
  obtain ⟨k2, h⟩ := h
  obtain ⟨k3, h⟩ := h
  refine R_iald (pc := 7) k2 k3 d_X7_isVisit_7 ?_
  refine R_iconst (pc := 8) (v := 1) d_X7_isVisit_8 (by decide) ?_
  refine R_isub (pc := 9) d_X7_isVisit_9 ?_
  refine R_callS (pc := 10) (As := [.int v1, .int 0, .int ((M.1 (rf v0 1) (Int32.toNatClampNeg 4)) - 1)]) (rest := []) (c_X7_in (g := g) v1 0 ((M.1 (rf v0 1) (Int32.toNatClampNeg 4)) - 1) M _ h) rfl rfl cal_RX7_41 sta_X7_in (by decide) (by decide) rfl rfl (Nat.le_of_ble_eq_true rfl) d_X7_isVisit_10 (k_Z (fun y5 M4 h => ?_)) (fun _ _ h9 => False.elim h9)
  try dsimp only at h
  exact R_retv (pc := 13) d_X7_isVisit_13 h
/-! X7_of -/
theorem d_X7_of_0 : decode mX7_of.2.1 0 = .ok (.aload_n 0, 1) := by decide +kernel
theorem d_X7_of_1 : decode mX7_of.2.1 1 = .ok (.getfield 7, 3) := by decide +kernel
theorem d_X7_of_4 : decode mX7_of.2.1 4 = .ok (.bipush 78, 2) := by decide +kernel
theorem d_X7_of_6 : decode mX7_of.2.1 6 = .ok (.bipush 6, 2) := by decide +kernel
theorem d_X7_of_8 : decode mX7_of.2.1 8 = .ok (.iload_n 1, 1) := by decide +kernel
theorem d_X7_of_9 : decode mX7_of.2.1 9 = .ok (.imul, 1) := by decide +kernel
theorem d_X7_of_10 : decode mX7_of.2.1 10 = .ok (.iadd, 1) := by decide +kernel
theorem d_X7_of_11 : decode mX7_of.2.1 11 = .ok (.iload_n 2, 1) := by decide +kernel
theorem d_X7_of_12 : decode mX7_of.2.1 12 = .ok (.iadd, 1) := by decide +kernel
theorem d_X7_of_13 : decode mX7_of.2.1 13 = .ok (.iaload, 1) := by decide +kernel
theorem d_X7_of_14 : decode mX7_of.2.1 14 = .ok (.ireturn, 1) := by decide +kernel
def T_X7_of (Q : Int32 → Mem → Prop) (v0 : Nat) (v1 : Int32) (v2 : Int32) (M : Mem) : Prop := (kd v0 = 7) ∧ (kd (rf v0 1) = 9) ∧ (vp_in ((78 + (6 * v1)) + v2) (ln (rf v0 1))) ∧ Q (M.1 (rf v0 1) (Int32.toNatClampNeg ((78 + (6 * v1)) + v2))) M
set_option maxRecDepth 100000 in
set_option maxHeartbeats 4000000 in
theorem c_X7_of {g : GG} (v0 : Nat) (v1 : Int32) (v2 : Int32) (M : Mem) (Q : Int32 → Mem → Prop) (h : T_X7_of Q v0 v1 v2 M) : CT g 9 mX7_of [.ref (g.1 + v0), .int v1, .int v2] M 0 (oI Q noX) := by
  refine CT_of (L := [some (.ref (g.1 + v0)), some (.int v1), some (.int v2)]) (by decide) rfl (Nat.le_of_ble_eq_true rfl) (ro_I rfl) rfl ?_
  unfold T_X7_of at h
  refine R_aload_n (pc := 0) d_X7_of_0 rfl rfl ?_
  obtain ⟨k1, h⟩ := h
  refine R_getR (pc := 1) fld_RX7_7 rfl rfl k1 d_X7_of_1 ?_
  refine R_bipush (pc := 4) (v := 78) d_X7_of_4 (by decide) ?_
  refine R_bipush (pc := 6) (v := 6) d_X7_of_6 (by decide) ?_
  refine R_iload_n (pc := 8) d_X7_of_8 rfl rfl ?_
  refine R_imul (pc := 9) d_X7_of_9 ?_
  refine R_iadd (pc := 10) d_X7_of_10 ?_
  refine R_iload_n (pc := 11) d_X7_of_11 rfl rfl ?_
  refine R_iadd (pc := 12) d_X7_of_12 ?_
  obtain ⟨k2, h⟩ := h
  obtain ⟨k3, h⟩ := h
  refine R_iald (pc := 13) k2 k3 d_X7_of_13 ?_
  exact R_retv (pc := 14) d_X7_of_14 h
/-! X7_size -/
theorem d_X7_size_0 : decode mX7_size.2.1 0 = .ok (.iload_n 0, 1) := by decide +kernel
theorem d_X7_size_1 : decode mX7_size.2.1 1 = .ok (.ifCond .ge 8, 3) := by decide +kernel
theorem d_X7_size_4 : decode mX7_size.2.1 4 = .ok (.iload_n 0, 1) := by decide +kernel
theorem d_X7_size_5 : decode mX7_size.2.1 5 = .ok (.ineg, 1) := by decide +kernel
theorem d_X7_size_6 : decode mX7_size.2.1 6 = .ok (.goto 4, 3) := by decide +kernel
theorem d_X7_size_9 : decode mX7_size.2.1 9 = .ok (.iload_n 0, 1) := by decide +kernel
theorem d_X7_size_10 : decode mX7_size.2.1 10 = .ok (.ireturn, 1) := by decide +kernel
def T_X7_size_10 (Q : Int32 → Mem → Prop) (s0 : Int32) (M : Mem) : Prop := Q s0 M
set_option maxRecDepth 100000 in
set_option maxHeartbeats 4000000 in
theorem B_X7_size_10 {g : GG} (Q : Int32 → Mem → Prop) (s0 : Int32) (M : Mem) (h : T_X7_size_10 Q s0 M) : WP g 9 mX7_size 10 [none] [.int s0] M 0 (oI Q noX) := by
  unfold T_X7_size_10 at h
  exact R_retv (pc := 10) d_X7_size_10 h
def T_X7_size (Q : Int32 → Mem → Prop) (v0 : Int32) (M : Mem) : Prop := if 0 ≤ v0 then (T_X7_size_10 Q v0 M) else (T_X7_size_10 Q (-v0) M)
set_option maxRecDepth 100000 in
set_option maxHeartbeats 4000000 in
theorem c_X7_size {g : GG} (v0 : Int32) (M : Mem) (Q : Int32 → Mem → Prop) (h : T_X7_size Q v0 M) : CT g 9 mX7_size [.int v0] M 0 (oI Q noX) := by
  refine CT_of (L := [some (.int v0)]) (by decide) rfl (Nat.le_of_ble_eq_true rfl) (ro_I rfl) rfl ?_
  unfold T_X7_size at h
  refine R_iload_n (pc := 0) d_X7_size_0 rfl rfl ?_
  refine R_if_ge (pc := 1) (tgt := 9) d_X7_size_1 (by decide) (fun c => ?_) (fun c => ?_)
  · rw [if_pos c] at h
    refine R_iload_n (pc := 9) d_X7_size_9 rfl rfl ?_
    exact WP_sub (B_X7_size_10 Q v0 M h) (by decide) (ls_n ls_0)
  · rw [if_neg c] at h
    refine R_iload_n (pc := 4) d_X7_size_4 rfl rfl ?_
    refine R_ineg (pc := 5) d_X7_size_5 ?_
    refine R_goto (pc := 6) (tgt := 10) d_X7_size_6 (by decide) ?_
    exact WP_sub (B_X7_size_10 Q (-v0) M h) (by decide) (ls_n ls_0)
/-! X7_bits -/
theorem d_X7_bits_0 : decode mX7_bits.2.1 0 = .ok (.iconst 0, 1) := by decide +kernel
theorem d_X7_bits_1 : decode mX7_bits.2.1 1 = .ok (.istore_n 1, 1) := by decide +kernel
theorem d_X7_bits_2 : decode mX7_bits.2.1 2 = .ok (.iconst 0, 1) := by decide +kernel
theorem d_X7_bits_3 : decode mX7_bits.2.1 3 = .ok (.istore_n 2, 1) := by decide +kernel
theorem d_X7_bits_4 : decode mX7_bits.2.1 4 = .ok (.iload_n 2, 1) := by decide +kernel
theorem d_X7_bits_5 : decode mX7_bits.2.1 5 = .ok (.bipush 12, 2) := by decide +kernel
theorem d_X7_bits_7 : decode mX7_bits.2.1 7 = .ok (.if_icmp .ge 17, 3) := by decide +kernel
theorem d_X7_bits_10 : decode mX7_bits.2.1 10 = .ok (.iload_n 1, 1) := by decide +kernel
theorem d_X7_bits_11 : decode mX7_bits.2.1 11 = .ok (.iload_n 0, 1) := by decide +kernel
theorem d_X7_bits_12 : decode mX7_bits.2.1 12 = .ok (.iload_n 2, 1) := by decide +kernel
theorem d_X7_bits_13 : decode mX7_bits.2.1 13 = .ok (.ishr, 1) := by decide +kernel
theorem d_X7_bits_14 : decode mX7_bits.2.1 14 = .ok (.iconst 1, 1) := by decide +kernel
theorem d_X7_bits_15 : decode mX7_bits.2.1 15 = .ok (.iand, 1) := by decide +kernel
theorem d_X7_bits_16 : decode mX7_bits.2.1 16 = .ok (.iadd, 1) := by decide +kernel
theorem d_X7_bits_17 : decode mX7_bits.2.1 17 = .ok (.istore_n 1, 1) := by decide +kernel
theorem d_X7_bits_18 : decode mX7_bits.2.1 18 = .ok (.iinc 2 1, 3) := by decide +kernel
theorem d_X7_bits_21 : decode mX7_bits.2.1 21 = .ok (.goto (-17), 3) := by decide +kernel
theorem d_X7_bits_24 : decode mX7_bits.2.1 24 = .ok (.iload_n 1, 1) := by decide +kernel
theorem d_X7_bits_25 : decode mX7_bits.2.1 25 = .ok (.ireturn, 1) := by decide +kernel
def T_X7_bits_4 (Q : Int32 → Mem → Prop) : Nat → Int32 → Int32 → Int32 → Mem → Prop
  | 0, _, _, _, _ => False
  | n + 1, v0, v1, v2, M => if (12 : Int32) ≤ v2 then (Q v1 M) else (∀ x1 : Int32, x1 = v1 + ((v0 >>> (v2 &&& 31)) &&& 1) → ∀ x2 : Int32, x2 = v2 + 1 → (T_X7_bits_4 Q n) v0 x1 x2 M)
set_option maxRecDepth 100000 in
set_option maxHeartbeats 4000000 in
theorem B_X7_bits_4 {g : GG} (Q : Int32 → Mem → Prop) : ∀ (n : Nat) (v0 : Int32) (v1 : Int32) (v2 : Int32) (M : Mem), T_X7_bits_4 Q n v0 v1 v2 M → WP g 9 mX7_bits 4 [some (.int v0), some (.int v1), some (.int v2)] [] M 0 (oI Q noX) := by
  intro n
  induction n with
  | zero => intro v0 v1 v2 M h; exact h.elim
  | succ n hκ4 =>
    intro v0 v1 v2 M h
    unfold T_X7_bits_4 at h
    refine R_iload_n (pc := 4) d_X7_bits_4 rfl rfl ?_
    refine R_bipush (pc := 5) (v := 12) d_X7_bits_5 (by decide) ?_
    refine R_icmp_ge (pc := 7) (tgt := 24) d_X7_bits_7 (by decide) (fun c => ?_) (fun c => ?_)
    · rw [if_pos c] at h
      refine R_iload_n (pc := 24) d_X7_bits_24 rfl rfl ?_
      exact R_retv (pc := 25) d_X7_bits_25 h
    · rw [if_neg c] at h
      refine R_iload_n (pc := 10) d_X7_bits_10 rfl rfl ?_
      refine R_iload_n (pc := 11) d_X7_bits_11 rfl rfl ?_
      refine R_iload_n (pc := 12) d_X7_bits_12 rfl rfl ?_
      refine R_ishr (pc := 13) d_X7_bits_13 ?_
      refine R_iconst (pc := 14) (v := 1) d_X7_bits_14 (by decide) ?_
      refine R_iand (pc := 15) d_X7_bits_15 ?_
      refine R_iadd (pc := 16) d_X7_bits_16 ?_
      refine N_i (fun x1 ex1 => ?_)
      have h := h x1 ex1
      refine R_istore_n (pc := 17) (L' := [some (.int v0), some (.int x1), some (.int v2)]) d_X7_bits_17 rfl (by decide) rfl ?_
      obtain ⟨x2, ex2⟩ : ∃ z : Int32, z = v2 + 1 := ⟨_, rfl⟩
      have h := h x2 ex2
      refine R_iinc (pc := 18) (v := x2) (L' := [some (.int v0), some (.int x1), some (.int x2)]) d_X7_bits_18 rfl (by rw [ex2]; rfl) (by decide) rfl ?_
      refine R_goto (pc := 21) (tgt := 4) d_X7_bits_21 (by decide) ?_
      exact WP_sub (hκ4 v0 x1 x2 M h) (by decide) (ls_s (ls_s (ls_s ls_0)))
def T_X7_bits (Q : Int32 → Mem → Prop) (v0 : Int32) (M : Mem) : Prop := (∃ N : Nat, T_X7_bits_4 Q N v0 0 0 M)
set_option maxRecDepth 100000 in
set_option maxHeartbeats 4000000 in
theorem c_X7_bits {g : GG} (v0 : Int32) (M : Mem) (Q : Int32 → Mem → Prop) (h : T_X7_bits Q v0 M) : CT g 9 mX7_bits [.int v0] M 0 (oI Q noX) := by
  refine CT_of (L := [some (.int v0), none, none]) (by decide) rfl (Nat.le_of_ble_eq_true rfl) (ro_I rfl) rfl ?_
  unfold T_X7_bits at h
  refine R_iconst (pc := 0) (v := 0) d_X7_bits_0 (by decide) ?_
  refine R_istore_n (pc := 1) (L' := [some (.int v0), some (.int 0), none]) d_X7_bits_1 rfl (by decide) rfl ?_
  refine R_iconst (pc := 2) (v := 0) d_X7_bits_2 (by decide) ?_
  refine R_istore_n (pc := 3) (L' := [some (.int v0), some (.int 0), some (.int 0)]) d_X7_bits_3 rfl (by decide) rfl ?_
  obtain ⟨N, h⟩ := h
  exact WP_sub (B_X7_bits_4 Q N v0 0 0 M h) (by decide) (ls_s (ls_s (ls_s ls_0)))
/-! X7_isBooked -/
theorem d_X7_isBooked_0 : decode mX7_isBooked.2.1 0 = .ok (.aload_n 0, 1) := by decide +kernel
theorem d_X7_isBooked_1 : decode mX7_isBooked.2.1 1 = .ok (.iload_n 1, 1) := by decide +kernel
theorem d_X7_isBooked_2 : decode mX7_isBooked.2.1 2 = .ok (.iconst 5, 1) := by decide +kernel
theorem d_X7_isBooked_3 : decode mX7_isBooked.2.1 3 = .ok (.invokevirtual 45, 3) := by decide +kernel
theorem d_X7_isBooked_6 : decode mX7_isBooked.2.1 6 = .ok (.ifCond .ne 7, 3) := by decide +kernel
theorem d_X7_isBooked_9 : decode mX7_isBooked.2.1 9 = .ok (.iconst 1, 1) := by decide +kernel
theorem d_X7_isBooked_10 : decode mX7_isBooked.2.1 10 = .ok (.goto 4, 3) := by decide +kernel
theorem d_X7_isBooked_13 : decode mX7_isBooked.2.1 13 = .ok (.iconst 0, 1) := by decide +kernel
theorem d_X7_isBooked_14 : decode mX7_isBooked.2.1 14 = .ok (.ireturn, 1) := by decide +kernel
def T_X7_isBooked_14 (Q : Int32 → Mem → Prop) (s0 : Int32) (M : Mem) : Prop := ((s0 : Int32) = 0 ∨ (s0 : Int32) = 1) ∧ Q s0 M
set_option maxRecDepth 100000 in
set_option maxHeartbeats 4000000 in
theorem B_X7_isBooked_14 {g : GG} (Q : Int32 → Mem → Prop) (s0 : Int32) (M : Mem) (h : T_X7_isBooked_14 Q s0 M) : WP g 10 mX7_isBooked 14 [none, none] [.int s0] M 0 (oZ Q noX) := by
  unfold T_X7_isBooked_14 at h
  exact R_retv (pc := 14) d_X7_isBooked_14 h
def T_X7_isBooked (Q : Int32 → Mem → Prop) (v0 : Nat) (v1 : Int32) (M : Mem) : Prop := (kd v0 = 7) ∧ T_X7_of (fun y3 M2 => if y3 = 0 then (T_X7_isBooked_14 Q 1 M2) else (T_X7_isBooked_14 Q 0 M2))  v0 v1 5 M
set_option maxRecDepth 100000 in
set_option maxHeartbeats 4000000 in
theorem c_X7_isBooked {g : GG} (v0 : Nat) (v1 : Int32) (M : Mem) (Q : Int32 → Mem → Prop) (h : T_X7_isBooked Q v0 v1 M) : CT g 10 mX7_isBooked [.ref (g.1 + v0), .int v1] M 0 (oZ Q noX) := by
  refine CT_of (L := [some (.ref (g.1 + v0)), some (.int v1)]) (by decide) rfl (Nat.le_of_ble_eq_true rfl) (ro_Z rfl) rfl ?_
  unfold T_X7_isBooked at h
  refine R_aload_n (pc := 0) d_X7_isBooked_0 rfl rfl ?_
  refine R_iload_n (pc := 1) d_X7_isBooked_1 rfl rfl ?_
  refine R_iconst (pc := 2) (v := 5) d_X7_isBooked_2 (by decide) ?_
  obtain ⟨k1, h⟩ := h
  refine R_callV (pc := 3) (As := [.int v1, .int 5]) (rest := []) (c_X7_of (g := g) v0 v1 5 M _ h) rfl rfl cal_RX7_45 ins_X7_of sel_X7_of (cls_at k1 clsOK7) (by decide) (by decide) rfl rfl (Nat.le_of_ble_eq_true rfl) d_X7_isBooked_3 (k_I (fun y3 M2 h => ?_)) (fun _ _ h9 => False.elim h9)
  try dsimp only at h
  refine R_if_ne (pc := 6) (tgt := 13) d_X7_isBooked_6 (by decide) (fun c => ?_) (fun c => ?_)
  · rw [if_neg c] at h
    refine R_iconst (pc := 13) (v := 0) d_X7_isBooked_13 (by decide) ?_
    exact WP_sub (B_X7_isBooked_14 Q 0 M2 h) (by decide) (ls_n (ls_n ls_0))
  · rw [if_pos c] at h
    refine R_iconst (pc := 9) (v := 1) d_X7_isBooked_9 (by decide) ?_
    refine R_goto (pc := 10) (tgt := 14) d_X7_isBooked_10 (by decide) ?_
    exact WP_sub (B_X7_isBooked_14 Q 1 M2 h) (by decide) (ls_n (ls_n ls_0))
/-! X7_isIn -/
theorem d_X7_isIn_0 : decode mX7_isIn.2.1 0 = .ok (.aload_n 0, 1) := by decide +kernel
theorem d_X7_isIn_1 : decode mX7_isIn.2.1 1 = .ok (.iload_n 1, 1) := by decide +kernel
theorem d_X7_isIn_2 : decode mX7_isIn.2.1 2 = .ok (.invokevirtual 49, 3) := by decide +kernel
theorem d_X7_isIn_5 : decode mX7_isIn.2.1 5 = .ok (.ifCond .eq 27, 3) := by decide +kernel
theorem d_X7_isIn_8 : decode mX7_isIn.2.1 8 = .ok (.aload_n 0, 1) := by decide +kernel
theorem d_X7_isIn_9 : decode mX7_isIn.2.1 9 = .ok (.iload_n 1, 1) := by decide +kernel
theorem d_X7_isIn_10 : decode mX7_isIn.2.1 10 = .ok (.iconst 2, 1) := by decide +kernel
theorem d_X7_isIn_11 : decode mX7_isIn.2.1 11 = .ok (.invokevirtual 45, 3) := by decide +kernel
theorem d_X7_isIn_14 : decode mX7_isIn.2.1 14 = .ok (.iload_n 2, 1) := by decide +kernel
theorem d_X7_isIn_15 : decode mX7_isIn.2.1 15 = .ok (.if_icmp .ne 17, 3) := by decide +kernel
theorem d_X7_isIn_18 : decode mX7_isIn.2.1 18 = .ok (.aload_n 0, 1) := by decide +kernel
theorem d_X7_isIn_19 : decode mX7_isIn.2.1 19 = .ok (.iload_n 1, 1) := by decide +kernel
theorem d_X7_isIn_20 : decode mX7_isIn.2.1 20 = .ok (.iconst 3, 1) := by decide +kernel
theorem d_X7_isIn_21 : decode mX7_isIn.2.1 21 = .ok (.invokevirtual 45, 3) := by decide +kernel
theorem d_X7_isIn_24 : decode mX7_isIn.2.1 24 = .ok (.iload_n 3, 1) := by decide +kernel
theorem d_X7_isIn_25 : decode mX7_isIn.2.1 25 = .ok (.if_icmp .ne 7, 3) := by decide +kernel
theorem d_X7_isIn_28 : decode mX7_isIn.2.1 28 = .ok (.iconst 1, 1) := by decide +kernel
theorem d_X7_isIn_29 : decode mX7_isIn.2.1 29 = .ok (.goto 4, 3) := by decide +kernel
theorem d_X7_isIn_32 : decode mX7_isIn.2.1 32 = .ok (.iconst 0, 1) := by decide +kernel
theorem d_X7_isIn_33 : decode mX7_isIn.2.1 33 = .ok (.ireturn, 1) := by decide +kernel
def T_X7_isIn_33 (Q : Int32 → Mem → Prop) (s0 : Int32) (M : Mem) : Prop := ((s0 : Int32) = 0 ∨ (s0 : Int32) = 1) ∧ Q s0 M
set_option maxRecDepth 100000 in
set_option maxHeartbeats 4000000 in
theorem B_X7_isIn_33 {g : GG} (Q : Int32 → Mem → Prop) (s0 : Int32) (M : Mem) (h : T_X7_isIn_33 Q s0 M) : WP g 11 mX7_isIn 33 [none, none, none, none] [.int s0] M 0 (oZ Q noX) := by
  unfold T_X7_isIn_33 at h
  exact R_retv (pc := 33) d_X7_isIn_33 h
def T_X7_isIn_32 (Q : Int32 → Mem → Prop) (M : Mem) : Prop := T_X7_isIn_33 Q 0 M
set_option maxRecDepth 100000 in
set_option maxHeartbeats 4000000 in
theorem B_X7_isIn_32 {g : GG} (Q : Int32 → Mem → Prop) (M : Mem) (h : T_X7_isIn_32 Q  M) : WP g 11 mX7_isIn 32 [none, none, none, none] [] M 0 (oZ Q noX) := by
  unfold T_X7_isIn_32 at h
  refine R_iconst (pc := 32) (v := 0) d_X7_isIn_32 (by decide) ?_
  exact WP_sub (B_X7_isIn_33 Q 0 M h) (by decide) (ls_n (ls_n (ls_n (ls_n ls_0))))
def T_X7_isIn (Q : Int32 → Mem → Prop) (v0 : Nat) (v1 : Int32) (v2 : Int32) (v3 : Int32) (M : Mem) : Prop := (kd v0 = 7) ∧ T_X7_isBooked (fun y3 M2 => if y3 = 0 then (T_X7_isIn_32 Q M2) else (T_X7_of (fun y5 M4 => if y5 = v2 then (T_X7_of (fun y7 M6 => if y7 = v3 then (T_X7_isIn_33 Q 1 M6) else (T_X7_isIn_32 Q M6))  v0 v1 3 M4) else (T_X7_isIn_32 Q M4))  v0 v1 2 M2))  v0 v1 M
set_option maxRecDepth 100000 in
set_option maxHeartbeats 4000000 in
theorem c_X7_isIn {g : GG} (v0 : Nat) (v1 : Int32) (v2 : Int32) (v3 : Int32) (M : Mem) (Q : Int32 → Mem → Prop) (h : T_X7_isIn Q v0 v1 v2 v3 M) : CT g 11 mX7_isIn [.ref (g.1 + v0), .int v1, .int v2, .int v3] M 0 (oZ Q noX) := by
  refine CT_of (L := [some (.ref (g.1 + v0)), some (.int v1), some (.int v2), some (.int v3)]) (by decide) rfl (Nat.le_of_ble_eq_true rfl) (ro_Z rfl) rfl ?_
  unfold T_X7_isIn at h
  refine R_aload_n (pc := 0) d_X7_isIn_0 rfl rfl ?_
  refine R_iload_n (pc := 1) d_X7_isIn_1 rfl rfl ?_
  obtain ⟨k1, h⟩ := h
  refine R_callV (pc := 2) (As := [.int v1]) (rest := []) (c_X7_isBooked (g := g) v0 v1 M _ h) rfl rfl cal_RX7_49 ins_X7_isBooked sel_X7_isBooked (cls_at k1 clsOK7) (by decide) (by decide) rfl rfl (Nat.le_of_ble_eq_true rfl) d_X7_isIn_2 (k_Z (fun y3 M2 h => ?_)) (fun _ _ h9 => False.elim h9)
  try dsimp only at h
  refine R_if_eq (pc := 5) (tgt := 32) d_X7_isIn_5 (by decide) (fun c => ?_) (fun c => ?_)
  · rw [if_pos c] at h
    exact WP_sub (B_X7_isIn_32 Q M2 h) (by decide) (ls_n (ls_n (ls_n (ls_n ls_0))))
  · rw [if_neg c] at h
    refine R_aload_n (pc := 8) d_X7_isIn_8 rfl rfl ?_
    refine R_iload_n (pc := 9) d_X7_isIn_9 rfl rfl ?_
    refine R_iconst (pc := 10) (v := 2) d_X7_isIn_10 (by decide) ?_
    refine R_callV (pc := 11) (As := [.int v1, .int 2]) (rest := []) (c_X7_of (g := g) v0 v1 2 M2 _ h) rfl rfl cal_RX7_45 ins_X7_of sel_X7_of (cls_at k1 clsOK7) (by decide) (by decide) rfl rfl (Nat.le_of_ble_eq_true rfl) d_X7_isIn_11 (k_I (fun y5 M4 h => ?_)) (fun _ _ h9 => False.elim h9)
    try dsimp only at h
    refine R_iload_n (pc := 14) d_X7_isIn_14 rfl rfl ?_
    refine R_icmp_ne (pc := 15) (tgt := 32) d_X7_isIn_15 (by decide) (fun c => ?_) (fun c => ?_)
    · rw [if_neg c] at h
      exact WP_sub (B_X7_isIn_32 Q M4 h) (by decide) (ls_n (ls_n (ls_n (ls_n ls_0))))
    · rw [if_pos c] at h
      refine R_aload_n (pc := 18) d_X7_isIn_18 rfl rfl ?_
      refine R_iload_n (pc := 19) d_X7_isIn_19 rfl rfl ?_
      refine R_iconst (pc := 20) (v := 3) d_X7_isIn_20 (by decide) ?_
      refine R_callV (pc := 21) (As := [.int v1, .int 3]) (rest := []) (c_X7_of (g := g) v0 v1 3 M4 _ h) rfl rfl cal_RX7_45 ins_X7_of sel_X7_of (cls_at k1 clsOK7) (by decide) (by decide) rfl rfl (Nat.le_of_ble_eq_true rfl) d_X7_isIn_21 (k_I (fun y7 M6 h => ?_)) (fun _ _ h9 => False.elim h9)
      try dsimp only at h
      refine R_iload_n (pc := 24) d_X7_isIn_24 rfl rfl ?_
      refine R_icmp_ne (pc := 25) (tgt := 32) d_X7_isIn_25 (by decide) (fun c => ?_) (fun c => ?_)
      · rw [if_neg c] at h
        exact WP_sub (B_X7_isIn_32 Q M6 h) (by decide) (ls_n (ls_n (ls_n (ls_n ls_0))))
      · rw [if_pos c] at h
        refine R_iconst (pc := 28) (v := 1) d_X7_isIn_28 (by decide) ?_
        refine R_goto (pc := 29) (tgt := 33) d_X7_isIn_29 (by decide) ?_
        exact WP_sub (B_X7_isIn_33 Q 1 M6 h) (by decide) (ls_n (ls_n (ls_n (ls_n ls_0))))
