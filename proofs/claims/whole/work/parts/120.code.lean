/-! X7_restore -/
theorem d_X7_restore_0 : decode mX7_restore.2.1 0 = .ok (.aload_n 0, 1) := by decide +kernel
theorem d_X7_restore_1 : decode mX7_restore.2.1 1 = .ok (.iconst 0, 1) := by decide +kernel
theorem d_X7_restore_2 : decode mX7_restore.2.1 2 = .ok (.putfield 37, 3) := by decide +kernel
theorem d_X7_restore_5 : decode mX7_restore.2.1 5 = .ok (.aload_n 0, 1) := by decide +kernel
theorem d_X7_restore_6 : decode mX7_restore.2.1 6 = .ok (.getfield 270, 3) := by decide +kernel
theorem d_X7_restore_9 : decode mX7_restore.2.1 9 = .ok (.ifCond .ne 9, 3) := by decide +kernel
theorem d_X7_restore_12 : decode mX7_restore.2.1 12 = .ok (.aload_n 0, 1) := by decide +kernel
theorem d_X7_restore_13 : decode mX7_restore.2.1 13 = .ok (.iconst 1, 1) := by decide +kernel
theorem d_X7_restore_14 : decode mX7_restore.2.1 14 = .ok (.invokevirtual 163, 3) := by decide +kernel
theorem d_X7_restore_17 : decode mX7_restore.2.1 17 = .ok (.ireturn, 1) := by decide +kernel
theorem d_X7_restore_18 : decode mX7_restore.2.1 18 = .ok (.iconst 0, 1) := by decide +kernel
theorem d_X7_restore_19 : decode mX7_restore.2.1 19 = .ok (.istore_n 1, 1) := by decide +kernel
theorem d_X7_restore_20 : decode mX7_restore.2.1 20 = .ok (.iload_n 1, 1) := by decide +kernel
theorem d_X7_restore_21 : decode mX7_restore.2.1 21 = .ok (.sipush 552, 3) := by decide +kernel
theorem d_X7_restore_24 : decode mX7_restore.2.1 24 = .ok (.if_icmp .ge 21, 3) := by decide +kernel
theorem d_X7_restore_27 : decode mX7_restore.2.1 27 = .ok (.aload_n 0, 1) := by decide +kernel
theorem d_X7_restore_28 : decode mX7_restore.2.1 28 = .ok (.getfield 7, 3) := by decide +kernel
theorem d_X7_restore_31 : decode mX7_restore.2.1 31 = .ok (.iload_n 1, 1) := by decide +kernel
theorem d_X7_restore_32 : decode mX7_restore.2.1 32 = .ok (.aload_n 0, 1) := by decide +kernel
theorem d_X7_restore_33 : decode mX7_restore.2.1 33 = .ok (.getfield 13, 3) := by decide +kernel
theorem d_X7_restore_36 : decode mX7_restore.2.1 36 = .ok (.iload_n 1, 1) := by decide +kernel
theorem d_X7_restore_37 : decode mX7_restore.2.1 37 = .ok (.iaload, 1) := by decide +kernel
theorem d_X7_restore_38 : decode mX7_restore.2.1 38 = .ok (.iastore, 1) := by decide +kernel
theorem d_X7_restore_39 : decode mX7_restore.2.1 39 = .ok (.iinc 1 1, 3) := by decide +kernel
theorem d_X7_restore_42 : decode mX7_restore.2.1 42 = .ok (.goto (-22), 3) := by decide +kernel
theorem d_X7_restore_45 : decode mX7_restore.2.1 45 = .ok (.aload_n 0, 1) := by decide +kernel
theorem d_X7_restore_46 : decode mX7_restore.2.1 46 = .ok (.iconst 0, 1) := by decide +kernel
theorem d_X7_restore_47 : decode mX7_restore.2.1 47 = .ok (.putfield 53, 3) := by decide +kernel
theorem d_X7_restore_50 : decode mX7_restore.2.1 50 = .ok (.aload_n 0, 1) := by decide +kernel
theorem d_X7_restore_51 : decode mX7_restore.2.1 51 = .ok (.iconst 0, 1) := by decide +kernel
theorem d_X7_restore_52 : decode mX7_restore.2.1 52 = .ok (.invokevirtual 226, 3) := by decide +kernel
theorem d_X7_restore_55 : decode mX7_restore.2.1 55 = .ok (.ireturn, 1) := by decide +kernel
def T_X7_restore_20 (Q : Int32 → Mem → Prop) : Nat → Nat → Int32 → Mem → Prop
  | 0, _, _, _ => False
  | n + 1, v0, v1, M => if (552 : Int32) ≤ v1 then ((kd v0 = 7) ∧ ∀ M2 : Mem, M2 = mset M v0 5 0 → T_X7_inState (fun y4 M3 => Q y4 M3)  v0 0 M2) else ((kd v0 = 7) ∧ (kd (rf v0 2) = 9) ∧ (vp_in v1 (ln (rf v0 2))) ∧ (kd (rf v0 1) = 9) ∧ (vp_in v1 (ln (rf v0 1))) ∧ ∀ M10 : Mem, M10 = mset M (rf v0 1) (Int32.toNatClampNeg v1) (M.1 (rf v0 2) (Int32.toNatClampNeg v1)) → ∀ x11 : Int32, x11 = v1 + 1 → (T_X7_restore_20 Q n) v0 x11 M10)
set_option maxRecDepth 100000 in
set_option maxHeartbeats 4000000 in
theorem B_X7_restore_20 {g : GG} (Q : Int32 → Mem → Prop) : ∀ (n : Nat) (v0 : Nat) (v1 : Int32) (M : Mem), T_X7_restore_20 Q n v0 v1 M → WP g 11 mX7_restore 20 [some (.ref (g.1 + v0)), some (.int v1)] [] M 0 (oI Q noX) := by
  intro n
  induction n with
  | zero => intro v0 v1 M h; exact h.elim
  | succ n hκ20 =>
    intro v0 v1 M h
    unfold T_X7_restore_20 at h
    refine R_iload_n (pc := 20) d_X7_restore_20 rfl rfl ?_
    refine R_sipush (pc := 21) (v := 552) d_X7_restore_21 (by decide) ?_
    refine R_icmp_ge (pc := 24) (tgt := 45) d_X7_restore_24 (by decide) (fun c => ?_) (fun c => ?_)
    · rw [if_pos c] at h
      refine R_aload_n (pc := 45) d_X7_restore_45 rfl rfl ?_
      refine R_iconst (pc := 46) (v := 0) d_X7_restore_46 (by decide) ?_
      obtain ⟨k1, h⟩ := h
      refine R_putI (pc := 47) fld_RX7_53 rfl rfl rfl k1 rfl rfl d_X7_restore_47 (N_M (fun M2 eM2 => ?_))
      have h := h M2 eM2
      refine R_aload_n (pc := 50) d_X7_restore_50 rfl rfl ?_
      refine R_iconst (pc := 51) (v := 0) d_X7_restore_51 (by decide) ?_
      refine R_callV (pc := 52) (As := [.int 0]) (rest := []) (c_X7_inState (g := g) v0 0 M2 _ h) rfl rfl cal_RX7_226 ins_X7_inState sel_X7_inState (cls_at k1 clsOK7) (by decide) (by decide) rfl rfl (Nat.le_of_ble_eq_true rfl) d_X7_restore_52 (k_I (fun y4 M3 h => ?_)) (fun _ _ h9 => False.elim h9)
      try dsimp only at h
      exact R_retv (pc := 55) d_X7_restore_55 h
    · rw [if_neg c] at h
      refine R_aload_n (pc := 27) d_X7_restore_27 rfl rfl ?_
      obtain ⟨k5, h⟩ := h
      refine R_getR (pc := 28) fld_RX7_7 rfl rfl k5 d_X7_restore_28 ?_
      refine R_iload_n (pc := 31) d_X7_restore_31 rfl rfl ?_
      refine R_aload_n (pc := 32) d_X7_restore_32 rfl rfl ?_
      refine R_getR (pc := 33) fld_RX7_13 rfl rfl k5 d_X7_restore_33 ?_
      refine R_iload_n (pc := 36) d_X7_restore_36 rfl rfl ?_
      obtain ⟨k6, h⟩ := h
      obtain ⟨k7, h⟩ := h
      refine R_iald (pc := 37) k6 k7 d_X7_restore_37 ?_
      obtain ⟨k8, h⟩ := h
      obtain ⟨k9, h⟩ := h
      refine R_iast (pc := 38) k8 k9 d_X7_restore_38 (N_M (fun M10 eM10 => ?_))
      have h := h M10 eM10
      obtain ⟨x11, ex11⟩ : ∃ z : Int32, z = v1 + 1 := ⟨_, rfl⟩
      have h := h x11 ex11
      refine R_iinc (pc := 39) (v := x11) (L' := [some (.ref (g.1 + v0)), some (.int x11)]) d_X7_restore_39 rfl (by rw [ex11]; rfl) (by decide) rfl ?_
      refine R_goto (pc := 42) (tgt := 20) d_X7_restore_42 (by decide) ?_
      exact WP_sub (hκ20 v0 x11 M10 h) (by decide) (ls_s (ls_s ls_0))
def T_X7_restore (Q : Int32 → Mem → Prop) (v0 : Nat) (M : Mem) : Prop := (kd v0 = 7) ∧ ∀ M2 : Mem, M2 = mset M v0 0 0 → if (M2.1 v0 6) = 0 then (T_X7_fails (fun y4 M3 => Q y4 M3)  v0 1 M2) else ((∃ N : Nat, T_X7_restore_20 Q N v0 0 M2))
set_option maxRecDepth 100000 in
set_option maxHeartbeats 4000000 in
theorem c_X7_restore {g : GG} (v0 : Nat) (M : Mem) (Q : Int32 → Mem → Prop) (h : T_X7_restore Q v0 M) : CT g 11 mX7_restore [.ref (g.1 + v0)] M 0 (oI Q noX) := by
  refine CT_of (L := [some (.ref (g.1 + v0)), none]) (by decide) rfl (Nat.le_of_ble_eq_true rfl) (ro_I rfl) rfl ?_
  unfold T_X7_restore at h
  refine R_aload_n (pc := 0) d_X7_restore_0 rfl rfl ?_
  refine R_iconst (pc := 1) (v := 0) d_X7_restore_1 (by decide) ?_
  obtain ⟨k1, h⟩ := h
  refine R_putI (pc := 2) fld_RX7_37 rfl rfl rfl k1 rfl rfl d_X7_restore_2 (N_M (fun M2 eM2 => ?_))
  have h := h M2 eM2
  refine R_aload_n (pc := 5) d_X7_restore_5 rfl rfl ?_
  refine R_getI (pc := 6) fld_RX7_270 rfl rfl k1 d_X7_restore_6 ?_
  refine R_if_ne (pc := 9) (tgt := 18) d_X7_restore_9 (by decide) (fun c => ?_) (fun c => ?_)
  · rw [if_neg c] at h
    refine R_iconst (pc := 18) (v := 0) d_X7_restore_18 (by decide) ?_
    refine R_istore_n (pc := 19) (L' := [some (.ref (g.1 + v0)), some (.int 0)]) d_X7_restore_19 rfl (by decide) rfl ?_
    obtain ⟨N, h⟩ := h
    exact WP_sub (B_X7_restore_20 Q N v0 0 M2 h) (by decide) (ls_s (ls_s ls_0))
  · rw [if_pos c] at h
    refine R_aload_n (pc := 12) d_X7_restore_12 rfl rfl ?_
    refine R_iconst (pc := 13) (v := 1) d_X7_restore_13 (by decide) ?_
    refine R_callV (pc := 14) (As := [.int 1]) (rest := []) (c_X7_fails (g := g) v0 1 M2 _ h) rfl rfl cal_RX7_163 ins_X7_fails sel_X7_fails (cls_at k1 clsOK7) (by decide) (by decide) rfl rfl (Nat.le_of_ble_eq_true rfl) d_X7_restore_14 (k_I (fun y4 M3 h => ?_)) (fun _ _ h9 => False.elim h9)
    try dsimp only at h
    exact R_retv (pc := 17) d_X7_restore_17 h
/-! L_addInmate -/
theorem d_L_addInmate_0 : decode mL_addInmate.2.1 0 = .ok (.aload_n 3, 1) := by decide +kernel
theorem d_L_addInmate_1 : decode mL_addInmate.2.1 1 = .ok (.iconst 0, 1) := by decide +kernel
theorem d_L_addInmate_2 : decode mL_addInmate.2.1 2 = .ok (.aload_n 0, 1) := by decide +kernel
theorem d_L_addInmate_3 : decode mL_addInmate.2.1 3 = .ok (.iload_n 1, 1) := by decide +kernel
theorem d_L_addInmate_4 : decode mL_addInmate.2.1 4 = .ok (.iload_n 2, 1) := by decide +kernel
theorem d_L_addInmate_5 : decode mL_addInmate.2.1 5 = .ok (.invokevirtual 7, 3) := by decide +kernel
theorem d_L_addInmate_8 : decode mL_addInmate.2.1 8 = .ok (.i2l, 1) := by decide +kernel
theorem d_L_addInmate_9 : decode mL_addInmate.2.1 9 = .ok (.lastore, 1) := by decide +kernel
theorem d_L_addInmate_10 : decode mL_addInmate.2.1 10 = .ok (.goto 11, 3) := by decide +kernel
theorem d_L_addInmate_13 : decode mL_addInmate.2.1 13 = .ok (.astore 4, 2) := by decide +kernel
theorem d_L_addInmate_15 : decode mL_addInmate.2.1 15 = .ok (.iconst 1, 1) := by decide +kernel
theorem d_L_addInmate_16 : decode mL_addInmate.2.1 16 = .ok (.ireturn, 1) := by decide +kernel
theorem d_L_addInmate_17 : decode mL_addInmate.2.1 17 = .ok (.astore 4, 2) := by decide +kernel
theorem d_L_addInmate_19 : decode mL_addInmate.2.1 19 = .ok (.iconst 2, 1) := by decide +kernel
theorem d_L_addInmate_20 : decode mL_addInmate.2.1 20 = .ok (.ireturn, 1) := by decide +kernel
theorem d_L_addInmate_21 : decode mL_addInmate.2.1 21 = .ok (.iconst 0, 1) := by decide +kernel
theorem d_L_addInmate_22 : decode mL_addInmate.2.1 22 = .ok (.ireturn, 1) := by decide +kernel
theorem hand_L_addInmate_0 : handOK mL_addInmate 5 "java/lang/IllegalArgumentException" 1 := ⟨[], (0, 10, 13, 13), [(0, 10, 17, 15)], "java/lang/IllegalArgumentException", 4, 1, 15, rfl, fun _ h => absurd h List.not_mem_nil, ⟨by decide, by decide⟩, by decide, aw_t 251 (by decide +kernel) (by decide +kernel), aw_t 262 (by decide +kernel) (by decide +kernel), by decide, Or.inr ⟨d_L_addInmate_13, rfl⟩, d_L_addInmate_15, by decide, d_L_addInmate_16⟩
theorem hand_L_addInmate_1 : handOK mL_addInmate 5 "java/lang/IllegalStateException" 2 := ⟨[(0, 10, 13, 13)], (0, 10, 17, 15), [], "java/lang/IllegalStateException", 4, 2, 19, rfl, List.forall_mem_cons.mpr ⟨⟨by decide, "java/lang/IllegalArgumentException", aw_t 251 (by decide +kernel) (by decide +kernel), by decide +kernel⟩, fun _ h => absurd h List.not_mem_nil⟩, ⟨by decide, by decide⟩, by decide, aw_t 252 (by decide +kernel) (by decide +kernel), aw_t 338 (by decide +kernel) (by decide +kernel), by decide, Or.inr ⟨d_L_addInmate_17, rfl⟩, d_L_addInmate_19, by decide, d_L_addInmate_20⟩
def T_L_addInmate (Q : Int32 → Mem → Prop) (v0 : Nat) (v1 : Int32) (v2 : Int32) (v3 : Nat) (M : Mem) : Prop := (kd v0 = 6) ∧ T_X6_addInmate (fun y3 M2 => (kd v3 = 12) ∧ (vp_in 0 (ln v3)) ∧ ∀ M6 : Mem, M6 = (M2.1, vp_updL M2.2.1 (Int32.toNatClampNeg 0) (Int32.toInt64 y3), M2.2.2) → Q 0 M6) (fun E9 M9 => (E9 = "java/lang/IllegalArgumentException" ∧ Q 1 M9) ∨ (E9 = "java/lang/IllegalStateException" ∧ Q 2 M9)) v0 v1 v2 M
set_option maxRecDepth 100000 in
set_option maxHeartbeats 4000000 in
theorem c_L_addInmate {g : GG} (v0 : Nat) (v1 : Int32) (v2 : Int32) (v3 : Nat) (M : Mem) (Q : Int32 → Mem → Prop) (h : T_L_addInmate Q v0 v1 v2 v3 M) : CT g 14 mL_addInmate [.ref (g.1 + v0), .int v1, .int v2, .ref (g.1 + v3)] M 1 (oI Q noX) := by
  refine CT_ofH (L := [some (.ref (g.1 + v0)), some (.int v1), some (.int v2), some (.ref (g.1 + v3)), none]) (by decide) rfl (Nat.le_of_ble_eq_true rfl) (ro_I rfl) rfl ?_
  unfold T_L_addInmate at h
  refine R_aload_n (pc := 0) d_L_addInmate_0 rfl rfl ?_
  refine R_iconst (pc := 1) (v := 0) d_L_addInmate_1 (by decide) ?_
  refine R_aload_n (pc := 2) d_L_addInmate_2 rfl rfl ?_
  refine R_iload_n (pc := 3) d_L_addInmate_3 rfl rfl ?_
  refine R_iload_n (pc := 4) d_L_addInmate_4 rfl rfl ?_
  obtain ⟨k1, h⟩ := h
  refine R_callVC (pc := 5) (As := [.int v1, .int v2]) (rest := [.int 0, .ref (g.1 + v3)]) (c_X6_addInmate (g := g) v0 v1 v2 M _ _ h) rfl cal_RL_7 ins_X6_addInmate sel_X6_addInmate (cls_at k1 clsOK6) (by decide) (by decide) rfl rfl (Nat.le_of_ble_eq_true rfl) d_L_addInmate_5 (k_I (fun y3 M2 h => ?_)) ?_
  · try dsimp only at h
    refine R_i2l (pc := 8) d_L_addInmate_8 ?_
    obtain ⟨k4, h⟩ := h
    obtain ⟨k5, h⟩ := h
    refine R_last (pc := 9) k4 k5 d_L_addInmate_9 (N_M (fun M6 eM6 => ?_))
    have h := h M6 eM6
    refine R_goto (pc := 10) (tgt := 21) d_L_addInmate_10 (by decide) ?_
    refine R_iconst (pc := 21) (v := 0) d_L_addInmate_21 (by decide) ?_
    exact R_retv (pc := 22) d_L_addInmate_22 h
  · intro E9 M9 h9
    rcases h9 with ⟨rfl, h9⟩ | ⟨rfl, h9⟩
    · exact ⟨_, hand_L_addInmate_0, h9⟩
    · exact ⟨_, hand_L_addInmate_1, h9⟩
/-! L_addVisitor -/
theorem d_L_addVisitor_0 : decode mL_addVisitor.2.1 0 = .ok (.aload_n 2, 1) := by decide +kernel
theorem d_L_addVisitor_1 : decode mL_addVisitor.2.1 1 = .ok (.iconst 0, 1) := by decide +kernel
theorem d_L_addVisitor_2 : decode mL_addVisitor.2.1 2 = .ok (.aload_n 0, 1) := by decide +kernel
theorem d_L_addVisitor_3 : decode mL_addVisitor.2.1 3 = .ok (.iload_n 1, 1) := by decide +kernel
theorem d_L_addVisitor_4 : decode mL_addVisitor.2.1 4 = .ok (.invokevirtual 17, 3) := by decide +kernel
theorem d_L_addVisitor_7 : decode mL_addVisitor.2.1 7 = .ok (.i2l, 1) := by decide +kernel
theorem d_L_addVisitor_8 : decode mL_addVisitor.2.1 8 = .ok (.lastore, 1) := by decide +kernel
theorem d_L_addVisitor_9 : decode mL_addVisitor.2.1 9 = .ok (.goto 9, 3) := by decide +kernel
theorem d_L_addVisitor_12 : decode mL_addVisitor.2.1 12 = .ok (.astore_n 3, 1) := by decide +kernel
theorem d_L_addVisitor_13 : decode mL_addVisitor.2.1 13 = .ok (.iconst 1, 1) := by decide +kernel
theorem d_L_addVisitor_14 : decode mL_addVisitor.2.1 14 = .ok (.ireturn, 1) := by decide +kernel
theorem d_L_addVisitor_15 : decode mL_addVisitor.2.1 15 = .ok (.astore_n 3, 1) := by decide +kernel
theorem d_L_addVisitor_16 : decode mL_addVisitor.2.1 16 = .ok (.iconst 2, 1) := by decide +kernel
theorem d_L_addVisitor_17 : decode mL_addVisitor.2.1 17 = .ok (.ireturn, 1) := by decide +kernel
theorem d_L_addVisitor_18 : decode mL_addVisitor.2.1 18 = .ok (.iconst 0, 1) := by decide +kernel
theorem d_L_addVisitor_19 : decode mL_addVisitor.2.1 19 = .ok (.ireturn, 1) := by decide +kernel
theorem hand_L_addVisitor_0 : handOK mL_addVisitor 4 "java/lang/IllegalArgumentException" 1 := ⟨[], (0, 9, 12, 13), [(0, 9, 15, 15)], "java/lang/IllegalArgumentException", 3, 1, 13, rfl, fun _ h => absurd h List.not_mem_nil, ⟨by decide, by decide⟩, by decide, aw_t 251 (by decide +kernel) (by decide +kernel), aw_t 262 (by decide +kernel) (by decide +kernel), by decide, Or.inl ⟨3, rfl, d_L_addVisitor_12, rfl⟩, d_L_addVisitor_13, by decide, d_L_addVisitor_14⟩
theorem hand_L_addVisitor_1 : handOK mL_addVisitor 4 "java/lang/IllegalStateException" 2 := ⟨[(0, 9, 12, 13)], (0, 9, 15, 15), [], "java/lang/IllegalStateException", 3, 2, 16, rfl, List.forall_mem_cons.mpr ⟨⟨by decide, "java/lang/IllegalArgumentException", aw_t 251 (by decide +kernel) (by decide +kernel), by decide +kernel⟩, fun _ h => absurd h List.not_mem_nil⟩, ⟨by decide, by decide⟩, by decide, aw_t 252 (by decide +kernel) (by decide +kernel), aw_t 338 (by decide +kernel) (by decide +kernel), by decide, Or.inl ⟨3, rfl, d_L_addVisitor_15, rfl⟩, d_L_addVisitor_16, by decide, d_L_addVisitor_17⟩
def T_L_addVisitor (Q : Int32 → Mem → Prop) (v0 : Nat) (v1 : Int32) (v2 : Nat) (M : Mem) : Prop := (kd v0 = 6) ∧ T_X6_addVisitor (fun y3 M2 => (kd v2 = 12) ∧ (vp_in 0 (ln v2)) ∧ ∀ M6 : Mem, M6 = (M2.1, vp_updL M2.2.1 (Int32.toNatClampNeg 0) (Int32.toInt64 y3), M2.2.2) → Q 0 M6) (fun E9 M9 => (E9 = "java/lang/IllegalArgumentException" ∧ Q 1 M9) ∨ (E9 = "java/lang/IllegalStateException" ∧ Q 2 M9)) v0 v1 M
set_option maxRecDepth 100000 in
set_option maxHeartbeats 4000000 in
theorem c_L_addVisitor {g : GG} (v0 : Nat) (v1 : Int32) (v2 : Nat) (M : Mem) (Q : Int32 → Mem → Prop) (h : T_L_addVisitor Q v0 v1 v2 M) : CT g 14 mL_addVisitor [.ref (g.1 + v0), .int v1, .ref (g.1 + v2)] M 1 (oI Q noX) := by
  refine CT_ofH (L := [some (.ref (g.1 + v0)), some (.int v1), some (.ref (g.1 + v2)), none]) (by decide) rfl (Nat.le_of_ble_eq_true rfl) (ro_I rfl) rfl ?_
  unfold T_L_addVisitor at h
  refine R_aload_n (pc := 0) d_L_addVisitor_0 rfl rfl ?_
  refine R_iconst (pc := 1) (v := 0) d_L_addVisitor_1 (by decide) ?_
  refine R_aload_n (pc := 2) d_L_addVisitor_2 rfl rfl ?_
  refine R_iload_n (pc := 3) d_L_addVisitor_3 rfl rfl ?_
  obtain ⟨k1, h⟩ := h
  refine R_callVC (pc := 4) (As := [.int v1]) (rest := [.int 0, .ref (g.1 + v2)]) (c_X6_addVisitor (g := g) v0 v1 M _ _ h) rfl cal_RL_17 ins_X6_addVisitor sel_X6_addVisitor (cls_at k1 clsOK6) (by decide) (by decide) rfl rfl (Nat.le_of_ble_eq_true rfl) d_L_addVisitor_4 (k_I (fun y3 M2 h => ?_)) ?_
  · try dsimp only at h
    refine R_i2l (pc := 7) d_L_addVisitor_7 ?_
    obtain ⟨k4, h⟩ := h
    obtain ⟨k5, h⟩ := h
    refine R_last (pc := 8) k4 k5 d_L_addVisitor_8 (N_M (fun M6 eM6 => ?_))
    have h := h M6 eM6
    refine R_goto (pc := 9) (tgt := 18) d_L_addVisitor_9 (by decide) ?_
    refine R_iconst (pc := 18) (v := 0) d_L_addVisitor_18 (by decide) ?_
    exact R_retv (pc := 19) d_L_addVisitor_19 h
  · intro E9 M9 h9
    rcases h9 with ⟨rfl, h9⟩ | ⟨rfl, h9⟩
    · exact ⟨_, hand_L_addVisitor_0, h9⟩
    · exact ⟨_, hand_L_addVisitor_1, h9⟩
/-! L_addRoom -/
theorem d_L_addRoom_0 : decode mL_addRoom.2.1 0 = .ok (.aload 4, 2) := by decide +kernel
theorem d_L_addRoom_2 : decode mL_addRoom.2.1 2 = .ok (.iconst 0, 1) := by decide +kernel
theorem d_L_addRoom_3 : decode mL_addRoom.2.1 3 = .ok (.aload_n 0, 1) := by decide +kernel
theorem d_L_addRoom_4 : decode mL_addRoom.2.1 4 = .ok (.iload_n 1, 1) := by decide +kernel
theorem d_L_addRoom_5 : decode mL_addRoom.2.1 5 = .ok (.iload_n 2, 1) := by decide +kernel
theorem d_L_addRoom_6 : decode mL_addRoom.2.1 6 = .ok (.iload_n 3, 1) := by decide +kernel
theorem d_L_addRoom_7 : decode mL_addRoom.2.1 7 = .ok (.invokevirtual 21, 3) := by decide +kernel
theorem d_L_addRoom_10 : decode mL_addRoom.2.1 10 = .ok (.i2l, 1) := by decide +kernel
theorem d_L_addRoom_11 : decode mL_addRoom.2.1 11 = .ok (.lastore, 1) := by decide +kernel
theorem d_L_addRoom_12 : decode mL_addRoom.2.1 12 = .ok (.goto 11, 3) := by decide +kernel
theorem d_L_addRoom_15 : decode mL_addRoom.2.1 15 = .ok (.astore 5, 2) := by decide +kernel
theorem d_L_addRoom_17 : decode mL_addRoom.2.1 17 = .ok (.iconst 1, 1) := by decide +kernel
theorem d_L_addRoom_18 : decode mL_addRoom.2.1 18 = .ok (.ireturn, 1) := by decide +kernel
theorem d_L_addRoom_19 : decode mL_addRoom.2.1 19 = .ok (.astore 5, 2) := by decide +kernel
theorem d_L_addRoom_21 : decode mL_addRoom.2.1 21 = .ok (.iconst 2, 1) := by decide +kernel
theorem d_L_addRoom_22 : decode mL_addRoom.2.1 22 = .ok (.ireturn, 1) := by decide +kernel
theorem d_L_addRoom_23 : decode mL_addRoom.2.1 23 = .ok (.iconst 0, 1) := by decide +kernel
theorem d_L_addRoom_24 : decode mL_addRoom.2.1 24 = .ok (.ireturn, 1) := by decide +kernel
theorem hand_L_addRoom_0 : handOK mL_addRoom 7 "java/lang/IllegalArgumentException" 1 := ⟨[], (0, 12, 15, 13), [(0, 12, 19, 15)], "java/lang/IllegalArgumentException", 5, 1, 17, rfl, fun _ h => absurd h List.not_mem_nil, ⟨by decide, by decide⟩, by decide, aw_t 251 (by decide +kernel) (by decide +kernel), aw_t 262 (by decide +kernel) (by decide +kernel), by decide, Or.inr ⟨d_L_addRoom_15, rfl⟩, d_L_addRoom_17, by decide, d_L_addRoom_18⟩
theorem hand_L_addRoom_1 : handOK mL_addRoom 7 "java/lang/IllegalStateException" 2 := ⟨[(0, 12, 15, 13)], (0, 12, 19, 15), [], "java/lang/IllegalStateException", 5, 2, 21, rfl, List.forall_mem_cons.mpr ⟨⟨by decide, "java/lang/IllegalArgumentException", aw_t 251 (by decide +kernel) (by decide +kernel), by decide +kernel⟩, fun _ h => absurd h List.not_mem_nil⟩, ⟨by decide, by decide⟩, by decide, aw_t 252 (by decide +kernel) (by decide +kernel), aw_t 338 (by decide +kernel) (by decide +kernel), by decide, Or.inr ⟨d_L_addRoom_19, rfl⟩, d_L_addRoom_21, by decide, d_L_addRoom_22⟩
def T_L_addRoom (Q : Int32 → Mem → Prop) (v0 : Nat) (v1 : Int32) (v2 : Int32) (v3 : Int32) (v4 : Nat) (M : Mem) : Prop := (kd v0 = 6) ∧ T_X6_addRoom (fun y3 M2 => (kd v4 = 12) ∧ (vp_in 0 (ln v4)) ∧ ∀ M6 : Mem, M6 = (M2.1, vp_updL M2.2.1 (Int32.toNatClampNeg 0) (Int32.toInt64 y3), M2.2.2) → Q 0 M6) (fun E9 M9 => (E9 = "java/lang/IllegalArgumentException" ∧ Q 1 M9) ∨ (E9 = "java/lang/IllegalStateException" ∧ Q 2 M9)) v0 v1 v2 v3 M
set_option maxRecDepth 100000 in
set_option maxHeartbeats 4000000 in
theorem c_L_addRoom {g : GG} (v0 : Nat) (v1 : Int32) (v2 : Int32) (v3 : Int32) (v4 : Nat) (M : Mem) (Q : Int32 → Mem → Prop) (h : T_L_addRoom Q v0 v1 v2 v3 v4 M) : CT g 14 mL_addRoom [.ref (g.1 + v0), .int v1, .int v2, .int v3, .ref (g.1 + v4)] M 1 (oI Q noX) := by
  refine CT_ofH (L := [some (.ref (g.1 + v0)), some (.int v1), some (.int v2), some (.int v3), some (.ref (g.1 + v4)), none]) (by decide) rfl (Nat.le_of_ble_eq_true rfl) (ro_I rfl) rfl ?_
  unfold T_L_addRoom at h
  refine R_aload (pc := 0) d_L_addRoom_0 rfl ?_
  refine R_iconst (pc := 2) (v := 0) d_L_addRoom_2 (by decide) ?_
  refine R_aload_n (pc := 3) d_L_addRoom_3 rfl rfl ?_
  refine R_iload_n (pc := 4) d_L_addRoom_4 rfl rfl ?_
  refine R_iload_n (pc := 5) d_L_addRoom_5 rfl rfl ?_
  refine R_iload_n (pc := 6) d_L_addRoom_6 rfl rfl ?_
  obtain ⟨k1, h⟩ := h
  refine R_callVC (pc := 7) (As := [.int v1, .int v2, .int v3]) (rest := [.int 0, .ref (g.1 + v4)]) (c_X6_addRoom (g := g) v0 v1 v2 v3 M _ _ h) rfl cal_RL_21 ins_X6_addRoom sel_X6_addRoom (cls_at k1 clsOK6) (by decide) (by decide) rfl rfl (Nat.le_of_ble_eq_true rfl) d_L_addRoom_7 (k_I (fun y3 M2 h => ?_)) ?_
  · try dsimp only at h
    refine R_i2l (pc := 10) d_L_addRoom_10 ?_
    obtain ⟨k4, h⟩ := h
    obtain ⟨k5, h⟩ := h
    refine R_last (pc := 11) k4 k5 d_L_addRoom_11 (N_M (fun M6 eM6 => ?_))
    have h := h M6 eM6
    refine R_goto (pc := 12) (tgt := 23) d_L_addRoom_12 (by decide) ?_
    refine R_iconst (pc := 23) (v := 0) d_L_addRoom_23 (by decide) ?_
    exact R_retv (pc := 24) d_L_addRoom_24 h
  · intro E9 M9 h9
    rcases h9 with ⟨rfl, h9⟩ | ⟨rfl, h9⟩
    · exact ⟨_, hand_L_addRoom_0, h9⟩
    · exact ⟨_, hand_L_addRoom_1, h9⟩
/-! L_setOpen -/
theorem d_L_setOpen_0 : decode mL_setOpen.2.1 0 = .ok (.aload_n 3, 1) := by decide +kernel
theorem d_L_setOpen_1 : decode mL_setOpen.2.1 1 = .ok (.iconst 0, 1) := by decide +kernel
theorem d_L_setOpen_2 : decode mL_setOpen.2.1 2 = .ok (.aload_n 0, 1) := by decide +kernel
theorem d_L_setOpen_3 : decode mL_setOpen.2.1 3 = .ok (.iload_n 1, 1) := by decide +kernel
theorem d_L_setOpen_4 : decode mL_setOpen.2.1 4 = .ok (.iload_n 2, 1) := by decide +kernel
theorem d_L_setOpen_5 : decode mL_setOpen.2.1 5 = .ok (.invokevirtual 25, 3) := by decide +kernel
theorem d_L_setOpen_8 : decode mL_setOpen.2.1 8 = .ok (.i2l, 1) := by decide +kernel
theorem d_L_setOpen_9 : decode mL_setOpen.2.1 9 = .ok (.lastore, 1) := by decide +kernel
theorem d_L_setOpen_10 : decode mL_setOpen.2.1 10 = .ok (.goto 7, 3) := by decide +kernel
theorem d_L_setOpen_13 : decode mL_setOpen.2.1 13 = .ok (.astore 4, 2) := by decide +kernel
theorem d_L_setOpen_15 : decode mL_setOpen.2.1 15 = .ok (.iconst 1, 1) := by decide +kernel
theorem d_L_setOpen_16 : decode mL_setOpen.2.1 16 = .ok (.ireturn, 1) := by decide +kernel
theorem d_L_setOpen_17 : decode mL_setOpen.2.1 17 = .ok (.iconst 0, 1) := by decide +kernel
theorem d_L_setOpen_18 : decode mL_setOpen.2.1 18 = .ok (.ireturn, 1) := by decide +kernel
theorem hand_L_setOpen_0 : handOK mL_setOpen 5 "java/lang/IndexOutOfBoundsException" 1 := ⟨[], (0, 10, 13, 29), [], "java/lang/IndexOutOfBoundsException", 4, 1, 15, rfl, fun _ h => absurd h List.not_mem_nil, ⟨by decide, by decide⟩, by decide, aw_t 390 (by decide +kernel) (by decide +kernel), aw_t 420 (by decide +kernel) (by decide +kernel), by decide, Or.inr ⟨d_L_setOpen_13, rfl⟩, d_L_setOpen_15, by decide, d_L_setOpen_16⟩
def T_L_setOpen (Q : Int32 → Mem → Prop) (v0 : Nat) (v1 : Int32) (v2 : Int32) (v3 : Nat) (M : Mem) : Prop := (kd v0 = 6) ∧ T_X6_setOpen (fun y3 M2 => (kd v3 = 12) ∧ (vp_in 0 (ln v3)) ∧ ∀ M6 : Mem, M6 = (M2.1, vp_updL M2.2.1 (Int32.toNatClampNeg 0) (Int32.toInt64 y3), M2.2.2) → Q 0 M6) (fun E9 M9 => (E9 = "java/lang/IndexOutOfBoundsException" ∧ Q 1 M9)) v0 v1 v2 M
set_option maxRecDepth 100000 in
set_option maxHeartbeats 4000000 in
theorem c_L_setOpen {g : GG} (v0 : Nat) (v1 : Int32) (v2 : Int32) (v3 : Nat) (M : Mem) (Q : Int32 → Mem → Prop) (h : T_L_setOpen Q v0 v1 v2 v3 M) : CT g 17 mL_setOpen [.ref (g.1 + v0), .int v1, .int v2, .ref (g.1 + v3)] M 1 (oI Q noX) := by
  refine CT_ofH (L := [some (.ref (g.1 + v0)), some (.int v1), some (.int v2), some (.ref (g.1 + v3)), none]) (by decide) rfl (Nat.le_of_ble_eq_true rfl) (ro_I rfl) rfl ?_
  unfold T_L_setOpen at h
  refine R_aload_n (pc := 0) d_L_setOpen_0 rfl rfl ?_
  refine R_iconst (pc := 1) (v := 0) d_L_setOpen_1 (by decide) ?_
  refine R_aload_n (pc := 2) d_L_setOpen_2 rfl rfl ?_
  refine R_iload_n (pc := 3) d_L_setOpen_3 rfl rfl ?_
  refine R_iload_n (pc := 4) d_L_setOpen_4 rfl rfl ?_
  obtain ⟨k1, h⟩ := h
  refine R_callVC (pc := 5) (As := [.int v1, .int v2]) (rest := [.int 0, .ref (g.1 + v3)]) (c_X6_setOpen (g := g) v0 v1 v2 M _ _ h) rfl cal_RL_25 ins_X6_setOpen sel_X6_setOpen (cls_at k1 clsOK6) (by decide) (by decide) rfl rfl (Nat.le_of_ble_eq_true rfl) d_L_setOpen_5 (k_I (fun y3 M2 h => ?_)) ?_
  · try dsimp only at h
    refine R_i2l (pc := 8) d_L_setOpen_8 ?_
    obtain ⟨k4, h⟩ := h
    obtain ⟨k5, h⟩ := h
    refine R_last (pc := 9) k4 k5 d_L_setOpen_9 (N_M (fun M6 eM6 => ?_))
    have h := h M6 eM6
    refine R_goto (pc := 10) (tgt := 17) d_L_setOpen_10 (by decide) ?_
    refine R_iconst (pc := 17) (v := 0) d_L_setOpen_17 (by decide) ?_
    exact R_retv (pc := 18) d_L_setOpen_18 h
  · intro E9 M9 h9
    obtain ⟨rfl, h9⟩ := h9
    exact ⟨_, hand_L_setOpen_0, h9⟩
/-! L_setLevel -/
theorem d_L_setLevel_0 : decode mL_setLevel.2.1 0 = .ok (.aload_n 3, 1) := by decide +kernel
theorem d_L_setLevel_1 : decode mL_setLevel.2.1 1 = .ok (.iconst 0, 1) := by decide +kernel
theorem d_L_setLevel_2 : decode mL_setLevel.2.1 2 = .ok (.aload_n 0, 1) := by decide +kernel
theorem d_L_setLevel_3 : decode mL_setLevel.2.1 3 = .ok (.iload_n 1, 1) := by decide +kernel
theorem d_L_setLevel_4 : decode mL_setLevel.2.1 4 = .ok (.iload_n 2, 1) := by decide +kernel
theorem d_L_setLevel_5 : decode mL_setLevel.2.1 5 = .ok (.invokevirtual 31, 3) := by decide +kernel
theorem d_L_setLevel_8 : decode mL_setLevel.2.1 8 = .ok (.i2l, 1) := by decide +kernel
theorem d_L_setLevel_9 : decode mL_setLevel.2.1 9 = .ok (.lastore, 1) := by decide +kernel
theorem d_L_setLevel_10 : decode mL_setLevel.2.1 10 = .ok (.goto 11, 3) := by decide +kernel
theorem d_L_setLevel_13 : decode mL_setLevel.2.1 13 = .ok (.astore 4, 2) := by decide +kernel
theorem d_L_setLevel_15 : decode mL_setLevel.2.1 15 = .ok (.iconst 1, 1) := by decide +kernel
theorem d_L_setLevel_16 : decode mL_setLevel.2.1 16 = .ok (.ireturn, 1) := by decide +kernel
theorem d_L_setLevel_17 : decode mL_setLevel.2.1 17 = .ok (.astore 4, 2) := by decide +kernel
theorem d_L_setLevel_19 : decode mL_setLevel.2.1 19 = .ok (.iconst 2, 1) := by decide +kernel
theorem d_L_setLevel_20 : decode mL_setLevel.2.1 20 = .ok (.ireturn, 1) := by decide +kernel
theorem d_L_setLevel_21 : decode mL_setLevel.2.1 21 = .ok (.iconst 0, 1) := by decide +kernel
theorem d_L_setLevel_22 : decode mL_setLevel.2.1 22 = .ok (.ireturn, 1) := by decide +kernel
theorem hand_L_setLevel_1 : handOK mL_setLevel 5 "java/lang/IllegalArgumentException" 2 := ⟨[(0, 10, 13, 29)], (0, 10, 17, 13), [], "java/lang/IllegalArgumentException", 4, 2, 19, rfl, List.forall_mem_cons.mpr ⟨⟨by decide, "java/lang/IndexOutOfBoundsException", aw_t 390 (by decide +kernel) (by decide +kernel), by decide +kernel⟩, fun _ h => absurd h List.not_mem_nil⟩, ⟨by decide, by decide⟩, by decide, aw_t 251 (by decide +kernel) (by decide +kernel), aw_t 262 (by decide +kernel) (by decide +kernel), by decide, Or.inr ⟨d_L_setLevel_17, rfl⟩, d_L_setLevel_19, by decide, d_L_setLevel_20⟩
theorem hand_L_setLevel_0 : handOK mL_setLevel 5 "java/lang/IndexOutOfBoundsException" 1 := ⟨[], (0, 10, 13, 29), [(0, 10, 17, 13)], "java/lang/IndexOutOfBoundsException", 4, 1, 15, rfl, fun _ h => absurd h List.not_mem_nil, ⟨by decide, by decide⟩, by decide, aw_t 390 (by decide +kernel) (by decide +kernel), aw_t 420 (by decide +kernel) (by decide +kernel), by decide, Or.inr ⟨d_L_setLevel_13, rfl⟩, d_L_setLevel_15, by decide, d_L_setLevel_16⟩
def T_L_setLevel (Q : Int32 → Mem → Prop) (v0 : Nat) (v1 : Int32) (v2 : Int32) (v3 : Nat) (M : Mem) : Prop := (kd v0 = 6) ∧ T_X6_setLevel (fun y3 M2 => (kd v3 = 12) ∧ (vp_in 0 (ln v3)) ∧ ∀ M6 : Mem, M6 = (M2.1, vp_updL M2.2.1 (Int32.toNatClampNeg 0) (Int32.toInt64 y3), M2.2.2) → Q 0 M6) (fun E9 M9 => (E9 = "java/lang/IllegalArgumentException" ∧ Q 2 M9) ∨ (E9 = "java/lang/IndexOutOfBoundsException" ∧ Q 1 M9)) v0 v1 v2 M
set_option maxRecDepth 100000 in
set_option maxHeartbeats 4000000 in
theorem c_L_setLevel {g : GG} (v0 : Nat) (v1 : Int32) (v2 : Int32) (v3 : Nat) (M : Mem) (Q : Int32 → Mem → Prop) (h : T_L_setLevel Q v0 v1 v2 v3 M) : CT g 14 mL_setLevel [.ref (g.1 + v0), .int v1, .int v2, .ref (g.1 + v3)] M 1 (oI Q noX) := by
  refine CT_ofH (L := [some (.ref (g.1 + v0)), some (.int v1), some (.int v2), some (.ref (g.1 + v3)), none]) (by decide) rfl (Nat.le_of_ble_eq_true rfl) (ro_I rfl) rfl ?_
  unfold T_L_setLevel at h
  refine R_aload_n (pc := 0) d_L_setLevel_0 rfl rfl ?_
  refine R_iconst (pc := 1) (v := 0) d_L_setLevel_1 (by decide) ?_
  refine R_aload_n (pc := 2) d_L_setLevel_2 rfl rfl ?_
  refine R_iload_n (pc := 3) d_L_setLevel_3 rfl rfl ?_
  refine R_iload_n (pc := 4) d_L_setLevel_4 rfl rfl ?_
  obtain ⟨k1, h⟩ := h
  refine R_callVC (pc := 5) (As := [.int v1, .int v2]) (rest := [.int 0, .ref (g.1 + v3)]) (c_X6_setLevel (g := g) v0 v1 v2 M _ _ h) rfl cal_RL_31 ins_X6_setLevel sel_X6_setLevel (cls_at k1 clsOK6) (by decide) (by decide) rfl rfl (Nat.le_of_ble_eq_true rfl) d_L_setLevel_5 (k_I (fun y3 M2 h => ?_)) ?_
  · try dsimp only at h
    refine R_i2l (pc := 8) d_L_setLevel_8 ?_
    obtain ⟨k4, h⟩ := h
    obtain ⟨k5, h⟩ := h
    refine R_last (pc := 9) k4 k5 d_L_setLevel_9 (N_M (fun M6 eM6 => ?_))
    have h := h M6 eM6
    refine R_goto (pc := 10) (tgt := 21) d_L_setLevel_10 (by decide) ?_
    refine R_iconst (pc := 21) (v := 0) d_L_setLevel_21 (by decide) ?_
    exact R_retv (pc := 22) d_L_setLevel_22 h
  · intro E9 M9 h9
    rcases h9 with ⟨rfl, h9⟩ | ⟨rfl, h9⟩
    · exact ⟨_, hand_L_setLevel_1, h9⟩
    · exact ⟨_, hand_L_setLevel_0, h9⟩
/-! L_move -/
theorem d_L_move_0 : decode mL_move.2.1 0 = .ok (.aload_n 3, 1) := by decide +kernel
theorem d_L_move_1 : decode mL_move.2.1 1 = .ok (.iconst 0, 1) := by decide +kernel
theorem d_L_move_2 : decode mL_move.2.1 2 = .ok (.aload_n 0, 1) := by decide +kernel
theorem d_L_move_3 : decode mL_move.2.1 3 = .ok (.iload_n 1, 1) := by decide +kernel
theorem d_L_move_4 : decode mL_move.2.1 4 = .ok (.iload_n 2, 1) := by decide +kernel
theorem d_L_move_5 : decode mL_move.2.1 5 = .ok (.invokevirtual 34, 3) := by decide +kernel
theorem d_L_move_8 : decode mL_move.2.1 8 = .ok (.i2l, 1) := by decide +kernel
theorem d_L_move_9 : decode mL_move.2.1 9 = .ok (.lastore, 1) := by decide +kernel
theorem d_L_move_10 : decode mL_move.2.1 10 = .ok (.goto 11, 3) := by decide +kernel
theorem d_L_move_13 : decode mL_move.2.1 13 = .ok (.astore 4, 2) := by decide +kernel
theorem d_L_move_15 : decode mL_move.2.1 15 = .ok (.iconst 1, 1) := by decide +kernel
theorem d_L_move_16 : decode mL_move.2.1 16 = .ok (.ireturn, 1) := by decide +kernel
theorem d_L_move_17 : decode mL_move.2.1 17 = .ok (.astore 4, 2) := by decide +kernel
theorem d_L_move_19 : decode mL_move.2.1 19 = .ok (.iconst 2, 1) := by decide +kernel
theorem d_L_move_20 : decode mL_move.2.1 20 = .ok (.ireturn, 1) := by decide +kernel
theorem d_L_move_21 : decode mL_move.2.1 21 = .ok (.iconst 0, 1) := by decide +kernel
theorem d_L_move_22 : decode mL_move.2.1 22 = .ok (.ireturn, 1) := by decide +kernel
theorem hand_L_move_1 : handOK mL_move 5 "java/lang/IllegalArgumentException" 2 := ⟨[(0, 10, 13, 29)], (0, 10, 17, 13), [], "java/lang/IllegalArgumentException", 4, 2, 19, rfl, List.forall_mem_cons.mpr ⟨⟨by decide, "java/lang/IndexOutOfBoundsException", aw_t 390 (by decide +kernel) (by decide +kernel), by decide +kernel⟩, fun _ h => absurd h List.not_mem_nil⟩, ⟨by decide, by decide⟩, by decide, aw_t 251 (by decide +kernel) (by decide +kernel), aw_t 262 (by decide +kernel) (by decide +kernel), by decide, Or.inr ⟨d_L_move_17, rfl⟩, d_L_move_19, by decide, d_L_move_20⟩
theorem hand_L_move_0 : handOK mL_move 5 "java/lang/IndexOutOfBoundsException" 1 := ⟨[], (0, 10, 13, 29), [(0, 10, 17, 13)], "java/lang/IndexOutOfBoundsException", 4, 1, 15, rfl, fun _ h => absurd h List.not_mem_nil, ⟨by decide, by decide⟩, by decide, aw_t 390 (by decide +kernel) (by decide +kernel), aw_t 420 (by decide +kernel) (by decide +kernel), by decide, Or.inr ⟨d_L_move_13, rfl⟩, d_L_move_15, by decide, d_L_move_16⟩
def T_L_move (Q : Int32 → Mem → Prop) (v0 : Nat) (v1 : Int32) (v2 : Int32) (v3 : Nat) (M : Mem) : Prop := (kd v0 = 6) ∧ T_X6_move (fun y3 M2 => (kd v3 = 12) ∧ (vp_in 0 (ln v3)) ∧ ∀ M6 : Mem, M6 = (M2.1, vp_updL M2.2.1 (Int32.toNatClampNeg 0) (Int32.toInt64 y3), M2.2.2) → Q 0 M6) (fun E9 M9 => (E9 = "java/lang/IllegalArgumentException" ∧ Q 2 M9) ∨ (E9 = "java/lang/IndexOutOfBoundsException" ∧ Q 1 M9)) v0 v1 v2 M
set_option maxRecDepth 100000 in
set_option maxHeartbeats 4000000 in
theorem c_L_move {g : GG} (v0 : Nat) (v1 : Int32) (v2 : Int32) (v3 : Nat) (M : Mem) (Q : Int32 → Mem → Prop) (h : T_L_move Q v0 v1 v2 v3 M) : CT g 16 mL_move [.ref (g.1 + v0), .int v1, .int v2, .ref (g.1 + v3)] M 1 (oI Q noX) := by
  refine CT_ofH (L := [some (.ref (g.1 + v0)), some (.int v1), some (.int v2), some (.ref (g.1 + v3)), none]) (by decide) rfl (Nat.le_of_ble_eq_true rfl) (ro_I rfl) rfl ?_
  unfold T_L_move at h
  refine R_aload_n (pc := 0) d_L_move_0 rfl rfl ?_
  refine R_iconst (pc := 1) (v := 0) d_L_move_1 (by decide) ?_
  refine R_aload_n (pc := 2) d_L_move_2 rfl rfl ?_
  refine R_iload_n (pc := 3) d_L_move_3 rfl rfl ?_
  refine R_iload_n (pc := 4) d_L_move_4 rfl rfl ?_
  obtain ⟨k1, h⟩ := h
  refine R_callVC (pc := 5) (As := [.int v1, .int v2]) (rest := [.int 0, .ref (g.1 + v3)]) (c_X6_move (g := g) v0 v1 v2 M _ _ h) rfl cal_RL_34 ins_X6_move sel_X6_move (cls_at k1 clsOK6) (by decide) (by decide) rfl rfl (Nat.le_of_ble_eq_true rfl) d_L_move_5 (k_I (fun y3 M2 h => ?_)) ?_
  · try dsimp only at h
    refine R_i2l (pc := 8) d_L_move_8 ?_
    obtain ⟨k4, h⟩ := h
    obtain ⟨k5, h⟩ := h
    refine R_last (pc := 9) k4 k5 d_L_move_9 (N_M (fun M6 eM6 => ?_))
    have h := h M6 eM6
    refine R_goto (pc := 10) (tgt := 21) d_L_move_10 (by decide) ?_
    refine R_iconst (pc := 21) (v := 0) d_L_move_21 (by decide) ?_
    exact R_retv (pc := 22) d_L_move_22 h
  · intro E9 M9 h9
    rcases h9 with ⟨rfl, h9⟩ | ⟨rfl, h9⟩
    · exact ⟨_, hand_L_move_1, h9⟩
    · exact ⟨_, hand_L_move_0, h9⟩
/-! L_confine -/
theorem d_L_confine_0 : decode mL_confine.2.1 0 = .ok (.aload_n 3, 1) := by decide +kernel
theorem d_L_confine_1 : decode mL_confine.2.1 1 = .ok (.iconst 0, 1) := by decide +kernel
theorem d_L_confine_2 : decode mL_confine.2.1 2 = .ok (.aload_n 0, 1) := by decide +kernel
theorem d_L_confine_3 : decode mL_confine.2.1 3 = .ok (.iload_n 1, 1) := by decide +kernel
theorem d_L_confine_4 : decode mL_confine.2.1 4 = .ok (.iload_n 2, 1) := by decide +kernel
theorem d_L_confine_5 : decode mL_confine.2.1 5 = .ok (.invokevirtual 37, 3) := by decide +kernel
theorem d_L_confine_8 : decode mL_confine.2.1 8 = .ok (.i2l, 1) := by decide +kernel
theorem d_L_confine_9 : decode mL_confine.2.1 9 = .ok (.lastore, 1) := by decide +kernel
theorem d_L_confine_10 : decode mL_confine.2.1 10 = .ok (.goto 7, 3) := by decide +kernel
theorem d_L_confine_13 : decode mL_confine.2.1 13 = .ok (.astore 4, 2) := by decide +kernel
theorem d_L_confine_15 : decode mL_confine.2.1 15 = .ok (.iconst 1, 1) := by decide +kernel
theorem d_L_confine_16 : decode mL_confine.2.1 16 = .ok (.ireturn, 1) := by decide +kernel
theorem d_L_confine_17 : decode mL_confine.2.1 17 = .ok (.iconst 0, 1) := by decide +kernel
theorem d_L_confine_18 : decode mL_confine.2.1 18 = .ok (.ireturn, 1) := by decide +kernel
theorem hand_L_confine_0 : handOK mL_confine 5 "java/lang/IndexOutOfBoundsException" 1 := ⟨[], (0, 10, 13, 29), [], "java/lang/IndexOutOfBoundsException", 4, 1, 15, rfl, fun _ h => absurd h List.not_mem_nil, ⟨by decide, by decide⟩, by decide, aw_t 390 (by decide +kernel) (by decide +kernel), aw_t 420 (by decide +kernel) (by decide +kernel), by decide, Or.inr ⟨d_L_confine_13, rfl⟩, d_L_confine_15, by decide, d_L_confine_16⟩
def T_L_confine (Q : Int32 → Mem → Prop) (v0 : Nat) (v1 : Int32) (v2 : Int32) (v3 : Nat) (M : Mem) : Prop := (kd v0 = 6) ∧ T_X6_confine (fun y3 M2 => (kd v3 = 12) ∧ (vp_in 0 (ln v3)) ∧ ∀ M6 : Mem, M6 = (M2.1, vp_updL M2.2.1 (Int32.toNatClampNeg 0) (Int32.toInt64 y3), M2.2.2) → Q 0 M6) (fun E9 M9 => (E9 = "java/lang/IndexOutOfBoundsException" ∧ Q 1 M9)) v0 v1 v2 M
set_option maxRecDepth 100000 in
set_option maxHeartbeats 4000000 in
theorem c_L_confine {g : GG} (v0 : Nat) (v1 : Int32) (v2 : Int32) (v3 : Nat) (M : Mem) (Q : Int32 → Mem → Prop) (h : T_L_confine Q v0 v1 v2 v3 M) : CT g 16 mL_confine [.ref (g.1 + v0), .int v1, .int v2, .ref (g.1 + v3)] M 1 (oI Q noX) := by
  refine CT_ofH (L := [some (.ref (g.1 + v0)), some (.int v1), some (.int v2), some (.ref (g.1 + v3)), none]) (by decide) rfl (Nat.le_of_ble_eq_true rfl) (ro_I rfl) rfl ?_
  unfold T_L_confine at h
  refine R_aload_n (pc := 0) d_L_confine_0 rfl rfl ?_
  refine R_iconst (pc := 1) (v := 0) d_L_confine_1 (by decide) ?_
  refine R_aload_n (pc := 2) d_L_confine_2 rfl rfl ?_
  refine R_iload_n (pc := 3) d_L_confine_3 rfl rfl ?_
  refine R_iload_n (pc := 4) d_L_confine_4 rfl rfl ?_
  obtain ⟨k1, h⟩ := h
  refine R_callVC (pc := 5) (As := [.int v1, .int v2]) (rest := [.int 0, .ref (g.1 + v3)]) (c_X6_confine (g := g) v0 v1 v2 M _ _ h) rfl cal_RL_37 ins_X6_confine sel_X6_confine (cls_at k1 clsOK6) (by decide) (by decide) rfl rfl (Nat.le_of_ble_eq_true rfl) d_L_confine_5 (k_I (fun y3 M2 h => ?_)) ?_
  · try dsimp only at h
    refine R_i2l (pc := 8) d_L_confine_8 ?_
    obtain ⟨k4, h⟩ := h
    obtain ⟨k5, h⟩ := h
    refine R_last (pc := 9) k4 k5 d_L_confine_9 (N_M (fun M6 eM6 => ?_))
    have h := h M6 eM6
    refine R_goto (pc := 10) (tgt := 17) d_L_confine_10 (by decide) ?_
    refine R_iconst (pc := 17) (v := 0) d_L_confine_17 (by decide) ?_
    exact R_retv (pc := 18) d_L_confine_18 h
  · intro E9 M9 h9
    obtain ⟨rfl, h9⟩ := h9
    exact ⟨_, hand_L_confine_0, h9⟩
/-! L_set -/
theorem d_L_set_0 : decode mL_set.2.1 0 = .ok (.aload_n 3, 1) := by decide +kernel
theorem d_L_set_1 : decode mL_set.2.1 1 = .ok (.iconst 0, 1) := by decide +kernel
theorem d_L_set_2 : decode mL_set.2.1 2 = .ok (.aload_n 0, 1) := by decide +kernel
theorem d_L_set_3 : decode mL_set.2.1 3 = .ok (.iload_n 1, 1) := by decide +kernel
theorem d_L_set_4 : decode mL_set.2.1 4 = .ok (.iload_n 2, 1) := by decide +kernel
theorem d_L_set_5 : decode mL_set.2.1 5 = .ok (.invokevirtual 40, 3) := by decide +kernel
theorem d_L_set_8 : decode mL_set.2.1 8 = .ok (.i2l, 1) := by decide +kernel
theorem d_L_set_9 : decode mL_set.2.1 9 = .ok (.lastore, 1) := by decide +kernel
theorem d_L_set_10 : decode mL_set.2.1 10 = .ok (.goto 11, 3) := by decide +kernel
theorem d_L_set_13 : decode mL_set.2.1 13 = .ok (.astore 4, 2) := by decide +kernel
theorem d_L_set_15 : decode mL_set.2.1 15 = .ok (.iconst 1, 1) := by decide +kernel
theorem d_L_set_16 : decode mL_set.2.1 16 = .ok (.ireturn, 1) := by decide +kernel
theorem d_L_set_17 : decode mL_set.2.1 17 = .ok (.astore 4, 2) := by decide +kernel
theorem d_L_set_19 : decode mL_set.2.1 19 = .ok (.iconst 2, 1) := by decide +kernel
theorem d_L_set_20 : decode mL_set.2.1 20 = .ok (.ireturn, 1) := by decide +kernel
theorem d_L_set_21 : decode mL_set.2.1 21 = .ok (.iconst 0, 1) := by decide +kernel
theorem d_L_set_22 : decode mL_set.2.1 22 = .ok (.ireturn, 1) := by decide +kernel
theorem hand_L_set_1 : handOK mL_set 5 "java/lang/IllegalArgumentException" 2 := ⟨[(0, 10, 13, 29)], (0, 10, 17, 13), [], "java/lang/IllegalArgumentException", 4, 2, 19, rfl, List.forall_mem_cons.mpr ⟨⟨by decide, "java/lang/IndexOutOfBoundsException", aw_t 390 (by decide +kernel) (by decide +kernel), by decide +kernel⟩, fun _ h => absurd h List.not_mem_nil⟩, ⟨by decide, by decide⟩, by decide, aw_t 251 (by decide +kernel) (by decide +kernel), aw_t 262 (by decide +kernel) (by decide +kernel), by decide, Or.inr ⟨d_L_set_17, rfl⟩, d_L_set_19, by decide, d_L_set_20⟩
theorem hand_L_set_0 : handOK mL_set 5 "java/lang/IndexOutOfBoundsException" 1 := ⟨[], (0, 10, 13, 29), [(0, 10, 17, 13)], "java/lang/IndexOutOfBoundsException", 4, 1, 15, rfl, fun _ h => absurd h List.not_mem_nil, ⟨by decide, by decide⟩, by decide, aw_t 390 (by decide +kernel) (by decide +kernel), aw_t 420 (by decide +kernel) (by decide +kernel), by decide, Or.inr ⟨d_L_set_13, rfl⟩, d_L_set_15, by decide, d_L_set_16⟩
def T_L_set (Q : Int32 → Mem → Prop) (v0 : Nat) (v1 : Int32) (v2 : Int32) (v3 : Nat) (M : Mem) : Prop := (kd v0 = 6) ∧ T_X6_set (fun y3 M2 => (kd v3 = 12) ∧ (vp_in 0 (ln v3)) ∧ ∀ M6 : Mem, M6 = (M2.1, vp_updL M2.2.1 (Int32.toNatClampNeg 0) (Int32.toInt64 y3), M2.2.2) → Q 0 M6) (fun E9 M9 => (E9 = "java/lang/IllegalArgumentException" ∧ Q 2 M9) ∨ (E9 = "java/lang/IndexOutOfBoundsException" ∧ Q 1 M9)) v0 v1 v2 M
set_option maxRecDepth 100000 in
set_option maxHeartbeats 4000000 in
theorem c_L_set {g : GG} (v0 : Nat) (v1 : Int32) (v2 : Int32) (v3 : Nat) (M : Mem) (Q : Int32 → Mem → Prop) (h : T_L_set Q v0 v1 v2 v3 M) : CT g 14 mL_set [.ref (g.1 + v0), .int v1, .int v2, .ref (g.1 + v3)] M 1 (oI Q noX) := by
  refine CT_ofH (L := [some (.ref (g.1 + v0)), some (.int v1), some (.int v2), some (.ref (g.1 + v3)), none]) (by decide) rfl (Nat.le_of_ble_eq_true rfl) (ro_I rfl) rfl ?_
  unfold T_L_set at h
  refine R_aload_n (pc := 0) d_L_set_0 rfl rfl ?_
  refine R_iconst (pc := 1) (v := 0) d_L_set_1 (by decide) ?_
  refine R_aload_n (pc := 2) d_L_set_2 rfl rfl ?_
  refine R_iload_n (pc := 3) d_L_set_3 rfl rfl ?_
  refine R_iload_n (pc := 4) d_L_set_4 rfl rfl ?_
  obtain ⟨k1, h⟩ := h
  refine R_callVC (pc := 5) (As := [.int v1, .int v2]) (rest := [.int 0, .ref (g.1 + v3)]) (c_X6_set (g := g) v0 v1 v2 M _ _ h) rfl cal_RL_40 ins_X6_set sel_X6_set (cls_at k1 clsOK6) (by decide) (by decide) rfl rfl (Nat.le_of_ble_eq_true rfl) d_L_set_5 (k_I (fun y3 M2 h => ?_)) ?_
  · try dsimp only at h
    refine R_i2l (pc := 8) d_L_set_8 ?_
    obtain ⟨k4, h⟩ := h
    obtain ⟨k5, h⟩ := h
    refine R_last (pc := 9) k4 k5 d_L_set_9 (N_M (fun M6 eM6 => ?_))
    have h := h M6 eM6
    refine R_goto (pc := 10) (tgt := 21) d_L_set_10 (by decide) ?_
    refine R_iconst (pc := 21) (v := 0) d_L_set_21 (by decide) ?_
    exact R_retv (pc := 22) d_L_set_22 h
  · intro E9 M9 h9
    rcases h9 with ⟨rfl, h9⟩ | ⟨rfl, h9⟩
    · exact ⟨_, hand_L_set_1, h9⟩
    · exact ⟨_, hand_L_set_0, h9⟩
/-! L_inmate -/
theorem d_L_inmate_0 : decode mL_inmate.2.1 0 = .ok (.aload_n 3, 1) := by decide +kernel
theorem d_L_inmate_1 : decode mL_inmate.2.1 1 = .ok (.iconst 0, 1) := by decide +kernel
theorem d_L_inmate_2 : decode mL_inmate.2.1 2 = .ok (.aload_n 0, 1) := by decide +kernel
theorem d_L_inmate_3 : decode mL_inmate.2.1 3 = .ok (.iload_n 1, 1) := by decide +kernel
theorem d_L_inmate_4 : decode mL_inmate.2.1 4 = .ok (.iload_n 2, 1) := by decide +kernel
theorem d_L_inmate_5 : decode mL_inmate.2.1 5 = .ok (.invokevirtual 43, 3) := by decide +kernel
theorem d_L_inmate_8 : decode mL_inmate.2.1 8 = .ok (.i2l, 1) := by decide +kernel
theorem d_L_inmate_9 : decode mL_inmate.2.1 9 = .ok (.lastore, 1) := by decide +kernel
theorem d_L_inmate_10 : decode mL_inmate.2.1 10 = .ok (.goto 11, 3) := by decide +kernel
theorem d_L_inmate_13 : decode mL_inmate.2.1 13 = .ok (.astore 4, 2) := by decide +kernel
theorem d_L_inmate_15 : decode mL_inmate.2.1 15 = .ok (.iconst 1, 1) := by decide +kernel
theorem d_L_inmate_16 : decode mL_inmate.2.1 16 = .ok (.ireturn, 1) := by decide +kernel
theorem d_L_inmate_17 : decode mL_inmate.2.1 17 = .ok (.astore 4, 2) := by decide +kernel
theorem d_L_inmate_19 : decode mL_inmate.2.1 19 = .ok (.iconst 2, 1) := by decide +kernel
theorem d_L_inmate_20 : decode mL_inmate.2.1 20 = .ok (.ireturn, 1) := by decide +kernel
theorem d_L_inmate_21 : decode mL_inmate.2.1 21 = .ok (.iconst 0, 1) := by decide +kernel
theorem d_L_inmate_22 : decode mL_inmate.2.1 22 = .ok (.ireturn, 1) := by decide +kernel
theorem hand_L_inmate_1 : handOK mL_inmate 5 "java/lang/IllegalArgumentException" 2 := ⟨[(0, 10, 13, 29)], (0, 10, 17, 13), [], "java/lang/IllegalArgumentException", 4, 2, 19, rfl, List.forall_mem_cons.mpr ⟨⟨by decide, "java/lang/IndexOutOfBoundsException", aw_t 390 (by decide +kernel) (by decide +kernel), by decide +kernel⟩, fun _ h => absurd h List.not_mem_nil⟩, ⟨by decide, by decide⟩, by decide, aw_t 251 (by decide +kernel) (by decide +kernel), aw_t 262 (by decide +kernel) (by decide +kernel), by decide, Or.inr ⟨d_L_inmate_17, rfl⟩, d_L_inmate_19, by decide, d_L_inmate_20⟩
theorem hand_L_inmate_0 : handOK mL_inmate 5 "java/lang/IndexOutOfBoundsException" 1 := ⟨[], (0, 10, 13, 29), [(0, 10, 17, 13)], "java/lang/IndexOutOfBoundsException", 4, 1, 15, rfl, fun _ h => absurd h List.not_mem_nil, ⟨by decide, by decide⟩, by decide, aw_t 390 (by decide +kernel) (by decide +kernel), aw_t 420 (by decide +kernel) (by decide +kernel), by decide, Or.inr ⟨d_L_inmate_13, rfl⟩, d_L_inmate_15, by decide, d_L_inmate_16⟩
def T_L_inmate (Q : Int32 → Mem → Prop) (v0 : Nat) (v1 : Int32) (v2 : Int32) (v3 : Nat) (M : Mem) : Prop := (kd v0 = 6) ∧ T_X6_inmate (fun y3 M2 => (kd v3 = 12) ∧ (vp_in 0 (ln v3)) ∧ ∀ M6 : Mem, M6 = (M2.1, vp_updL M2.2.1 (Int32.toNatClampNeg 0) (Int32.toInt64 y3), M2.2.2) → Q 0 M6) (fun E9 M9 => (E9 = "java/lang/IllegalArgumentException" ∧ Q 2 M9) ∨ (E9 = "java/lang/IndexOutOfBoundsException" ∧ Q 1 M9)) v0 v1 v2 M
set_option maxRecDepth 100000 in
set_option maxHeartbeats 4000000 in
theorem c_L_inmate {g : GG} (v0 : Nat) (v1 : Int32) (v2 : Int32) (v3 : Nat) (M : Mem) (Q : Int32 → Mem → Prop) (h : T_L_inmate Q v0 v1 v2 v3 M) : CT g 12 mL_inmate [.ref (g.1 + v0), .int v1, .int v2, .ref (g.1 + v3)] M 1 (oI Q noX) := by
  refine CT_ofH (L := [some (.ref (g.1 + v0)), some (.int v1), some (.int v2), some (.ref (g.1 + v3)), none]) (by decide) rfl (Nat.le_of_ble_eq_true rfl) (ro_I rfl) rfl ?_
  unfold T_L_inmate at h
  refine R_aload_n (pc := 0) d_L_inmate_0 rfl rfl ?_
  refine R_iconst (pc := 1) (v := 0) d_L_inmate_1 (by decide) ?_
  refine R_aload_n (pc := 2) d_L_inmate_2 rfl rfl ?_
  refine R_iload_n (pc := 3) d_L_inmate_3 rfl rfl ?_
  refine R_iload_n (pc := 4) d_L_inmate_4 rfl rfl ?_
  obtain ⟨k1, h⟩ := h
  refine R_callVC (pc := 5) (As := [.int v1, .int v2]) (rest := [.int 0, .ref (g.1 + v3)]) (c_X6_inmate (g := g) v0 v1 v2 M _ _ h) rfl cal_RL_43 ins_X6_inmate sel_X6_inmate (cls_at k1 clsOK6) (by decide) (by decide) rfl rfl (Nat.le_of_ble_eq_true rfl) d_L_inmate_5 (k_I (fun y3 M2 h => ?_)) ?_
  · try dsimp only at h
    refine R_i2l (pc := 8) d_L_inmate_8 ?_
    obtain ⟨k4, h⟩ := h
    obtain ⟨k5, h⟩ := h
    refine R_last (pc := 9) k4 k5 d_L_inmate_9 (N_M (fun M6 eM6 => ?_))
    have h := h M6 eM6
    refine R_goto (pc := 10) (tgt := 21) d_L_inmate_10 (by decide) ?_
    refine R_iconst (pc := 21) (v := 0) d_L_inmate_21 (by decide) ?_
    exact R_retv (pc := 22) d_L_inmate_22 h
  · intro E9 M9 h9
    rcases h9 with ⟨rfl, h9⟩ | ⟨rfl, h9⟩
    · exact ⟨_, hand_L_inmate_1, h9⟩
    · exact ⟨_, hand_L_inmate_0, h9⟩
/-! L_room -/
theorem d_L_room_0 : decode mL_room.2.1 0 = .ok (.aload_n 3, 1) := by decide +kernel
theorem d_L_room_1 : decode mL_room.2.1 1 = .ok (.iconst 0, 1) := by decide +kernel
theorem d_L_room_2 : decode mL_room.2.1 2 = .ok (.aload_n 0, 1) := by decide +kernel
theorem d_L_room_3 : decode mL_room.2.1 3 = .ok (.iload_n 1, 1) := by decide +kernel
theorem d_L_room_4 : decode mL_room.2.1 4 = .ok (.iload_n 2, 1) := by decide +kernel
theorem d_L_room_5 : decode mL_room.2.1 5 = .ok (.invokevirtual 46, 3) := by decide +kernel
theorem d_L_room_8 : decode mL_room.2.1 8 = .ok (.i2l, 1) := by decide +kernel
theorem d_L_room_9 : decode mL_room.2.1 9 = .ok (.lastore, 1) := by decide +kernel
theorem d_L_room_10 : decode mL_room.2.1 10 = .ok (.goto 11, 3) := by decide +kernel
theorem d_L_room_13 : decode mL_room.2.1 13 = .ok (.astore 4, 2) := by decide +kernel
theorem d_L_room_15 : decode mL_room.2.1 15 = .ok (.iconst 1, 1) := by decide +kernel
theorem d_L_room_16 : decode mL_room.2.1 16 = .ok (.ireturn, 1) := by decide +kernel
theorem d_L_room_17 : decode mL_room.2.1 17 = .ok (.astore 4, 2) := by decide +kernel
theorem d_L_room_19 : decode mL_room.2.1 19 = .ok (.iconst 2, 1) := by decide +kernel
theorem d_L_room_20 : decode mL_room.2.1 20 = .ok (.ireturn, 1) := by decide +kernel
theorem d_L_room_21 : decode mL_room.2.1 21 = .ok (.iconst 0, 1) := by decide +kernel
theorem d_L_room_22 : decode mL_room.2.1 22 = .ok (.ireturn, 1) := by decide +kernel
theorem hand_L_room_1 : handOK mL_room 5 "java/lang/IllegalArgumentException" 2 := ⟨[(0, 10, 13, 29)], (0, 10, 17, 13), [], "java/lang/IllegalArgumentException", 4, 2, 19, rfl, List.forall_mem_cons.mpr ⟨⟨by decide, "java/lang/IndexOutOfBoundsException", aw_t 390 (by decide +kernel) (by decide +kernel), by decide +kernel⟩, fun _ h => absurd h List.not_mem_nil⟩, ⟨by decide, by decide⟩, by decide, aw_t 251 (by decide +kernel) (by decide +kernel), aw_t 262 (by decide +kernel) (by decide +kernel), by decide, Or.inr ⟨d_L_room_17, rfl⟩, d_L_room_19, by decide, d_L_room_20⟩
theorem hand_L_room_0 : handOK mL_room 5 "java/lang/IndexOutOfBoundsException" 1 := ⟨[], (0, 10, 13, 29), [(0, 10, 17, 13)], "java/lang/IndexOutOfBoundsException", 4, 1, 15, rfl, fun _ h => absurd h List.not_mem_nil, ⟨by decide, by decide⟩, by decide, aw_t 390 (by decide +kernel) (by decide +kernel), aw_t 420 (by decide +kernel) (by decide +kernel), by decide, Or.inr ⟨d_L_room_13, rfl⟩, d_L_room_15, by decide, d_L_room_16⟩
def T_L_room (Q : Int32 → Mem → Prop) (v0 : Nat) (v1 : Int32) (v2 : Int32) (v3 : Nat) (M : Mem) : Prop := (kd v0 = 6) ∧ T_X6_room (fun y3 M2 => (kd v3 = 12) ∧ (vp_in 0 (ln v3)) ∧ ∀ M6 : Mem, M6 = (M2.1, vp_updL M2.2.1 (Int32.toNatClampNeg 0) (Int32.toInt64 y3), M2.2.2) → Q 0 M6) (fun E9 M9 => (E9 = "java/lang/IllegalArgumentException" ∧ Q 2 M9) ∨ (E9 = "java/lang/IndexOutOfBoundsException" ∧ Q 1 M9)) v0 v1 v2 M
set_option maxRecDepth 100000 in
set_option maxHeartbeats 4000000 in
theorem c_L_room {g : GG} (v0 : Nat) (v1 : Int32) (v2 : Int32) (v3 : Nat) (M : Mem) (Q : Int32 → Mem → Prop) (h : T_L_room Q v0 v1 v2 v3 M) : CT g 11 mL_room [.ref (g.1 + v0), .int v1, .int v2, .ref (g.1 + v3)] M 1 (oI Q noX) := by
  refine CT_ofH (L := [some (.ref (g.1 + v0)), some (.int v1), some (.int v2), some (.ref (g.1 + v3)), none]) (by decide) rfl (Nat.le_of_ble_eq_true rfl) (ro_I rfl) rfl ?_
  unfold T_L_room at h
  refine R_aload_n (pc := 0) d_L_room_0 rfl rfl ?_
  refine R_iconst (pc := 1) (v := 0) d_L_room_1 (by decide) ?_
  refine R_aload_n (pc := 2) d_L_room_2 rfl rfl ?_
  refine R_iload_n (pc := 3) d_L_room_3 rfl rfl ?_
  refine R_iload_n (pc := 4) d_L_room_4 rfl rfl ?_
  obtain ⟨k1, h⟩ := h
  refine R_callVC (pc := 5) (As := [.int v1, .int v2]) (rest := [.int 0, .ref (g.1 + v3)]) (c_X6_room (g := g) v0 v1 v2 M _ _ h) rfl cal_RL_46 ins_X6_room sel_X6_room (cls_at k1 clsOK6) (by decide) (by decide) rfl rfl (Nat.le_of_ble_eq_true rfl) d_L_room_5 (k_I (fun y3 M2 h => ?_)) ?_
  · try dsimp only at h
    refine R_i2l (pc := 8) d_L_room_8 ?_
    obtain ⟨k4, h⟩ := h
    obtain ⟨k5, h⟩ := h
    refine R_last (pc := 9) k4 k5 d_L_room_9 (N_M (fun M6 eM6 => ?_))
    have h := h M6 eM6
    refine R_goto (pc := 10) (tgt := 21) d_L_room_10 (by decide) ?_
    refine R_iconst (pc := 21) (v := 0) d_L_room_21 (by decide) ?_
    exact R_retv (pc := 22) d_L_room_22 h
  · intro E9 M9 h9
    rcases h9 with ⟨rfl, h9⟩ | ⟨rfl, h9⟩
    · exact ⟨_, hand_L_room_1, h9⟩
    · exact ⟨_, hand_L_room_0, h9⟩
/-! L_ordered -/
theorem d_L_ordered_0 : decode mL_ordered.2.1 0 = .ok (.aload_n 3, 1) := by decide +kernel
theorem d_L_ordered_1 : decode mL_ordered.2.1 1 = .ok (.iconst 0, 1) := by decide +kernel
theorem d_L_ordered_2 : decode mL_ordered.2.1 2 = .ok (.aload_n 0, 1) := by decide +kernel
theorem d_L_ordered_3 : decode mL_ordered.2.1 3 = .ok (.iload_n 1, 1) := by decide +kernel
theorem d_L_ordered_4 : decode mL_ordered.2.1 4 = .ok (.iload_n 2, 1) := by decide +kernel
theorem d_L_ordered_5 : decode mL_ordered.2.1 5 = .ok (.invokevirtual 49, 3) := by decide +kernel
theorem d_L_ordered_8 : decode mL_ordered.2.1 8 = .ok (.i2l, 1) := by decide +kernel
theorem d_L_ordered_9 : decode mL_ordered.2.1 9 = .ok (.lastore, 1) := by decide +kernel
theorem d_L_ordered_10 : decode mL_ordered.2.1 10 = .ok (.goto 11, 3) := by decide +kernel
theorem d_L_ordered_13 : decode mL_ordered.2.1 13 = .ok (.astore 4, 2) := by decide +kernel
theorem d_L_ordered_15 : decode mL_ordered.2.1 15 = .ok (.iconst 1, 1) := by decide +kernel
theorem d_L_ordered_16 : decode mL_ordered.2.1 16 = .ok (.ireturn, 1) := by decide +kernel
theorem d_L_ordered_17 : decode mL_ordered.2.1 17 = .ok (.astore 4, 2) := by decide +kernel
theorem d_L_ordered_19 : decode mL_ordered.2.1 19 = .ok (.iconst 2, 1) := by decide +kernel
theorem d_L_ordered_20 : decode mL_ordered.2.1 20 = .ok (.ireturn, 1) := by decide +kernel
theorem d_L_ordered_21 : decode mL_ordered.2.1 21 = .ok (.iconst 0, 1) := by decide +kernel
theorem d_L_ordered_22 : decode mL_ordered.2.1 22 = .ok (.ireturn, 1) := by decide +kernel
theorem hand_L_ordered_0 : handOK mL_ordered 5 "java/lang/IndexOutOfBoundsException" 1 := ⟨[], (0, 10, 13, 29), [(0, 10, 17, 52)], "java/lang/IndexOutOfBoundsException", 4, 1, 15, rfl, fun _ h => absurd h List.not_mem_nil, ⟨by decide, by decide⟩, by decide, aw_t 390 (by decide +kernel) (by decide +kernel), aw_t 420 (by decide +kernel) (by decide +kernel), by decide, Or.inr ⟨d_L_ordered_13, rfl⟩, d_L_ordered_15, by decide, d_L_ordered_16⟩
theorem hand_L_ordered_1 : handOK mL_ordered 5 "java/util/NoSuchElementException" 2 := ⟨[(0, 10, 13, 29)], (0, 10, 17, 52), [], "java/util/NoSuchElementException", 4, 2, 19, rfl, List.forall_mem_cons.mpr ⟨⟨by decide, "java/lang/IndexOutOfBoundsException", aw_t 390 (by decide +kernel) (by decide +kernel), by decide +kernel⟩, fun _ h => absurd h List.not_mem_nil⟩, ⟨by decide, by decide⟩, by decide, aw_t 642 (by decide +kernel) (by decide +kernel), aw_t 649 (by decide +kernel) (by decide +kernel), by decide, Or.inr ⟨d_L_ordered_17, rfl⟩, d_L_ordered_19, by decide, d_L_ordered_20⟩
def T_L_ordered (Q : Int32 → Mem → Prop) (v0 : Nat) (v1 : Int32) (v2 : Int32) (v3 : Nat) (M : Mem) : Prop := (kd v0 = 6) ∧ T_X6_ordered (fun y3 M2 => (kd v3 = 12) ∧ (vp_in 0 (ln v3)) ∧ ∀ M6 : Mem, M6 = (M2.1, vp_updL M2.2.1 (Int32.toNatClampNeg 0) (Int32.toInt64 y3), M2.2.2) → Q 0 M6) (fun E9 M9 => (E9 = "java/lang/IndexOutOfBoundsException" ∧ Q 1 M9) ∨ (E9 = "java/util/NoSuchElementException" ∧ Q 2 M9)) v0 v1 v2 M
set_option maxRecDepth 100000 in
set_option maxHeartbeats 4000000 in
theorem c_L_ordered {g : GG} (v0 : Nat) (v1 : Int32) (v2 : Int32) (v3 : Nat) (M : Mem) (Q : Int32 → Mem → Prop) (h : T_L_ordered Q v0 v1 v2 v3 M) : CT g 12 mL_ordered [.ref (g.1 + v0), .int v1, .int v2, .ref (g.1 + v3)] M 1 (oI Q noX) := by
  refine CT_ofH (L := [some (.ref (g.1 + v0)), some (.int v1), some (.int v2), some (.ref (g.1 + v3)), none]) (by decide) rfl (Nat.le_of_ble_eq_true rfl) (ro_I rfl) rfl ?_
  unfold T_L_ordered at h
  refine R_aload_n (pc := 0) d_L_ordered_0 rfl rfl ?_
  refine R_iconst (pc := 1) (v := 0) d_L_ordered_1 (by decide) ?_
  refine R_aload_n (pc := 2) d_L_ordered_2 rfl rfl ?_
  refine R_iload_n (pc := 3) d_L_ordered_3 rfl rfl ?_
  refine R_iload_n (pc := 4) d_L_ordered_4 rfl rfl ?_
  obtain ⟨k1, h⟩ := h
  refine R_callVC (pc := 5) (As := [.int v1, .int v2]) (rest := [.int 0, .ref (g.1 + v3)]) (c_X6_ordered (g := g) v0 v1 v2 M _ _ h) rfl cal_RL_49 ins_X6_ordered sel_X6_ordered (cls_at k1 clsOK6) (by decide) (by decide) rfl rfl (Nat.le_of_ble_eq_true rfl) d_L_ordered_5 (k_I (fun y3 M2 h => ?_)) ?_
  · try dsimp only at h
    refine R_i2l (pc := 8) d_L_ordered_8 ?_
    obtain ⟨k4, h⟩ := h
    obtain ⟨k5, h⟩ := h
    refine R_last (pc := 9) k4 k5 d_L_ordered_9 (N_M (fun M6 eM6 => ?_))
    have h := h M6 eM6
    refine R_goto (pc := 10) (tgt := 21) d_L_ordered_10 (by decide) ?_
    refine R_iconst (pc := 21) (v := 0) d_L_ordered_21 (by decide) ?_
    exact R_retv (pc := 22) d_L_ordered_22 h
  · intro E9 M9 h9
    rcases h9 with ⟨rfl, h9⟩ | ⟨rfl, h9⟩
    · exact ⟨_, hand_L_ordered_0, h9⟩
    · exact ⟨_, hand_L_ordered_1, h9⟩
/-! L_book -/
theorem d_L_book_0 : decode mL_book.2.1 0 = .ok (.aload 5, 2) := by decide +kernel
theorem d_L_book_2 : decode mL_book.2.1 2 = .ok (.iconst 0, 1) := by decide +kernel
theorem d_L_book_3 : decode mL_book.2.1 3 = .ok (.aload_n 0, 1) := by decide +kernel
theorem d_L_book_4 : decode mL_book.2.1 4 = .ok (.iload_n 1, 1) := by decide +kernel
theorem d_L_book_5 : decode mL_book.2.1 5 = .ok (.iload_n 2, 1) := by decide +kernel
theorem d_L_book_6 : decode mL_book.2.1 6 = .ok (.iload_n 3, 1) := by decide +kernel
theorem d_L_book_7 : decode mL_book.2.1 7 = .ok (.iload 4, 2) := by decide +kernel
theorem d_L_book_9 : decode mL_book.2.1 9 = .ok (.invokevirtual 54, 3) := by decide +kernel
theorem d_L_book_12 : decode mL_book.2.1 12 = .ok (.i2l, 1) := by decide +kernel
theorem d_L_book_13 : decode mL_book.2.1 13 = .ok (.lastore, 1) := by decide +kernel
theorem d_L_book_14 : decode mL_book.2.1 14 = .ok (.goto 15, 3) := by decide +kernel
theorem d_L_book_17 : decode mL_book.2.1 17 = .ok (.astore 6, 2) := by decide +kernel
theorem d_L_book_19 : decode mL_book.2.1 19 = .ok (.iconst 1, 1) := by decide +kernel
theorem d_L_book_20 : decode mL_book.2.1 20 = .ok (.ireturn, 1) := by decide +kernel
theorem d_L_book_21 : decode mL_book.2.1 21 = .ok (.astore 6, 2) := by decide +kernel
theorem d_L_book_23 : decode mL_book.2.1 23 = .ok (.iconst 2, 1) := by decide +kernel
theorem d_L_book_24 : decode mL_book.2.1 24 = .ok (.ireturn, 1) := by decide +kernel
theorem d_L_book_25 : decode mL_book.2.1 25 = .ok (.astore 6, 2) := by decide +kernel
theorem d_L_book_27 : decode mL_book.2.1 27 = .ok (.iconst 3, 1) := by decide +kernel
theorem d_L_book_28 : decode mL_book.2.1 28 = .ok (.ireturn, 1) := by decide +kernel
theorem d_L_book_29 : decode mL_book.2.1 29 = .ok (.iconst 0, 1) := by decide +kernel
theorem d_L_book_30 : decode mL_book.2.1 30 = .ok (.ireturn, 1) := by decide +kernel
theorem hand_L_book_1 : handOK mL_book 9 "java/lang/IllegalArgumentException" 2 := ⟨[(0, 14, 17, 29)], (0, 14, 21, 13), [(0, 14, 25, 58)], "java/lang/IllegalArgumentException", 6, 2, 23, rfl, List.forall_mem_cons.mpr ⟨⟨by decide, "java/lang/IndexOutOfBoundsException", aw_t 390 (by decide +kernel) (by decide +kernel), by decide +kernel⟩, fun _ h => absurd h List.not_mem_nil⟩, ⟨by decide, by decide⟩, by decide, aw_t 251 (by decide +kernel) (by decide +kernel), aw_t 262 (by decide +kernel) (by decide +kernel), by decide, Or.inr ⟨d_L_book_21, rfl⟩, d_L_book_23, by decide, d_L_book_24⟩
theorem hand_L_book_0 : handOK mL_book 9 "java/lang/IndexOutOfBoundsException" 1 := ⟨[], (0, 14, 17, 29), [(0, 14, 21, 13), (0, 14, 25, 58)], "java/lang/IndexOutOfBoundsException", 6, 1, 19, rfl, fun _ h => absurd h List.not_mem_nil, ⟨by decide, by decide⟩, by decide, aw_t 390 (by decide +kernel) (by decide +kernel), aw_t 420 (by decide +kernel) (by decide +kernel), by decide, Or.inr ⟨d_L_book_17, rfl⟩, d_L_book_19, by decide, d_L_book_20⟩
theorem hand_L_book_2 : handOK mL_book 9 "java/lang/UnsupportedOperationException" 3 := ⟨[(0, 14, 17, 29), (0, 14, 21, 13)], (0, 14, 25, 58), [], "java/lang/UnsupportedOperationException", 6, 3, 27, rfl, List.forall_mem_cons.mpr ⟨⟨by decide, "java/lang/IndexOutOfBoundsException", aw_t 390 (by decide +kernel) (by decide +kernel), by decide +kernel⟩, List.forall_mem_cons.mpr ⟨⟨by decide, "java/lang/IllegalArgumentException", aw_t 251 (by decide +kernel) (by decide +kernel), by decide +kernel⟩, fun _ h => absurd h List.not_mem_nil⟩⟩, ⟨by decide, by decide⟩, by decide, aw_t 667 (by decide +kernel) (by decide +kernel), aw_t 694 (by decide +kernel) (by decide +kernel), by decide, Or.inr ⟨d_L_book_25, rfl⟩, d_L_book_27, by decide, d_L_book_28⟩
def T_L_book (Q : Int32 → Mem → Prop) (v0 : Nat) (v1 : Int32) (v2 : Int32) (v3 : Int32) (v4 : Int32) (v5 : Nat) (M : Mem) : Prop := (kd v0 = 6) ∧ T_X6_book (fun y3 M2 => (kd v5 = 12) ∧ (vp_in 0 (ln v5)) ∧ ∀ M6 : Mem, M6 = (M2.1, vp_updL M2.2.1 (Int32.toNatClampNeg 0) (Int32.toInt64 y3), M2.2.2) → Q 0 M6) (fun E9 M9 => (E9 = "java/lang/IllegalArgumentException" ∧ Q 2 M9) ∨ (E9 = "java/lang/IndexOutOfBoundsException" ∧ Q 1 M9) ∨ (E9 = "java/lang/UnsupportedOperationException" ∧ Q 3 M9)) v0 v1 v2 v3 v4 M
set_option maxRecDepth 100000 in
set_option maxHeartbeats 4000000 in
theorem c_L_book {g : GG} (v0 : Nat) (v1 : Int32) (v2 : Int32) (v3 : Int32) (v4 : Int32) (v5 : Nat) (M : Mem) (Q : Int32 → Mem → Prop) (h : T_L_book Q v0 v1 v2 v3 v4 v5 M) : CT g 15 mL_book [.ref (g.1 + v0), .int v1, .int v2, .int v3, .int v4, .ref (g.1 + v5)] M 2 (oI Q noX) := by
  refine CT_ofH (L := [some (.ref (g.1 + v0)), some (.int v1), some (.int v2), some (.int v3), some (.int v4), some (.ref (g.1 + v5)), none]) (by decide) rfl (Nat.le_of_ble_eq_true rfl) (ro_I rfl) rfl ?_
  unfold T_L_book at h
  refine R_aload (pc := 0) d_L_book_0 rfl ?_
  refine R_iconst (pc := 2) (v := 0) d_L_book_2 (by decide) ?_
  refine R_aload_n (pc := 3) d_L_book_3 rfl rfl ?_
  refine R_iload_n (pc := 4) d_L_book_4 rfl rfl ?_
  refine R_iload_n (pc := 5) d_L_book_5 rfl rfl ?_
  refine R_iload_n (pc := 6) d_L_book_6 rfl rfl ?_
  refine R_iload (pc := 7) d_L_book_7 rfl ?_
  obtain ⟨k1, h⟩ := h
  refine R_callVC (pc := 9) (As := [.int v1, .int v2, .int v3, .int v4]) (rest := [.int 0, .ref (g.1 + v5)]) (c_X6_book (g := g) v0 v1 v2 v3 v4 M _ _ h) rfl cal_RL_54 ins_X6_book sel_X6_book (cls_at k1 clsOK6) (by decide) (by decide) rfl rfl (Nat.le_of_ble_eq_true rfl) d_L_book_9 (k_I (fun y3 M2 h => ?_)) ?_
  · try dsimp only at h
    refine R_i2l (pc := 12) d_L_book_12 ?_
    obtain ⟨k4, h⟩ := h
    obtain ⟨k5, h⟩ := h
    refine R_last (pc := 13) k4 k5 d_L_book_13 (N_M (fun M6 eM6 => ?_))
    have h := h M6 eM6
    refine R_goto (pc := 14) (tgt := 29) d_L_book_14 (by decide) ?_
    refine R_iconst (pc := 29) (v := 0) d_L_book_29 (by decide) ?_
    exact R_retv (pc := 30) d_L_book_30 h
  · intro E9 M9 h9
    rcases h9 with ⟨rfl, h9⟩ | ⟨rfl, h9⟩ | ⟨rfl, h9⟩
    · exact ⟨_, hand_L_book_1, h9⟩
    · exact ⟨_, hand_L_book_0, h9⟩
    · exact ⟨_, hand_L_book_2, h9⟩
/-! L_cancel -/
theorem d_L_cancel_0 : decode mL_cancel.2.1 0 = .ok (.aload_n 2, 1) := by decide +kernel
theorem d_L_cancel_1 : decode mL_cancel.2.1 1 = .ok (.iconst 0, 1) := by decide +kernel
theorem d_L_cancel_2 : decode mL_cancel.2.1 2 = .ok (.aload_n 0, 1) := by decide +kernel
theorem d_L_cancel_3 : decode mL_cancel.2.1 3 = .ok (.iload_n 1, 1) := by decide +kernel
theorem d_L_cancel_4 : decode mL_cancel.2.1 4 = .ok (.invokevirtual 60, 3) := by decide +kernel
theorem d_L_cancel_7 : decode mL_cancel.2.1 7 = .ok (.i2l, 1) := by decide +kernel
theorem d_L_cancel_8 : decode mL_cancel.2.1 8 = .ok (.lastore, 1) := by decide +kernel
theorem d_L_cancel_9 : decode mL_cancel.2.1 9 = .ok (.goto 9, 3) := by decide +kernel
theorem d_L_cancel_12 : decode mL_cancel.2.1 12 = .ok (.astore_n 3, 1) := by decide +kernel
theorem d_L_cancel_13 : decode mL_cancel.2.1 13 = .ok (.iconst 1, 1) := by decide +kernel
theorem d_L_cancel_14 : decode mL_cancel.2.1 14 = .ok (.ireturn, 1) := by decide +kernel
theorem d_L_cancel_15 : decode mL_cancel.2.1 15 = .ok (.astore_n 3, 1) := by decide +kernel
theorem d_L_cancel_16 : decode mL_cancel.2.1 16 = .ok (.iconst 2, 1) := by decide +kernel
theorem d_L_cancel_17 : decode mL_cancel.2.1 17 = .ok (.ireturn, 1) := by decide +kernel
theorem d_L_cancel_18 : decode mL_cancel.2.1 18 = .ok (.iconst 0, 1) := by decide +kernel
theorem d_L_cancel_19 : decode mL_cancel.2.1 19 = .ok (.ireturn, 1) := by decide +kernel
theorem hand_L_cancel_1 : handOK mL_cancel 4 "java/lang/IllegalStateException" 2 := ⟨[(0, 9, 12, 29)], (0, 9, 15, 15), [], "java/lang/IllegalStateException", 3, 2, 16, rfl, List.forall_mem_cons.mpr ⟨⟨by decide, "java/lang/IndexOutOfBoundsException", aw_t 390 (by decide +kernel) (by decide +kernel), by decide +kernel⟩, fun _ h => absurd h List.not_mem_nil⟩, ⟨by decide, by decide⟩, by decide, aw_t 252 (by decide +kernel) (by decide +kernel), aw_t 338 (by decide +kernel) (by decide +kernel), by decide, Or.inl ⟨3, rfl, d_L_cancel_15, rfl⟩, d_L_cancel_16, by decide, d_L_cancel_17⟩
theorem hand_L_cancel_0 : handOK mL_cancel 4 "java/lang/IndexOutOfBoundsException" 1 := ⟨[], (0, 9, 12, 29), [(0, 9, 15, 15)], "java/lang/IndexOutOfBoundsException", 3, 1, 13, rfl, fun _ h => absurd h List.not_mem_nil, ⟨by decide, by decide⟩, by decide, aw_t 390 (by decide +kernel) (by decide +kernel), aw_t 420 (by decide +kernel) (by decide +kernel), by decide, Or.inl ⟨3, rfl, d_L_cancel_12, rfl⟩, d_L_cancel_13, by decide, d_L_cancel_14⟩
def T_L_cancel (Q : Int32 → Mem → Prop) (v0 : Nat) (v1 : Int32) (v2 : Nat) (M : Mem) : Prop := (kd v0 = 6) ∧ T_X6_cancel (fun y3 M2 => (kd v2 = 12) ∧ (vp_in 0 (ln v2)) ∧ ∀ M6 : Mem, M6 = (M2.1, vp_updL M2.2.1 (Int32.toNatClampNeg 0) (Int32.toInt64 y3), M2.2.2) → Q 0 M6) (fun E9 M9 => (E9 = "java/lang/IllegalStateException" ∧ Q 2 M9) ∨ (E9 = "java/lang/IndexOutOfBoundsException" ∧ Q 1 M9)) v0 v1 M
set_option maxRecDepth 100000 in
set_option maxHeartbeats 4000000 in
theorem c_L_cancel {g : GG} (v0 : Nat) (v1 : Int32) (v2 : Nat) (M : Mem) (Q : Int32 → Mem → Prop) (h : T_L_cancel Q v0 v1 v2 M) : CT g 16 mL_cancel [.ref (g.1 + v0), .int v1, .ref (g.1 + v2)] M 1 (oI Q noX) := by
  refine CT_ofH (L := [some (.ref (g.1 + v0)), some (.int v1), some (.ref (g.1 + v2)), none]) (by decide) rfl (Nat.le_of_ble_eq_true rfl) (ro_I rfl) rfl ?_
  unfold T_L_cancel at h
  refine R_aload_n (pc := 0) d_L_cancel_0 rfl rfl ?_
  refine R_iconst (pc := 1) (v := 0) d_L_cancel_1 (by decide) ?_
  refine R_aload_n (pc := 2) d_L_cancel_2 rfl rfl ?_
  refine R_iload_n (pc := 3) d_L_cancel_3 rfl rfl ?_
  obtain ⟨k1, h⟩ := h
  refine R_callVC (pc := 4) (As := [.int v1]) (rest := [.int 0, .ref (g.1 + v2)]) (c_X6_cancel (g := g) v0 v1 M _ _ h) rfl cal_RL_60 ins_X6_cancel sel_X6_cancel (cls_at k1 clsOK6) (by decide) (by decide) rfl rfl (Nat.le_of_ble_eq_true rfl) d_L_cancel_4 (k_I (fun y3 M2 h => ?_)) ?_
  · try dsimp only at h
    refine R_i2l (pc := 7) d_L_cancel_7 ?_
    obtain ⟨k4, h⟩ := h
    obtain ⟨k5, h⟩ := h
    refine R_last (pc := 8) k4 k5 d_L_cancel_8 (N_M (fun M6 eM6 => ?_))
    have h := h M6 eM6
    refine R_goto (pc := 9) (tgt := 18) d_L_cancel_9 (by decide) ?_
    refine R_iconst (pc := 18) (v := 0) d_L_cancel_18 (by decide) ?_
    exact R_retv (pc := 19) d_L_cancel_19 h
  · intro E9 M9 h9
    rcases h9 with ⟨rfl, h9⟩ | ⟨rfl, h9⟩
    · exact ⟨_, hand_L_cancel_1, h9⟩
    · exact ⟨_, hand_L_cancel_0, h9⟩
/-! L_refusal -/
theorem d_L_refusal_0 : decode mL_refusal.2.1 0 = .ok (.aload 5, 2) := by decide +kernel
theorem d_L_refusal_2 : decode mL_refusal.2.1 2 = .ok (.iconst 0, 1) := by decide +kernel
theorem d_L_refusal_3 : decode mL_refusal.2.1 3 = .ok (.aload_n 0, 1) := by decide +kernel
theorem d_L_refusal_4 : decode mL_refusal.2.1 4 = .ok (.iload_n 1, 1) := by decide +kernel
theorem d_L_refusal_5 : decode mL_refusal.2.1 5 = .ok (.iload_n 2, 1) := by decide +kernel
theorem d_L_refusal_6 : decode mL_refusal.2.1 6 = .ok (.iload_n 3, 1) := by decide +kernel
theorem d_L_refusal_7 : decode mL_refusal.2.1 7 = .ok (.iload 4, 2) := by decide +kernel
theorem d_L_refusal_9 : decode mL_refusal.2.1 9 = .ok (.invokevirtual 63, 3) := by decide +kernel
theorem d_L_refusal_12 : decode mL_refusal.2.1 12 = .ok (.i2l, 1) := by decide +kernel
theorem d_L_refusal_13 : decode mL_refusal.2.1 13 = .ok (.lastore, 1) := by decide +kernel
theorem d_L_refusal_14 : decode mL_refusal.2.1 14 = .ok (.goto 11, 3) := by decide +kernel
theorem d_L_refusal_17 : decode mL_refusal.2.1 17 = .ok (.astore 6, 2) := by decide +kernel
theorem d_L_refusal_19 : decode mL_refusal.2.1 19 = .ok (.iconst 1, 1) := by decide +kernel
theorem d_L_refusal_20 : decode mL_refusal.2.1 20 = .ok (.ireturn, 1) := by decide +kernel
theorem d_L_refusal_21 : decode mL_refusal.2.1 21 = .ok (.astore 6, 2) := by decide +kernel
theorem d_L_refusal_23 : decode mL_refusal.2.1 23 = .ok (.iconst 2, 1) := by decide +kernel
theorem d_L_refusal_24 : decode mL_refusal.2.1 24 = .ok (.ireturn, 1) := by decide +kernel
theorem d_L_refusal_25 : decode mL_refusal.2.1 25 = .ok (.iconst 0, 1) := by decide +kernel
theorem d_L_refusal_26 : decode mL_refusal.2.1 26 = .ok (.ireturn, 1) := by decide +kernel
theorem hand_L_refusal_1 : handOK mL_refusal 9 "java/lang/IllegalArgumentException" 2 := ⟨[(0, 14, 17, 29)], (0, 14, 21, 13), [], "java/lang/IllegalArgumentException", 6, 2, 23, rfl, List.forall_mem_cons.mpr ⟨⟨by decide, "java/lang/IndexOutOfBoundsException", aw_t 390 (by decide +kernel) (by decide +kernel), by decide +kernel⟩, fun _ h => absurd h List.not_mem_nil⟩, ⟨by decide, by decide⟩, by decide, aw_t 251 (by decide +kernel) (by decide +kernel), aw_t 262 (by decide +kernel) (by decide +kernel), by decide, Or.inr ⟨d_L_refusal_21, rfl⟩, d_L_refusal_23, by decide, d_L_refusal_24⟩
theorem hand_L_refusal_0 : handOK mL_refusal 9 "java/lang/IndexOutOfBoundsException" 1 := ⟨[], (0, 14, 17, 29), [(0, 14, 21, 13)], "java/lang/IndexOutOfBoundsException", 6, 1, 19, rfl, fun _ h => absurd h List.not_mem_nil, ⟨by decide, by decide⟩, by decide, aw_t 390 (by decide +kernel) (by decide +kernel), aw_t 420 (by decide +kernel) (by decide +kernel), by decide, Or.inr ⟨d_L_refusal_17, rfl⟩, d_L_refusal_19, by decide, d_L_refusal_20⟩
def T_L_refusal (Q : Int32 → Mem → Prop) (v0 : Nat) (v1 : Int32) (v2 : Int32) (v3 : Int32) (v4 : Int32) (v5 : Nat) (M : Mem) : Prop := (kd v0 = 6) ∧ T_X6_refusal (fun y3 M2 => (kd v5 = 12) ∧ (vp_in 0 (ln v5)) ∧ ∀ M6 : Mem, M6 = (M2.1, vp_updL M2.2.1 (Int32.toNatClampNeg 0) (Int32.toInt64 y3), M2.2.2) → Q 0 M6) (fun E9 M9 => (E9 = "java/lang/IllegalArgumentException" ∧ Q 2 M9) ∨ (E9 = "java/lang/IndexOutOfBoundsException" ∧ Q 1 M9)) v0 v1 v2 v3 v4 M
set_option maxRecDepth 100000 in
set_option maxHeartbeats 4000000 in
theorem c_L_refusal {g : GG} (v0 : Nat) (v1 : Int32) (v2 : Int32) (v3 : Int32) (v4 : Int32) (v5 : Nat) (M : Mem) (Q : Int32 → Mem → Prop) (h : T_L_refusal Q v0 v1 v2 v3 v4 v5 M) : CT g 15 mL_refusal [.ref (g.1 + v0), .int v1, .int v2, .int v3, .int v4, .ref (g.1 + v5)] M 1 (oI Q noX) := by
  refine CT_ofH (L := [some (.ref (g.1 + v0)), some (.int v1), some (.int v2), some (.int v3), some (.int v4), some (.ref (g.1 + v5)), none]) (by decide) rfl (Nat.le_of_ble_eq_true rfl) (ro_I rfl) rfl ?_
  unfold T_L_refusal at h
  refine R_aload (pc := 0) d_L_refusal_0 rfl ?_
  refine R_iconst (pc := 2) (v := 0) d_L_refusal_2 (by decide) ?_
  refine R_aload_n (pc := 3) d_L_refusal_3 rfl rfl ?_
  refine R_iload_n (pc := 4) d_L_refusal_4 rfl rfl ?_
  refine R_iload_n (pc := 5) d_L_refusal_5 rfl rfl ?_
  refine R_iload_n (pc := 6) d_L_refusal_6 rfl rfl ?_
  refine R_iload (pc := 7) d_L_refusal_7 rfl ?_
  obtain ⟨k1, h⟩ := h
  refine R_callVC (pc := 9) (As := [.int v1, .int v2, .int v3, .int v4]) (rest := [.int 0, .ref (g.1 + v5)]) (c_X6_refusal (g := g) v0 v1 v2 v3 v4 M _ _ h) rfl cal_RL_63 ins_X6_refusal sel_X6_refusal (cls_at k1 clsOK6) (by decide) (by decide) rfl rfl (Nat.le_of_ble_eq_true rfl) d_L_refusal_9 (k_I (fun y3 M2 h => ?_)) ?_
  · try dsimp only at h
    refine R_i2l (pc := 12) d_L_refusal_12 ?_
    obtain ⟨k4, h⟩ := h
    obtain ⟨k5, h⟩ := h
    refine R_last (pc := 13) k4 k5 d_L_refusal_13 (N_M (fun M6 eM6 => ?_))
    have h := h M6 eM6
    refine R_goto (pc := 14) (tgt := 25) d_L_refusal_14 (by decide) ?_
    refine R_iconst (pc := 25) (v := 0) d_L_refusal_25 (by decide) ?_
    exact R_retv (pc := 26) d_L_refusal_26 h
  · intro E9 M9 h9
    rcases h9 with ⟨rfl, h9⟩ | ⟨rfl, h9⟩
    · exact ⟨_, hand_L_refusal_1, h9⟩
    · exact ⟨_, hand_L_refusal_0, h9⟩
/-! L_firstFree -/
theorem d_L_firstFree_0 : decode mL_firstFree.2.1 0 = .ok (.aload_n 3, 1) := by decide +kernel
theorem d_L_firstFree_1 : decode mL_firstFree.2.1 1 = .ok (.iconst 0, 1) := by decide +kernel
theorem d_L_firstFree_2 : decode mL_firstFree.2.1 2 = .ok (.aload_n 0, 1) := by decide +kernel
theorem d_L_firstFree_3 : decode mL_firstFree.2.1 3 = .ok (.iload_n 1, 1) := by decide +kernel
theorem d_L_firstFree_4 : decode mL_firstFree.2.1 4 = .ok (.iload_n 2, 1) := by decide +kernel
theorem d_L_firstFree_5 : decode mL_firstFree.2.1 5 = .ok (.invokevirtual 66, 3) := by decide +kernel
theorem d_L_firstFree_8 : decode mL_firstFree.2.1 8 = .ok (.i2l, 1) := by decide +kernel
theorem d_L_firstFree_9 : decode mL_firstFree.2.1 9 = .ok (.lastore, 1) := by decide +kernel
theorem d_L_firstFree_10 : decode mL_firstFree.2.1 10 = .ok (.goto 15, 3) := by decide +kernel
theorem d_L_firstFree_13 : decode mL_firstFree.2.1 13 = .ok (.astore 4, 2) := by decide +kernel
theorem d_L_firstFree_15 : decode mL_firstFree.2.1 15 = .ok (.iconst 1, 1) := by decide +kernel
theorem d_L_firstFree_16 : decode mL_firstFree.2.1 16 = .ok (.ireturn, 1) := by decide +kernel
theorem d_L_firstFree_17 : decode mL_firstFree.2.1 17 = .ok (.astore 4, 2) := by decide +kernel
theorem d_L_firstFree_19 : decode mL_firstFree.2.1 19 = .ok (.iconst 2, 1) := by decide +kernel
theorem d_L_firstFree_20 : decode mL_firstFree.2.1 20 = .ok (.ireturn, 1) := by decide +kernel
theorem d_L_firstFree_21 : decode mL_firstFree.2.1 21 = .ok (.astore 4, 2) := by decide +kernel
theorem d_L_firstFree_23 : decode mL_firstFree.2.1 23 = .ok (.iconst 3, 1) := by decide +kernel
theorem d_L_firstFree_24 : decode mL_firstFree.2.1 24 = .ok (.ireturn, 1) := by decide +kernel
theorem d_L_firstFree_25 : decode mL_firstFree.2.1 25 = .ok (.iconst 0, 1) := by decide +kernel
theorem d_L_firstFree_26 : decode mL_firstFree.2.1 26 = .ok (.ireturn, 1) := by decide +kernel
theorem hand_L_firstFree_1 : handOK mL_firstFree 5 "java/lang/IllegalArgumentException" 2 := ⟨[(0, 10, 13, 29)], (0, 10, 17, 13), [(0, 10, 21, 52)], "java/lang/IllegalArgumentException", 4, 2, 19, rfl, List.forall_mem_cons.mpr ⟨⟨by decide, "java/lang/IndexOutOfBoundsException", aw_t 390 (by decide +kernel) (by decide +kernel), by decide +kernel⟩, fun _ h => absurd h List.not_mem_nil⟩, ⟨by decide, by decide⟩, by decide, aw_t 251 (by decide +kernel) (by decide +kernel), aw_t 262 (by decide +kernel) (by decide +kernel), by decide, Or.inr ⟨d_L_firstFree_17, rfl⟩, d_L_firstFree_19, by decide, d_L_firstFree_20⟩
theorem hand_L_firstFree_0 : handOK mL_firstFree 5 "java/lang/IndexOutOfBoundsException" 1 := ⟨[], (0, 10, 13, 29), [(0, 10, 17, 13), (0, 10, 21, 52)], "java/lang/IndexOutOfBoundsException", 4, 1, 15, rfl, fun _ h => absurd h List.not_mem_nil, ⟨by decide, by decide⟩, by decide, aw_t 390 (by decide +kernel) (by decide +kernel), aw_t 420 (by decide +kernel) (by decide +kernel), by decide, Or.inr ⟨d_L_firstFree_13, rfl⟩, d_L_firstFree_15, by decide, d_L_firstFree_16⟩
theorem hand_L_firstFree_2 : handOK mL_firstFree 5 "java/util/NoSuchElementException" 3 := ⟨[(0, 10, 13, 29), (0, 10, 17, 13)], (0, 10, 21, 52), [], "java/util/NoSuchElementException", 4, 3, 23, rfl, List.forall_mem_cons.mpr ⟨⟨by decide, "java/lang/IndexOutOfBoundsException", aw_t 390 (by decide +kernel) (by decide +kernel), by decide +kernel⟩, List.forall_mem_cons.mpr ⟨⟨by decide, "java/lang/IllegalArgumentException", aw_t 251 (by decide +kernel) (by decide +kernel), by decide +kernel⟩, fun _ h => absurd h List.not_mem_nil⟩⟩, ⟨by decide, by decide⟩, by decide, aw_t 642 (by decide +kernel) (by decide +kernel), aw_t 649 (by decide +kernel) (by decide +kernel), by decide, Or.inr ⟨d_L_firstFree_21, rfl⟩, d_L_firstFree_23, by decide, d_L_firstFree_24⟩
def T_L_firstFree (Q : Int32 → Mem → Prop) (v0 : Nat) (v1 : Int32) (v2 : Int32) (v3 : Nat) (M : Mem) : Prop := (kd v0 = 6) ∧ T_X6_firstFree (fun y3 M2 => (kd v3 = 12) ∧ (vp_in 0 (ln v3)) ∧ ∀ M6 : Mem, M6 = (M2.1, vp_updL M2.2.1 (Int32.toNatClampNeg 0) (Int32.toInt64 y3), M2.2.2) → Q 0 M6) (fun E9 M9 => (E9 = "java/lang/IllegalArgumentException" ∧ Q 2 M9) ∨ (E9 = "java/lang/IndexOutOfBoundsException" ∧ Q 1 M9) ∨ (E9 = "java/util/NoSuchElementException" ∧ Q 3 M9)) v0 v1 v2 M
set_option maxRecDepth 100000 in
set_option maxHeartbeats 4000000 in
theorem c_L_firstFree {g : GG} (v0 : Nat) (v1 : Int32) (v2 : Int32) (v3 : Nat) (M : Mem) (Q : Int32 → Mem → Prop) (h : T_L_firstFree Q v0 v1 v2 v3 M) : CT g 15 mL_firstFree [.ref (g.1 + v0), .int v1, .int v2, .ref (g.1 + v3)] M 1 (oI Q noX) := by
  refine CT_ofH (L := [some (.ref (g.1 + v0)), some (.int v1), some (.int v2), some (.ref (g.1 + v3)), none]) (by decide) rfl (Nat.le_of_ble_eq_true rfl) (ro_I rfl) rfl ?_
  unfold T_L_firstFree at h
  refine R_aload_n (pc := 0) d_L_firstFree_0 rfl rfl ?_
  refine R_iconst (pc := 1) (v := 0) d_L_firstFree_1 (by decide) ?_
  refine R_aload_n (pc := 2) d_L_firstFree_2 rfl rfl ?_
  refine R_iload_n (pc := 3) d_L_firstFree_3 rfl rfl ?_
  refine R_iload_n (pc := 4) d_L_firstFree_4 rfl rfl ?_
  obtain ⟨k1, h⟩ := h
  refine R_callVC (pc := 5) (As := [.int v1, .int v2]) (rest := [.int 0, .ref (g.1 + v3)]) (c_X6_firstFree (g := g) v0 v1 v2 M _ _ h) rfl cal_RL_66 ins_X6_firstFree sel_X6_firstFree (cls_at k1 clsOK6) (by decide) (by decide) rfl rfl (Nat.le_of_ble_eq_true rfl) d_L_firstFree_5 (k_I (fun y3 M2 h => ?_)) ?_
  · try dsimp only at h
    refine R_i2l (pc := 8) d_L_firstFree_8 ?_
    obtain ⟨k4, h⟩ := h
    obtain ⟨k5, h⟩ := h
    refine R_last (pc := 9) k4 k5 d_L_firstFree_9 (N_M (fun M6 eM6 => ?_))
    have h := h M6 eM6
    refine R_goto (pc := 10) (tgt := 25) d_L_firstFree_10 (by decide) ?_
    refine R_iconst (pc := 25) (v := 0) d_L_firstFree_25 (by decide) ?_
    exact R_retv (pc := 26) d_L_firstFree_26 h
  · intro E9 M9 h9
    rcases h9 with ⟨rfl, h9⟩ | ⟨rfl, h9⟩ | ⟨rfl, h9⟩
    · exact ⟨_, hand_L_firstFree_1, h9⟩
    · exact ⟨_, hand_L_firstFree_0, h9⟩
    · exact ⟨_, hand_L_firstFree_2, h9⟩
/-! L_visit -/
theorem d_L_visit_0 : decode mL_visit.2.1 0 = .ok (.aload_n 3, 1) := by decide +kernel
theorem d_L_visit_1 : decode mL_visit.2.1 1 = .ok (.iconst 0, 1) := by decide +kernel
theorem d_L_visit_2 : decode mL_visit.2.1 2 = .ok (.aload_n 0, 1) := by decide +kernel
theorem d_L_visit_3 : decode mL_visit.2.1 3 = .ok (.iload_n 1, 1) := by decide +kernel
theorem d_L_visit_4 : decode mL_visit.2.1 4 = .ok (.iload_n 2, 1) := by decide +kernel
theorem d_L_visit_5 : decode mL_visit.2.1 5 = .ok (.invokevirtual 69, 3) := by decide +kernel
theorem d_L_visit_8 : decode mL_visit.2.1 8 = .ok (.i2l, 1) := by decide +kernel
theorem d_L_visit_9 : decode mL_visit.2.1 9 = .ok (.lastore, 1) := by decide +kernel
theorem d_L_visit_10 : decode mL_visit.2.1 10 = .ok (.goto 11, 3) := by decide +kernel
theorem d_L_visit_13 : decode mL_visit.2.1 13 = .ok (.astore 4, 2) := by decide +kernel
theorem d_L_visit_15 : decode mL_visit.2.1 15 = .ok (.iconst 1, 1) := by decide +kernel
theorem d_L_visit_16 : decode mL_visit.2.1 16 = .ok (.ireturn, 1) := by decide +kernel
theorem d_L_visit_17 : decode mL_visit.2.1 17 = .ok (.astore 4, 2) := by decide +kernel
theorem d_L_visit_19 : decode mL_visit.2.1 19 = .ok (.iconst 2, 1) := by decide +kernel
theorem d_L_visit_20 : decode mL_visit.2.1 20 = .ok (.ireturn, 1) := by decide +kernel
theorem d_L_visit_21 : decode mL_visit.2.1 21 = .ok (.iconst 0, 1) := by decide +kernel
theorem d_L_visit_22 : decode mL_visit.2.1 22 = .ok (.ireturn, 1) := by decide +kernel
theorem hand_L_visit_1 : handOK mL_visit 5 "java/lang/IllegalArgumentException" 2 := ⟨[(0, 10, 13, 29)], (0, 10, 17, 13), [], "java/lang/IllegalArgumentException", 4, 2, 19, rfl, List.forall_mem_cons.mpr ⟨⟨by decide, "java/lang/IndexOutOfBoundsException", aw_t 390 (by decide +kernel) (by decide +kernel), by decide +kernel⟩, fun _ h => absurd h List.not_mem_nil⟩, ⟨by decide, by decide⟩, by decide, aw_t 251 (by decide +kernel) (by decide +kernel), aw_t 262 (by decide +kernel) (by decide +kernel), by decide, Or.inr ⟨d_L_visit_17, rfl⟩, d_L_visit_19, by decide, d_L_visit_20⟩
theorem hand_L_visit_0 : handOK mL_visit 5 "java/lang/IndexOutOfBoundsException" 1 := ⟨[], (0, 10, 13, 29), [(0, 10, 17, 13)], "java/lang/IndexOutOfBoundsException", 4, 1, 15, rfl, fun _ h => absurd h List.not_mem_nil, ⟨by decide, by decide⟩, by decide, aw_t 390 (by decide +kernel) (by decide +kernel), aw_t 420 (by decide +kernel) (by decide +kernel), by decide, Or.inr ⟨d_L_visit_13, rfl⟩, d_L_visit_15, by decide, d_L_visit_16⟩
def T_L_visit (Q : Int32 → Mem → Prop) (v0 : Nat) (v1 : Int32) (v2 : Int32) (v3 : Nat) (M : Mem) : Prop := (kd v0 = 6) ∧ T_X6_visit (fun y3 M2 => (kd v3 = 12) ∧ (vp_in 0 (ln v3)) ∧ ∀ M6 : Mem, M6 = (M2.1, vp_updL M2.2.1 (Int32.toNatClampNeg 0) (Int32.toInt64 y3), M2.2.2) → Q 0 M6) (fun E9 M9 => (E9 = "java/lang/IllegalArgumentException" ∧ Q 2 M9) ∨ (E9 = "java/lang/IndexOutOfBoundsException" ∧ Q 1 M9)) v0 v1 v2 M
set_option maxRecDepth 100000 in
set_option maxHeartbeats 4000000 in
theorem c_L_visit {g : GG} (v0 : Nat) (v1 : Int32) (v2 : Int32) (v3 : Nat) (M : Mem) (Q : Int32 → Mem → Prop) (h : T_L_visit Q v0 v1 v2 v3 M) : CT g 12 mL_visit [.ref (g.1 + v0), .int v1, .int v2, .ref (g.1 + v3)] M 1 (oI Q noX) := by
  refine CT_ofH (L := [some (.ref (g.1 + v0)), some (.int v1), some (.int v2), some (.ref (g.1 + v3)), none]) (by decide) rfl (Nat.le_of_ble_eq_true rfl) (ro_I rfl) rfl ?_
  unfold T_L_visit at h
  refine R_aload_n (pc := 0) d_L_visit_0 rfl rfl ?_
  refine R_iconst (pc := 1) (v := 0) d_L_visit_1 (by decide) ?_
  refine R_aload_n (pc := 2) d_L_visit_2 rfl rfl ?_
  refine R_iload_n (pc := 3) d_L_visit_3 rfl rfl ?_
  refine R_iload_n (pc := 4) d_L_visit_4 rfl rfl ?_
  obtain ⟨k1, h⟩ := h
  refine R_callVC (pc := 5) (As := [.int v1, .int v2]) (rest := [.int 0, .ref (g.1 + v3)]) (c_X6_visit (g := g) v0 v1 v2 M _ _ h) rfl cal_RL_69 ins_X6_visit sel_X6_visit (cls_at k1 clsOK6) (by decide) (by decide) rfl rfl (Nat.le_of_ble_eq_true rfl) d_L_visit_5 (k_I (fun y3 M2 h => ?_)) ?_
  · try dsimp only at h
    refine R_i2l (pc := 8) d_L_visit_8 ?_
    obtain ⟨k4, h⟩ := h
    obtain ⟨k5, h⟩ := h
    refine R_last (pc := 9) k4 k5 d_L_visit_9 (N_M (fun M6 eM6 => ?_))
    have h := h M6 eM6
    refine R_goto (pc := 10) (tgt := 21) d_L_visit_10 (by decide) ?_
    refine R_iconst (pc := 21) (v := 0) d_L_visit_21 (by decide) ?_
    exact R_retv (pc := 22) d_L_visit_22 h
  · intro E9 M9 h9
    rcases h9 with ⟨rfl, h9⟩ | ⟨rfl, h9⟩
    · exact ⟨_, hand_L_visit_1, h9⟩
    · exact ⟨_, hand_L_visit_0, h9⟩
/-! L_next -/
theorem d_L_next_0 : decode mL_next.2.1 0 = .ok (.aload_n 2, 1) := by decide +kernel
theorem d_L_next_1 : decode mL_next.2.1 1 = .ok (.iconst 0, 1) := by decide +kernel
theorem d_L_next_2 : decode mL_next.2.1 2 = .ok (.aload_n 0, 1) := by decide +kernel
theorem d_L_next_3 : decode mL_next.2.1 3 = .ok (.iload_n 1, 1) := by decide +kernel
theorem d_L_next_4 : decode mL_next.2.1 4 = .ok (.invokevirtual 72, 3) := by decide +kernel
theorem d_L_next_7 : decode mL_next.2.1 7 = .ok (.i2l, 1) := by decide +kernel
theorem d_L_next_8 : decode mL_next.2.1 8 = .ok (.lastore, 1) := by decide +kernel
theorem d_L_next_9 : decode mL_next.2.1 9 = .ok (.goto 6, 3) := by decide +kernel
theorem d_L_next_12 : decode mL_next.2.1 12 = .ok (.astore_n 3, 1) := by decide +kernel
theorem d_L_next_13 : decode mL_next.2.1 13 = .ok (.iconst 1, 1) := by decide +kernel
theorem d_L_next_14 : decode mL_next.2.1 14 = .ok (.ireturn, 1) := by decide +kernel
theorem d_L_next_15 : decode mL_next.2.1 15 = .ok (.iconst 0, 1) := by decide +kernel
theorem d_L_next_16 : decode mL_next.2.1 16 = .ok (.ireturn, 1) := by decide +kernel
theorem hand_L_next_0 : handOK mL_next 4 "java/util/NoSuchElementException" 1 := ⟨[], (0, 9, 12, 52), [], "java/util/NoSuchElementException", 3, 1, 13, rfl, fun _ h => absurd h List.not_mem_nil, ⟨by decide, by decide⟩, by decide, aw_t 642 (by decide +kernel) (by decide +kernel), aw_t 649 (by decide +kernel) (by decide +kernel), by decide, Or.inl ⟨3, rfl, d_L_next_12, rfl⟩, d_L_next_13, by decide, d_L_next_14⟩
def T_L_next (Q : Int32 → Mem → Prop) (v0 : Nat) (v1 : Int32) (v2 : Nat) (M : Mem) : Prop := (kd v0 = 6) ∧ T_X6_next (fun y3 M2 => (kd v2 = 12) ∧ (vp_in 0 (ln v2)) ∧ ∀ M6 : Mem, M6 = (M2.1, vp_updL M2.2.1 (Int32.toNatClampNeg 0) (Int32.toInt64 y3), M2.2.2) → Q 0 M6) (fun E9 M9 => (E9 = "java/util/NoSuchElementException" ∧ Q 1 M9)) v0 v1 M
set_option maxRecDepth 100000 in
set_option maxHeartbeats 4000000 in
theorem c_L_next {g : GG} (v0 : Nat) (v1 : Int32) (v2 : Nat) (M : Mem) (Q : Int32 → Mem → Prop) (h : T_L_next Q v0 v1 v2 M) : CT g 11 mL_next [.ref (g.1 + v0), .int v1, .ref (g.1 + v2)] M 1 (oI Q noX) := by
  refine CT_ofH (L := [some (.ref (g.1 + v0)), some (.int v1), some (.ref (g.1 + v2)), none]) (by decide) rfl (Nat.le_of_ble_eq_true rfl) (ro_I rfl) rfl ?_
  unfold T_L_next at h
  refine R_aload_n (pc := 0) d_L_next_0 rfl rfl ?_
  refine R_iconst (pc := 1) (v := 0) d_L_next_1 (by decide) ?_
  refine R_aload_n (pc := 2) d_L_next_2 rfl rfl ?_
  refine R_iload_n (pc := 3) d_L_next_3 rfl rfl ?_
  obtain ⟨k1, h⟩ := h
  refine R_callVC (pc := 4) (As := [.int v1]) (rest := [.int 0, .ref (g.1 + v2)]) (c_X6_next (g := g) v0 v1 M _ _ h) rfl cal_RL_72 ins_X6_next sel_X6_next (cls_at k1 clsOK6) (by decide) (by decide) rfl rfl (Nat.le_of_ble_eq_true rfl) d_L_next_4 (k_I (fun y3 M2 h => ?_)) ?_
  · try dsimp only at h
    refine R_i2l (pc := 7) d_L_next_7 ?_
    obtain ⟨k4, h⟩ := h
    obtain ⟨k5, h⟩ := h
    refine R_last (pc := 8) k4 k5 d_L_next_8 (N_M (fun M6 eM6 => ?_))
    have h := h M6 eM6
    refine R_goto (pc := 9) (tgt := 15) d_L_next_9 (by decide) ?_
    refine R_iconst (pc := 15) (v := 0) d_L_next_15 (by decide) ?_
    exact R_retv (pc := 16) d_L_next_16 h
  · intro E9 M9 h9
    obtain ⟨rfl, h9⟩ := h9
    exact ⟨_, hand_L_next_0, h9⟩
/-! L_slot -/
theorem d_L_slot_0 : decode mL_slot.2.1 0 = .ok (.aload 4, 2) := by decide +kernel
theorem d_L_slot_2 : decode mL_slot.2.1 2 = .ok (.iconst 0, 1) := by decide +kernel
theorem d_L_slot_3 : decode mL_slot.2.1 3 = .ok (.aload_n 0, 1) := by decide +kernel
theorem d_L_slot_4 : decode mL_slot.2.1 4 = .ok (.iload_n 1, 1) := by decide +kernel
theorem d_L_slot_5 : decode mL_slot.2.1 5 = .ok (.iload_n 2, 1) := by decide +kernel
theorem d_L_slot_6 : decode mL_slot.2.1 6 = .ok (.iload_n 3, 1) := by decide +kernel
theorem d_L_slot_7 : decode mL_slot.2.1 7 = .ok (.invokevirtual 75, 3) := by decide +kernel
theorem d_L_slot_10 : decode mL_slot.2.1 10 = .ok (.i2l, 1) := by decide +kernel
theorem d_L_slot_11 : decode mL_slot.2.1 11 = .ok (.lastore, 1) := by decide +kernel
theorem d_L_slot_12 : decode mL_slot.2.1 12 = .ok (.goto 7, 3) := by decide +kernel
theorem d_L_slot_15 : decode mL_slot.2.1 15 = .ok (.astore 5, 2) := by decide +kernel
theorem d_L_slot_17 : decode mL_slot.2.1 17 = .ok (.iconst 1, 1) := by decide +kernel
theorem d_L_slot_18 : decode mL_slot.2.1 18 = .ok (.ireturn, 1) := by decide +kernel
theorem d_L_slot_19 : decode mL_slot.2.1 19 = .ok (.iconst 0, 1) := by decide +kernel
theorem d_L_slot_20 : decode mL_slot.2.1 20 = .ok (.ireturn, 1) := by decide +kernel
theorem hand_L_slot_0 : handOK mL_slot 7 "java/lang/IllegalArgumentException" 1 := ⟨[], (0, 12, 15, 13), [], "java/lang/IllegalArgumentException", 5, 1, 17, rfl, fun _ h => absurd h List.not_mem_nil, ⟨by decide, by decide⟩, by decide, aw_t 251 (by decide +kernel) (by decide +kernel), aw_t 262 (by decide +kernel) (by decide +kernel), by decide, Or.inr ⟨d_L_slot_15, rfl⟩, d_L_slot_17, by decide, d_L_slot_18⟩
def T_L_slot (Q : Int32 → Mem → Prop) (v0 : Nat) (v1 : Int32) (v2 : Int32) (v3 : Int32) (v4 : Nat) (M : Mem) : Prop := (kd v0 = 6) ∧ T_X6_slot (fun y3 M2 => (kd v4 = 12) ∧ (vp_in 0 (ln v4)) ∧ ∀ M6 : Mem, M6 = (M2.1, vp_updL M2.2.1 (Int32.toNatClampNeg 0) (Int32.toInt64 y3), M2.2.2) → Q 0 M6) (fun E9 M9 => (E9 = "java/lang/IllegalArgumentException" ∧ Q 1 M9)) v0 v1 v2 v3 M
set_option maxRecDepth 100000 in
set_option maxHeartbeats 4000000 in
theorem c_L_slot {g : GG} (v0 : Nat) (v1 : Int32) (v2 : Int32) (v3 : Int32) (v4 : Nat) (M : Mem) (Q : Int32 → Mem → Prop) (h : T_L_slot Q v0 v1 v2 v3 v4 M) : CT g 13 mL_slot [.ref (g.1 + v0), .int v1, .int v2, .int v3, .ref (g.1 + v4)] M 1 (oI Q noX) := by
  refine CT_ofH (L := [some (.ref (g.1 + v0)), some (.int v1), some (.int v2), some (.int v3), some (.ref (g.1 + v4)), none]) (by decide) rfl (Nat.le_of_ble_eq_true rfl) (ro_I rfl) rfl ?_
  unfold T_L_slot at h
  refine R_aload (pc := 0) d_L_slot_0 rfl ?_
  refine R_iconst (pc := 2) (v := 0) d_L_slot_2 (by decide) ?_
  refine R_aload_n (pc := 3) d_L_slot_3 rfl rfl ?_
  refine R_iload_n (pc := 4) d_L_slot_4 rfl rfl ?_
  refine R_iload_n (pc := 5) d_L_slot_5 rfl rfl ?_
  refine R_iload_n (pc := 6) d_L_slot_6 rfl rfl ?_
  obtain ⟨k1, h⟩ := h
  refine R_callVC (pc := 7) (As := [.int v1, .int v2, .int v3]) (rest := [.int 0, .ref (g.1 + v4)]) (c_X6_slot (g := g) v0 v1 v2 v3 M _ _ h) rfl cal_RL_75 ins_X6_slot sel_X6_slot (cls_at k1 clsOK6) (by decide) (by decide) rfl rfl (Nat.le_of_ble_eq_true rfl) d_L_slot_7 (k_I (fun y3 M2 h => ?_)) ?_
  · try dsimp only at h
    refine R_i2l (pc := 10) d_L_slot_10 ?_
    obtain ⟨k4, h⟩ := h
    obtain ⟨k5, h⟩ := h
    refine R_last (pc := 11) k4 k5 d_L_slot_11 (N_M (fun M6 eM6 => ?_))
    have h := h M6 eM6
    refine R_goto (pc := 12) (tgt := 19) d_L_slot_12 (by decide) ?_
    refine R_iconst (pc := 19) (v := 0) d_L_slot_19 (by decide) ?_
    exact R_retv (pc := 20) d_L_slot_20 h
  · intro E9 M9 h9
    obtain ⟨rfl, h9⟩ := h9
    exact ⟨_, hand_L_slot_0, h9⟩
/-! L_pass -/
theorem d_L_pass_0 : decode mL_pass.2.1 0 = .ok (.aload_n 2, 1) := by decide +kernel
theorem d_L_pass_1 : decode mL_pass.2.1 1 = .ok (.iconst 0, 1) := by decide +kernel
theorem d_L_pass_2 : decode mL_pass.2.1 2 = .ok (.aload_n 0, 1) := by decide +kernel
theorem d_L_pass_3 : decode mL_pass.2.1 3 = .ok (.iload_n 1, 1) := by decide +kernel
theorem d_L_pass_4 : decode mL_pass.2.1 4 = .ok (.invokevirtual 78, 3) := by decide +kernel
theorem d_L_pass_7 : decode mL_pass.2.1 7 = .ok (.i2l, 1) := by decide +kernel
theorem d_L_pass_8 : decode mL_pass.2.1 8 = .ok (.lastore, 1) := by decide +kernel
theorem d_L_pass_9 : decode mL_pass.2.1 9 = .ok (.goto 9, 3) := by decide +kernel
theorem d_L_pass_12 : decode mL_pass.2.1 12 = .ok (.astore_n 3, 1) := by decide +kernel
theorem d_L_pass_13 : decode mL_pass.2.1 13 = .ok (.iconst 1, 1) := by decide +kernel
theorem d_L_pass_14 : decode mL_pass.2.1 14 = .ok (.ireturn, 1) := by decide +kernel
theorem d_L_pass_15 : decode mL_pass.2.1 15 = .ok (.astore_n 3, 1) := by decide +kernel
theorem d_L_pass_16 : decode mL_pass.2.1 16 = .ok (.iconst 2, 1) := by decide +kernel
theorem d_L_pass_17 : decode mL_pass.2.1 17 = .ok (.ireturn, 1) := by decide +kernel
theorem d_L_pass_18 : decode mL_pass.2.1 18 = .ok (.iconst 0, 1) := by decide +kernel
theorem d_L_pass_19 : decode mL_pass.2.1 19 = .ok (.ireturn, 1) := by decide +kernel
theorem hand_L_pass_0 : handOK mL_pass 4 "java/lang/IllegalArgumentException" 1 := ⟨[], (0, 9, 12, 13), [(0, 9, 15, 15)], "java/lang/IllegalArgumentException", 3, 1, 13, rfl, fun _ h => absurd h List.not_mem_nil, ⟨by decide, by decide⟩, by decide, aw_t 251 (by decide +kernel) (by decide +kernel), aw_t 262 (by decide +kernel) (by decide +kernel), by decide, Or.inl ⟨3, rfl, d_L_pass_12, rfl⟩, d_L_pass_13, by decide, d_L_pass_14⟩
theorem hand_L_pass_1 : handOK mL_pass 4 "java/lang/IllegalStateException" 2 := ⟨[(0, 9, 12, 13)], (0, 9, 15, 15), [], "java/lang/IllegalStateException", 3, 2, 16, rfl, List.forall_mem_cons.mpr ⟨⟨by decide, "java/lang/IllegalArgumentException", aw_t 251 (by decide +kernel) (by decide +kernel), by decide +kernel⟩, fun _ h => absurd h List.not_mem_nil⟩, ⟨by decide, by decide⟩, by decide, aw_t 252 (by decide +kernel) (by decide +kernel), aw_t 338 (by decide +kernel) (by decide +kernel), by decide, Or.inl ⟨3, rfl, d_L_pass_15, rfl⟩, d_L_pass_16, by decide, d_L_pass_17⟩
def T_L_pass (Q : Int32 → Mem → Prop) (v0 : Nat) (v1 : Int32) (v2 : Nat) (M : Mem) : Prop := (kd v0 = 6) ∧ T_X6_pass (fun y3 M2 => (kd v2 = 12) ∧ (vp_in 0 (ln v2)) ∧ ∀ M6 : Mem, M6 = (M2.1, vp_updL M2.2.1 (Int32.toNatClampNeg 0) (Int32.toInt64 y3), M2.2.2) → Q 0 M6) (fun E9 M9 => (E9 = "java/lang/IllegalArgumentException" ∧ Q 1 M9) ∨ (E9 = "java/lang/IllegalStateException" ∧ Q 2 M9)) v0 v1 M
set_option maxRecDepth 100000 in
set_option maxHeartbeats 4000000 in
theorem c_L_pass {g : GG} (v0 : Nat) (v1 : Int32) (v2 : Nat) (M : Mem) (Q : Int32 → Mem → Prop) (h : T_L_pass Q v0 v1 v2 M) : CT g 14 mL_pass [.ref (g.1 + v0), .int v1, .ref (g.1 + v2)] M 1 (oI Q noX) := by
  refine CT_ofH (L := [some (.ref (g.1 + v0)), some (.int v1), some (.ref (g.1 + v2)), none]) (by decide) rfl (Nat.le_of_ble_eq_true rfl) (ro_I rfl) rfl ?_
  unfold T_L_pass at h
  refine R_aload_n (pc := 0) d_L_pass_0 rfl rfl ?_
  refine R_iconst (pc := 1) (v := 0) d_L_pass_1 (by decide) ?_
  refine R_aload_n (pc := 2) d_L_pass_2 rfl rfl ?_
  refine R_iload_n (pc := 3) d_L_pass_3 rfl rfl ?_
  obtain ⟨k1, h⟩ := h
  refine R_callVC (pc := 4) (As := [.int v1]) (rest := [.int 0, .ref (g.1 + v2)]) (c_X6_pass (g := g) v0 v1 M _ _ h) rfl cal_RL_78 ins_X6_pass sel_X6_pass (cls_at k1 clsOK6) (by decide) (by decide) rfl rfl (Nat.le_of_ble_eq_true rfl) d_L_pass_4 (k_I (fun y3 M2 h => ?_)) ?_
  · try dsimp only at h
    refine R_i2l (pc := 7) d_L_pass_7 ?_
    obtain ⟨k4, h⟩ := h
    obtain ⟨k5, h⟩ := h
    refine R_last (pc := 8) k4 k5 d_L_pass_8 (N_M (fun M6 eM6 => ?_))
    have h := h M6 eM6
    refine R_goto (pc := 9) (tgt := 18) d_L_pass_9 (by decide) ?_
    refine R_iconst (pc := 18) (v := 0) d_L_pass_18 (by decide) ?_
    exact R_retv (pc := 19) d_L_pass_19 h
  · intro E9 M9 h9
    rcases h9 with ⟨rfl, h9⟩ | ⟨rfl, h9⟩
    · exact ⟨_, hand_L_pass_0, h9⟩
    · exact ⟨_, hand_L_pass_1, h9⟩
/-! L_ban -/
theorem d_L_ban_0 : decode mL_ban.2.1 0 = .ok (.aload 6, 2) := by decide +kernel
theorem d_L_ban_2 : decode mL_ban.2.1 2 = .ok (.iconst 0, 1) := by decide +kernel
theorem d_L_ban_3 : decode mL_ban.2.1 3 = .ok (.aload_n 0, 1) := by decide +kernel
theorem d_L_ban_4 : decode mL_ban.2.1 4 = .ok (.iload_n 1, 1) := by decide +kernel
theorem d_L_ban_5 : decode mL_ban.2.1 5 = .ok (.iload_n 2, 1) := by decide +kernel
theorem d_L_ban_6 : decode mL_ban.2.1 6 = .ok (.iload_n 3, 1) := by decide +kernel
theorem d_L_ban_7 : decode mL_ban.2.1 7 = .ok (.iload 4, 2) := by decide +kernel
theorem d_L_ban_9 : decode mL_ban.2.1 9 = .ok (.iload 5, 2) := by decide +kernel
theorem d_L_ban_11 : decode mL_ban.2.1 11 = .ok (.invokevirtual 81, 3) := by decide +kernel
theorem d_L_ban_14 : decode mL_ban.2.1 14 = .ok (.i2l, 1) := by decide +kernel
theorem d_L_ban_15 : decode mL_ban.2.1 15 = .ok (.lastore, 1) := by decide +kernel
theorem d_L_ban_16 : decode mL_ban.2.1 16 = .ok (.goto 15, 3) := by decide +kernel
theorem d_L_ban_19 : decode mL_ban.2.1 19 = .ok (.astore 7, 2) := by decide +kernel
theorem d_L_ban_21 : decode mL_ban.2.1 21 = .ok (.iconst 1, 1) := by decide +kernel
theorem d_L_ban_22 : decode mL_ban.2.1 22 = .ok (.ireturn, 1) := by decide +kernel
theorem d_L_ban_23 : decode mL_ban.2.1 23 = .ok (.astore 7, 2) := by decide +kernel
theorem d_L_ban_25 : decode mL_ban.2.1 25 = .ok (.iconst 2, 1) := by decide +kernel
theorem d_L_ban_26 : decode mL_ban.2.1 26 = .ok (.ireturn, 1) := by decide +kernel
theorem d_L_ban_27 : decode mL_ban.2.1 27 = .ok (.astore 7, 2) := by decide +kernel
theorem d_L_ban_29 : decode mL_ban.2.1 29 = .ok (.iconst 3, 1) := by decide +kernel
theorem d_L_ban_30 : decode mL_ban.2.1 30 = .ok (.ireturn, 1) := by decide +kernel
theorem d_L_ban_31 : decode mL_ban.2.1 31 = .ok (.iconst 0, 1) := by decide +kernel
theorem d_L_ban_32 : decode mL_ban.2.1 32 = .ok (.ireturn, 1) := by decide +kernel
theorem hand_L_ban_1 : handOK mL_ban 11 "java/lang/IllegalArgumentException" 2 := ⟨[(0, 16, 19, 29)], (0, 16, 23, 13), [(0, 16, 27, 15)], "java/lang/IllegalArgumentException", 7, 2, 25, rfl, List.forall_mem_cons.mpr ⟨⟨by decide, "java/lang/IndexOutOfBoundsException", aw_t 390 (by decide +kernel) (by decide +kernel), by decide +kernel⟩, fun _ h => absurd h List.not_mem_nil⟩, ⟨by decide, by decide⟩, by decide, aw_t 251 (by decide +kernel) (by decide +kernel), aw_t 262 (by decide +kernel) (by decide +kernel), by decide, Or.inr ⟨d_L_ban_23, rfl⟩, d_L_ban_25, by decide, d_L_ban_26⟩
theorem hand_L_ban_2 : handOK mL_ban 11 "java/lang/IllegalStateException" 3 := ⟨[(0, 16, 19, 29), (0, 16, 23, 13)], (0, 16, 27, 15), [], "java/lang/IllegalStateException", 7, 3, 29, rfl, List.forall_mem_cons.mpr ⟨⟨by decide, "java/lang/IndexOutOfBoundsException", aw_t 390 (by decide +kernel) (by decide +kernel), by decide +kernel⟩, List.forall_mem_cons.mpr ⟨⟨by decide, "java/lang/IllegalArgumentException", aw_t 251 (by decide +kernel) (by decide +kernel), by decide +kernel⟩, fun _ h => absurd h List.not_mem_nil⟩⟩, ⟨by decide, by decide⟩, by decide, aw_t 252 (by decide +kernel) (by decide +kernel), aw_t 338 (by decide +kernel) (by decide +kernel), by decide, Or.inr ⟨d_L_ban_27, rfl⟩, d_L_ban_29, by decide, d_L_ban_30⟩
theorem hand_L_ban_0 : handOK mL_ban 11 "java/lang/IndexOutOfBoundsException" 1 := ⟨[], (0, 16, 19, 29), [(0, 16, 23, 13), (0, 16, 27, 15)], "java/lang/IndexOutOfBoundsException", 7, 1, 21, rfl, fun _ h => absurd h List.not_mem_nil, ⟨by decide, by decide⟩, by decide, aw_t 390 (by decide +kernel) (by decide +kernel), aw_t 420 (by decide +kernel) (by decide +kernel), by decide, Or.inr ⟨d_L_ban_19, rfl⟩, d_L_ban_21, by decide, d_L_ban_22⟩
def T_L_ban (Q : Int32 → Mem → Prop) (v0 : Nat) (v1 : Int32) (v2 : Int32) (v3 : Int32) (v4 : Int32) (v5 : Int32) (v6 : Nat) (M : Mem) : Prop := (kd v0 = 6) ∧ T_X6_ban (fun y3 M2 => (kd v6 = 12) ∧ (vp_in 0 (ln v6)) ∧ ∀ M6 : Mem, M6 = (M2.1, vp_updL M2.2.1 (Int32.toNatClampNeg 0) (Int32.toInt64 y3), M2.2.2) → Q 0 M6) (fun E9 M9 => (E9 = "java/lang/IllegalArgumentException" ∧ Q 2 M9) ∨ (E9 = "java/lang/IllegalStateException" ∧ Q 3 M9) ∨ (E9 = "java/lang/IndexOutOfBoundsException" ∧ Q 1 M9)) v0 v1 v2 v3 v4 v5 M
set_option maxRecDepth 100000 in
set_option maxHeartbeats 4000000 in
theorem c_L_ban {g : GG} (v0 : Nat) (v1 : Int32) (v2 : Int32) (v3 : Int32) (v4 : Int32) (v5 : Int32) (v6 : Nat) (M : Mem) (Q : Int32 → Mem → Prop) (h : T_L_ban Q v0 v1 v2 v3 v4 v5 v6 M) : CT g 14 mL_ban [.ref (g.1 + v0), .int v1, .int v2, .int v3, .int v4, .int v5, .ref (g.1 + v6)] M 1 (oI Q noX) := by
  refine CT_ofH (L := [some (.ref (g.1 + v0)), some (.int v1), some (.int v2), some (.int v3), some (.int v4), some (.int v5), some (.ref (g.1 + v6)), none]) (by decide) rfl (Nat.le_of_ble_eq_true rfl) (ro_I rfl) rfl ?_
  unfold T_L_ban at h
  refine R_aload (pc := 0) d_L_ban_0 rfl ?_
  refine R_iconst (pc := 2) (v := 0) d_L_ban_2 (by decide) ?_
  refine R_aload_n (pc := 3) d_L_ban_3 rfl rfl ?_
  refine R_iload_n (pc := 4) d_L_ban_4 rfl rfl ?_
  refine R_iload_n (pc := 5) d_L_ban_5 rfl rfl ?_
  refine R_iload_n (pc := 6) d_L_ban_6 rfl rfl ?_
  refine R_iload (pc := 7) d_L_ban_7 rfl ?_
  refine R_iload (pc := 9) d_L_ban_9 rfl ?_
  obtain ⟨k1, h⟩ := h
  refine R_callVC (pc := 11) (As := [.int v1, .int v2, .int v3, .int v4, .int v5]) (rest := [.int 0, .ref (g.1 + v6)]) (c_X6_ban (g := g) v0 v1 v2 v3 v4 v5 M _ _ h) rfl cal_RL_81 ins_X6_ban sel_X6_ban (cls_at k1 clsOK6) (by decide) (by decide) rfl rfl (Nat.le_of_ble_eq_true rfl) d_L_ban_11 (k_I (fun y3 M2 h => ?_)) ?_
  · try dsimp only at h
    refine R_i2l (pc := 14) d_L_ban_14 ?_
    obtain ⟨k4, h⟩ := h
    obtain ⟨k5, h⟩ := h
    refine R_last (pc := 15) k4 k5 d_L_ban_15 (N_M (fun M6 eM6 => ?_))
    have h := h M6 eM6
    refine R_goto (pc := 16) (tgt := 31) d_L_ban_16 (by decide) ?_
    refine R_iconst (pc := 31) (v := 0) d_L_ban_31 (by decide) ?_
    exact R_retv (pc := 32) d_L_ban_32 h
  · intro E9 M9 h9
    rcases h9 with ⟨rfl, h9⟩ | ⟨rfl, h9⟩ | ⟨rfl, h9⟩
    · exact ⟨_, hand_L_ban_1, h9⟩
    · exact ⟨_, hand_L_ban_2, h9⟩
    · exact ⟨_, hand_L_ban_0, h9⟩
/-! L_lift -/
theorem d_L_lift_0 : decode mL_lift.2.1 0 = .ok (.aload_n 2, 1) := by decide +kernel
theorem d_L_lift_1 : decode mL_lift.2.1 1 = .ok (.iconst 0, 1) := by decide +kernel
theorem d_L_lift_2 : decode mL_lift.2.1 2 = .ok (.aload_n 0, 1) := by decide +kernel
theorem d_L_lift_3 : decode mL_lift.2.1 3 = .ok (.iload_n 1, 1) := by decide +kernel
theorem d_L_lift_4 : decode mL_lift.2.1 4 = .ok (.invokevirtual 85, 3) := by decide +kernel
theorem d_L_lift_7 : decode mL_lift.2.1 7 = .ok (.i2l, 1) := by decide +kernel
theorem d_L_lift_8 : decode mL_lift.2.1 8 = .ok (.lastore, 1) := by decide +kernel
theorem d_L_lift_9 : decode mL_lift.2.1 9 = .ok (.goto 6, 3) := by decide +kernel
theorem d_L_lift_12 : decode mL_lift.2.1 12 = .ok (.astore_n 3, 1) := by decide +kernel
theorem d_L_lift_13 : decode mL_lift.2.1 13 = .ok (.iconst 1, 1) := by decide +kernel
theorem d_L_lift_14 : decode mL_lift.2.1 14 = .ok (.ireturn, 1) := by decide +kernel
theorem d_L_lift_15 : decode mL_lift.2.1 15 = .ok (.iconst 0, 1) := by decide +kernel
theorem d_L_lift_16 : decode mL_lift.2.1 16 = .ok (.ireturn, 1) := by decide +kernel
theorem hand_L_lift_0 : handOK mL_lift 4 "java/lang/IndexOutOfBoundsException" 1 := ⟨[], (0, 9, 12, 29), [], "java/lang/IndexOutOfBoundsException", 3, 1, 13, rfl, fun _ h => absurd h List.not_mem_nil, ⟨by decide, by decide⟩, by decide, aw_t 390 (by decide +kernel) (by decide +kernel), aw_t 420 (by decide +kernel) (by decide +kernel), by decide, Or.inl ⟨3, rfl, d_L_lift_12, rfl⟩, d_L_lift_13, by decide, d_L_lift_14⟩
def T_L_lift (Q : Int32 → Mem → Prop) (v0 : Nat) (v1 : Int32) (v2 : Nat) (M : Mem) : Prop := (kd v0 = 6) ∧ T_X6_lift (fun y3 M2 => (kd v2 = 12) ∧ (vp_in 0 (ln v2)) ∧ ∀ M6 : Mem, M6 = (M2.1, vp_updL M2.2.1 (Int32.toNatClampNeg 0) (Int32.toInt64 y3), M2.2.2) → Q 0 M6) (fun E9 M9 => (E9 = "java/lang/IndexOutOfBoundsException" ∧ Q 1 M9)) v0 v1 M
set_option maxRecDepth 100000 in
set_option maxHeartbeats 4000000 in
theorem c_L_lift {g : GG} (v0 : Nat) (v1 : Int32) (v2 : Nat) (M : Mem) (Q : Int32 → Mem → Prop) (h : T_L_lift Q v0 v1 v2 M) : CT g 16 mL_lift [.ref (g.1 + v0), .int v1, .ref (g.1 + v2)] M 1 (oI Q noX) := by
  refine CT_ofH (L := [some (.ref (g.1 + v0)), some (.int v1), some (.ref (g.1 + v2)), none]) (by decide) rfl (Nat.le_of_ble_eq_true rfl) (ro_I rfl) rfl ?_
  unfold T_L_lift at h
  refine R_aload_n (pc := 0) d_L_lift_0 rfl rfl ?_
  refine R_iconst (pc := 1) (v := 0) d_L_lift_1 (by decide) ?_
  refine R_aload_n (pc := 2) d_L_lift_2 rfl rfl ?_
  refine R_iload_n (pc := 3) d_L_lift_3 rfl rfl ?_
  obtain ⟨k1, h⟩ := h
  refine R_callVC (pc := 4) (As := [.int v1]) (rest := [.int 0, .ref (g.1 + v2)]) (c_X6_lift (g := g) v0 v1 M _ _ h) rfl cal_RL_85 ins_X6_lift sel_X6_lift (cls_at k1 clsOK6) (by decide) (by decide) rfl rfl (Nat.le_of_ble_eq_true rfl) d_L_lift_4 (k_I (fun y3 M2 h => ?_)) ?_
  · try dsimp only at h
    refine R_i2l (pc := 7) d_L_lift_7 ?_
    obtain ⟨k4, h⟩ := h
    obtain ⟨k5, h⟩ := h
    refine R_last (pc := 8) k4 k5 d_L_lift_8 (N_M (fun M6 eM6 => ?_))
    have h := h M6 eM6
    refine R_goto (pc := 9) (tgt := 15) d_L_lift_9 (by decide) ?_
    refine R_iconst (pc := 15) (v := 0) d_L_lift_15 (by decide) ?_
    exact R_retv (pc := 16) d_L_lift_16 h
  · intro E9 M9 h9
    obtain ⟨rfl, h9⟩ := h9
    exact ⟨_, hand_L_lift_0, h9⟩
/-! L_banned -/
theorem d_L_banned_0 : decode mL_banned.2.1 0 = .ok (.aload_n 3, 1) := by decide +kernel
theorem d_L_banned_1 : decode mL_banned.2.1 1 = .ok (.iconst 0, 1) := by decide +kernel
theorem d_L_banned_2 : decode mL_banned.2.1 2 = .ok (.aload_n 0, 1) := by decide +kernel
theorem d_L_banned_3 : decode mL_banned.2.1 3 = .ok (.iload_n 1, 1) := by decide +kernel
theorem d_L_banned_4 : decode mL_banned.2.1 4 = .ok (.iload_n 2, 1) := by decide +kernel
theorem d_L_banned_5 : decode mL_banned.2.1 5 = .ok (.invokevirtual 88, 3) := by decide +kernel
theorem d_L_banned_8 : decode mL_banned.2.1 8 = .ok (.i2l, 1) := by decide +kernel
theorem d_L_banned_9 : decode mL_banned.2.1 9 = .ok (.lastore, 1) := by decide +kernel
theorem d_L_banned_10 : decode mL_banned.2.1 10 = .ok (.goto 11, 3) := by decide +kernel
theorem d_L_banned_13 : decode mL_banned.2.1 13 = .ok (.astore 4, 2) := by decide +kernel
theorem d_L_banned_15 : decode mL_banned.2.1 15 = .ok (.iconst 1, 1) := by decide +kernel
theorem d_L_banned_16 : decode mL_banned.2.1 16 = .ok (.ireturn, 1) := by decide +kernel
theorem d_L_banned_17 : decode mL_banned.2.1 17 = .ok (.astore 4, 2) := by decide +kernel
theorem d_L_banned_19 : decode mL_banned.2.1 19 = .ok (.iconst 2, 1) := by decide +kernel
theorem d_L_banned_20 : decode mL_banned.2.1 20 = .ok (.ireturn, 1) := by decide +kernel
theorem d_L_banned_21 : decode mL_banned.2.1 21 = .ok (.iconst 0, 1) := by decide +kernel
theorem d_L_banned_22 : decode mL_banned.2.1 22 = .ok (.ireturn, 1) := by decide +kernel
theorem hand_L_banned_1 : handOK mL_banned 5 "java/lang/IllegalArgumentException" 2 := ⟨[(0, 10, 13, 29)], (0, 10, 17, 13), [], "java/lang/IllegalArgumentException", 4, 2, 19, rfl, List.forall_mem_cons.mpr ⟨⟨by decide, "java/lang/IndexOutOfBoundsException", aw_t 390 (by decide +kernel) (by decide +kernel), by decide +kernel⟩, fun _ h => absurd h List.not_mem_nil⟩, ⟨by decide, by decide⟩, by decide, aw_t 251 (by decide +kernel) (by decide +kernel), aw_t 262 (by decide +kernel) (by decide +kernel), by decide, Or.inr ⟨d_L_banned_17, rfl⟩, d_L_banned_19, by decide, d_L_banned_20⟩
theorem hand_L_banned_0 : handOK mL_banned 5 "java/lang/IndexOutOfBoundsException" 1 := ⟨[], (0, 10, 13, 29), [(0, 10, 17, 13)], "java/lang/IndexOutOfBoundsException", 4, 1, 15, rfl, fun _ h => absurd h List.not_mem_nil, ⟨by decide, by decide⟩, by decide, aw_t 390 (by decide +kernel) (by decide +kernel), aw_t 420 (by decide +kernel) (by decide +kernel), by decide, Or.inr ⟨d_L_banned_13, rfl⟩, d_L_banned_15, by decide, d_L_banned_16⟩
def T_L_banned (Q : Int32 → Mem → Prop) (v0 : Nat) (v1 : Int32) (v2 : Int32) (v3 : Nat) (M : Mem) : Prop := (kd v0 = 6) ∧ T_X6_banned (fun y3 M2 => (kd v3 = 12) ∧ (vp_in 0 (ln v3)) ∧ ∀ M6 : Mem, M6 = (M2.1, vp_updL M2.2.1 (Int32.toNatClampNeg 0) (Int32.toInt64 y3), M2.2.2) → Q 0 M6) (fun E9 M9 => (E9 = "java/lang/IllegalArgumentException" ∧ Q 2 M9) ∨ (E9 = "java/lang/IndexOutOfBoundsException" ∧ Q 1 M9)) v0 v1 v2 M
set_option maxRecDepth 100000 in
set_option maxHeartbeats 4000000 in
theorem c_L_banned {g : GG} (v0 : Nat) (v1 : Int32) (v2 : Int32) (v3 : Nat) (M : Mem) (Q : Int32 → Mem → Prop) (h : T_L_banned Q v0 v1 v2 v3 M) : CT g 11 mL_banned [.ref (g.1 + v0), .int v1, .int v2, .ref (g.1 + v3)] M 1 (oI Q noX) := by
  refine CT_ofH (L := [some (.ref (g.1 + v0)), some (.int v1), some (.int v2), some (.ref (g.1 + v3)), none]) (by decide) rfl (Nat.le_of_ble_eq_true rfl) (ro_I rfl) rfl ?_
  unfold T_L_banned at h
  refine R_aload_n (pc := 0) d_L_banned_0 rfl rfl ?_
  refine R_iconst (pc := 1) (v := 0) d_L_banned_1 (by decide) ?_
  refine R_aload_n (pc := 2) d_L_banned_2 rfl rfl ?_
  refine R_iload_n (pc := 3) d_L_banned_3 rfl rfl ?_
  refine R_iload_n (pc := 4) d_L_banned_4 rfl rfl ?_
  obtain ⟨k1, h⟩ := h
  refine R_callVC (pc := 5) (As := [.int v1, .int v2]) (rest := [.int 0, .ref (g.1 + v3)]) (c_X6_banned (g := g) v0 v1 v2 M _ _ h) rfl cal_RL_88 ins_X6_banned sel_X6_banned (cls_at k1 clsOK6) (by decide) (by decide) rfl rfl (Nat.le_of_ble_eq_true rfl) d_L_banned_5 (k_I (fun y3 M2 h => ?_)) ?_
  · try dsimp only at h
    refine R_i2l (pc := 8) d_L_banned_8 ?_
    obtain ⟨k4, h⟩ := h
    obtain ⟨k5, h⟩ := h
    refine R_last (pc := 9) k4 k5 d_L_banned_9 (N_M (fun M6 eM6 => ?_))
    have h := h M6 eM6
    refine R_goto (pc := 10) (tgt := 21) d_L_banned_10 (by decide) ?_
    refine R_iconst (pc := 21) (v := 0) d_L_banned_21 (by decide) ?_
    exact R_retv (pc := 22) d_L_banned_22 h
  · intro E9 M9 h9
    rcases h9 with ⟨rfl, h9⟩ | ⟨rfl, h9⟩
    · exact ⟨_, hand_L_banned_1, h9⟩
    · exact ⟨_, hand_L_banned_0, h9⟩
