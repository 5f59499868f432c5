/-! X7_bannedBy -/
theorem d_X7_bannedBy_0 : decode mX7_bannedBy.2.1 0 = .ok (.iconst 0, 1) := by decide +kernel
theorem d_X7_bannedBy_1 : decode mX7_bannedBy.2.1 1 = .ok (.istore 4, 2) := by decide +kernel
theorem d_X7_bannedBy_3 : decode mX7_bannedBy.2.1 3 = .ok (.iload 4, 2) := by decide +kernel
theorem d_X7_bannedBy_5 : decode mX7_bannedBy.2.1 5 = .ok (.aload_n 0, 1) := by decide +kernel
theorem d_X7_bannedBy_6 : decode mX7_bannedBy.2.1 6 = .ok (.getfield 7, 3) := by decide +kernel
theorem d_X7_bannedBy_9 : decode mX7_bannedBy.2.1 9 = .ok (.iconst 5, 1) := by decide +kernel
theorem d_X7_bannedBy_10 : decode mX7_bannedBy.2.1 10 = .ok (.iaload, 1) := by decide +kernel
theorem d_X7_bannedBy_11 : decode mX7_bannedBy.2.1 11 = .ok (.if_icmp .ge 24, 3) := by decide +kernel
theorem d_X7_bannedBy_14 : decode mX7_bannedBy.2.1 14 = .ok (.aload_n 0, 1) := by decide +kernel
theorem d_X7_bannedBy_15 : decode mX7_bannedBy.2.1 15 = .ok (.iload 4, 2) := by decide +kernel
theorem d_X7_bannedBy_17 : decode mX7_bannedBy.2.1 17 = .ok (.iload_n 1, 1) := by decide +kernel
theorem d_X7_bannedBy_18 : decode mX7_bannedBy.2.1 18 = .ok (.iload_n 2, 1) := by decide +kernel
theorem d_X7_bannedBy_19 : decode mX7_bannedBy.2.1 19 = .ok (.iload_n 3, 1) := by decide +kernel
theorem d_X7_bannedBy_20 : decode mX7_bannedBy.2.1 20 = .ok (.invokevirtual 97, 3) := by decide +kernel
theorem d_X7_bannedBy_23 : decode mX7_bannedBy.2.1 23 = .ok (.ifCond .eq 6, 3) := by decide +kernel
theorem d_X7_bannedBy_26 : decode mX7_bannedBy.2.1 26 = .ok (.iload 4, 2) := by decide +kernel
theorem d_X7_bannedBy_28 : decode mX7_bannedBy.2.1 28 = .ok (.ireturn, 1) := by decide +kernel
theorem d_X7_bannedBy_29 : decode mX7_bannedBy.2.1 29 = .ok (.iinc 4 1, 3) := by decide +kernel
theorem d_X7_bannedBy_32 : decode mX7_bannedBy.2.1 32 = .ok (.goto (-29), 3) := by decide +kernel
theorem d_X7_bannedBy_35 : decode mX7_bannedBy.2.1 35 = .ok (.iconst (-1), 1) := by decide +kernel
theorem d_X7_bannedBy_36 : decode mX7_bannedBy.2.1 36 = .ok (.ireturn, 1) := by decide +kernel
def T_X7_bannedBy_3 (Q : Int32 → Mem → Prop) : Nat → Nat → Int32 → Int32 → Int32 → Int32 → Mem → Prop
  | 0, _, _, _, _, _, _ => False
  | n + 1, v0, v1, v2, v3, v4, M => (kd v0 = 7) ∧ (kd (rf v0 1) = 9) ∧ (vp_in 5 (ln (rf v0 1))) ∧ if (M.1 (rf v0 1) (Int32.toNatClampNeg 5)) ≤ v4 then (Q (-1) M) else (T_X7_breaks (fun y5 M4 => if y5 = 0 then (∀ x6 : Int32, x6 = v4 + 1 → (T_X7_bannedBy_3 Q n) v0 v1 v2 v3 x6 M4) else (Q v4 M4))  v0 v4 v1 v2 v3 M)
set_option maxRecDepth 100000 in
set_option maxHeartbeats 4000000 in
theorem B_X7_bannedBy_3 {g : GG} (Q : Int32 → Mem → Prop) : ∀ (n : Nat) (v0 : Nat) (v1 : Int32) (v2 : Int32) (v3 : Int32) (v4 : Int32) (M : Mem), T_X7_bannedBy_3 Q n v0 v1 v2 v3 v4 M → WP g 11 mX7_bannedBy 3 [some (.ref (g.1 + v0)), some (.int v1), some (.int v2), some (.int v3), some (.int v4)] [] M 0 (oI Q noX) := by
  intro n
  induction n with
  | zero => intro v0 v1 v2 v3 v4 M h; exact h.elim
  | succ n hκ3 =>
    intro v0 v1 v2 v3 v4 M h
    unfold T_X7_bannedBy_3 at h
    refine R_iload (pc := 3) d_X7_bannedBy_3 rfl ?_
    refine R_aload_n (pc := 5) d_X7_bannedBy_5 rfl rfl ?_
    obtain ⟨k1, h⟩ := h
    refine R_getR (pc := 6) fld_RX7_7 rfl rfl k1 d_X7_bannedBy_6 ?_
    refine R_iconst (pc := 9) (v := 5) d_X7_bannedBy_9 (by decide) ?_
    obtain ⟨k2, h⟩ := h
    obtain ⟨k3, h⟩ := h
    refine R_iald (pc := 10) k2 k3 d_X7_bannedBy_10 ?_
    refine R_icmp_ge (pc := 11) (tgt := 35) d_X7_bannedBy_11 (by decide) (fun c => ?_) (fun c => ?_)
    · rw [if_pos c] at h
      refine R_iconst (pc := 35) (v := (-1)) d_X7_bannedBy_35 (by decide) ?_
      exact R_retv (pc := 36) d_X7_bannedBy_36 h
    · rw [if_neg c] at h
      refine R_aload_n (pc := 14) d_X7_bannedBy_14 rfl rfl ?_
      refine R_iload (pc := 15) d_X7_bannedBy_15 rfl ?_
      refine R_iload_n (pc := 17) d_X7_bannedBy_17 rfl rfl ?_
      refine R_iload_n (pc := 18) d_X7_bannedBy_18 rfl rfl ?_
      refine R_iload_n (pc := 19) d_X7_bannedBy_19 rfl rfl ?_
      refine R_callV (pc := 20) (As := [.int v4, .int v1, .int v2, .int v3]) (rest := []) (c_X7_breaks (g := g) v0 v4 v1 v2 v3 M _ h) rfl rfl cal_RX7_97 ins_X7_breaks sel_X7_breaks (cls_at k1 clsOK7) (by decide) (by decide) rfl rfl (Nat.le_of_ble_eq_true rfl) d_X7_bannedBy_20 (k_Z (fun y5 M4 h => ?_)) (fun _ _ h9 => False.elim h9)
      try dsimp only at h
      refine R_if_eq (pc := 23) (tgt := 29) d_X7_bannedBy_23 (by decide) (fun c => ?_) (fun c => ?_)
      · rw [if_pos c] at h
        obtain ⟨x6, ex6⟩ : ∃ z : Int32, z = v4 + 1 := ⟨_, rfl⟩
        have h := h x6 ex6
        refine R_iinc (pc := 29) (v := x6) (L' := [some (.ref (g.1 + v0)), some (.int v1), some (.int v2), some (.int v3), some (.int x6)]) d_X7_bannedBy_29 rfl (by rw [ex6]; rfl) (by decide) rfl ?_
        refine R_goto (pc := 32) (tgt := 3) d_X7_bannedBy_32 (by decide) ?_
        exact WP_sub (hκ3 v0 v1 v2 v3 x6 M4 h) (by decide) (ls_s (ls_s (ls_s (ls_s (ls_s ls_0)))))
      · rw [if_neg c] at h
        refine R_iload (pc := 26) d_X7_bannedBy_26 rfl ?_
        exact R_retv (pc := 28) d_X7_bannedBy_28 h
def T_X7_bannedBy (Q : Int32 → Mem → Prop) (v0 : Nat) (v1 : Int32) (v2 : Int32) (v3 : Int32) (M : Mem) : Prop := (∃ N : Nat, T_X7_bannedBy_3 Q N v0 v1 v2 v3 0 M)
set_option maxRecDepth 100000 in
set_option maxHeartbeats 4000000 in
theorem c_X7_bannedBy {g : GG} (v0 : Nat) (v1 : Int32) (v2 : Int32) (v3 : Int32) (M : Mem) (Q : Int32 → Mem → Prop) (h : T_X7_bannedBy Q v0 v1 v2 v3 M) : CT g 11 mX7_bannedBy [.ref (g.1 + v0), .int v1, .int v2, .int v3] M 0 (oI Q noX) := by
  refine CT_of (L := [some (.ref (g.1 + v0)), some (.int v1), some (.int v2), some (.int v3), none]) (by decide) rfl (Nat.le_of_ble_eq_true rfl) (ro_I rfl) rfl ?_
  unfold T_X7_bannedBy at h
  refine R_iconst (pc := 0) (v := 0) d_X7_bannedBy_0 (by decide) ?_
  refine R_istore (pc := 1) (L' := [some (.ref (g.1 + v0)), some (.int v1), some (.int v2), some (.int v3), some (.int 0)]) d_X7_bannedBy_1 (by decide) rfl ?_
  obtain ⟨N, h⟩ := h
  exact WP_sub (B_X7_bannedBy_3 Q N v0 v1 v2 v3 0 M h) (by decide) (ls_s (ls_s (ls_s (ls_s (ls_s ls_0)))))
/-! X7_visitOf -/
theorem d_X7_visitOf_0 : decode mX7_visitOf.2.1 0 = .ok (.iconst 0, 1) := by decide +kernel
theorem d_X7_visitOf_1 : decode mX7_visitOf.2.1 1 = .ok (.istore 4, 2) := by decide +kernel
theorem d_X7_visitOf_3 : decode mX7_visitOf.2.1 3 = .ok (.iload 4, 2) := by decide +kernel
theorem d_X7_visitOf_5 : decode mX7_visitOf.2.1 5 = .ok (.aload_n 0, 1) := by decide +kernel
theorem d_X7_visitOf_6 : decode mX7_visitOf.2.1 6 = .ok (.getfield 7, 3) := by decide +kernel
theorem d_X7_visitOf_9 : decode mX7_visitOf.2.1 9 = .ok (.iconst 4, 1) := by decide +kernel
theorem d_X7_visitOf_10 : decode mX7_visitOf.2.1 10 = .ok (.iaload, 1) := by decide +kernel
theorem d_X7_visitOf_11 : decode mX7_visitOf.2.1 11 = .ok (.if_icmp .ge 34, 3) := by decide +kernel
theorem d_X7_visitOf_14 : decode mX7_visitOf.2.1 14 = .ok (.aload_n 0, 1) := by decide +kernel
theorem d_X7_visitOf_15 : decode mX7_visitOf.2.1 15 = .ok (.iload 4, 2) := by decide +kernel
theorem d_X7_visitOf_17 : decode mX7_visitOf.2.1 17 = .ok (.iload_n 2, 1) := by decide +kernel
theorem d_X7_visitOf_18 : decode mX7_visitOf.2.1 18 = .ok (.iload_n 3, 1) := by decide +kernel
theorem d_X7_visitOf_19 : decode mX7_visitOf.2.1 19 = .ok (.invokevirtual 69, 3) := by decide +kernel
theorem d_X7_visitOf_22 : decode mX7_visitOf.2.1 22 = .ok (.ifCond .eq 17, 3) := by decide +kernel
theorem d_X7_visitOf_25 : decode mX7_visitOf.2.1 25 = .ok (.aload_n 0, 1) := by decide +kernel
theorem d_X7_visitOf_26 : decode mX7_visitOf.2.1 26 = .ok (.iload 4, 2) := by decide +kernel
theorem d_X7_visitOf_28 : decode mX7_visitOf.2.1 28 = .ok (.iconst 0, 1) := by decide +kernel
theorem d_X7_visitOf_29 : decode mX7_visitOf.2.1 29 = .ok (.invokevirtual 45, 3) := by decide +kernel
theorem d_X7_visitOf_32 : decode mX7_visitOf.2.1 32 = .ok (.iload_n 1, 1) := by decide +kernel
theorem d_X7_visitOf_33 : decode mX7_visitOf.2.1 33 = .ok (.if_icmp .ne 6, 3) := by decide +kernel
theorem d_X7_visitOf_36 : decode mX7_visitOf.2.1 36 = .ok (.iload 4, 2) := by decide +kernel
theorem d_X7_visitOf_38 : decode mX7_visitOf.2.1 38 = .ok (.ireturn, 1) := by decide +kernel
theorem d_X7_visitOf_39 : decode mX7_visitOf.2.1 39 = .ok (.iinc 4 1, 3) := by decide +kernel
theorem d_X7_visitOf_42 : decode mX7_visitOf.2.1 42 = .ok (.goto (-39), 3) := by decide +kernel
theorem d_X7_visitOf_45 : decode mX7_visitOf.2.1 45 = .ok (.iconst (-1), 1) := by decide +kernel
theorem d_X7_visitOf_46 : decode mX7_visitOf.2.1 46 = .ok (.ireturn, 1) := by decide +kernel
def T_X7_visitOf_39 (κ3 : Nat → Int32 → Int32 → Int32 → Int32 → Mem → Prop) (Q : Int32 → Mem → Prop) (v0 : Nat) (v1 : Int32) (v2 : Int32) (v3 : Int32) (v4 : Int32) (M : Mem) : Prop := ∀ x1 : Int32, x1 = v4 + 1 → κ3 v0 v1 v2 v3 x1 M
set_option maxRecDepth 100000 in
set_option maxHeartbeats 4000000 in
theorem B_X7_visitOf_39 {g : GG} (Q : Int32 → Mem → Prop) (κ3 : Nat → Int32 → Int32 → Int32 → Int32 → Mem → Prop) (hκ3 : ∀ (v0 : Nat) (v1 : Int32) (v2 : Int32) (v3 : Int32) (v4 : Int32) (M : Mem), κ3 v0 v1 v2 v3 v4 M → WP g 12 mX7_visitOf 3 [some (.ref (g.1 + v0)), some (.int v1), some (.int v2), some (.int v3), some (.int v4)] [] M 0 (oI Q noX)) (v0 : Nat) (v1 : Int32) (v2 : Int32) (v3 : Int32) (v4 : Int32) (M : Mem) (h : T_X7_visitOf_39 κ3 Q v0 v1 v2 v3 v4 M) : WP g 12 mX7_visitOf 39 [some (.ref (g.1 + v0)), some (.int v1), some (.int v2), some (.int v3), some (.int v4)] [] M 0 (oI Q noX) := by
  unfold T_X7_visitOf_39 at h
  obtain ⟨x1, ex1⟩ : ∃ z : Int32, z = v4 + 1 := ⟨_, rfl⟩
  have h := h x1 ex1
  refine R_iinc (pc := 39) (v := x1) (L' := [some (.ref (g.1 + v0)), some (.int v1), some (.int v2), some (.int v3), some (.int x1)]) d_X7_visitOf_39 rfl (by rw [ex1]; rfl) (by decide) rfl ?_
  refine R_goto (pc := 42) (tgt := 3) d_X7_visitOf_42 (by decide) ?_
  exact WP_sub (hκ3 v0 v1 v2 v3 x1 M h) (by decide) (ls_s (ls_s (ls_s (ls_s (ls_s ls_0)))))
def T_X7_visitOf_3 (Q : Int32 → Mem → Prop) : Nat → Nat → Int32 → Int32 → Int32 → Int32 → Mem → Prop
  | 0, _, _, _, _, _, _ => False
  | n + 1, v0, v1, v2, v3, v4, M => (kd v0 = 7) ∧ (kd (rf v0 1) = 9) ∧ (vp_in 4 (ln (rf v0 1))) ∧ if (M.1 (rf v0 1) (Int32.toNatClampNeg 4)) ≤ v4 then (Q (-1) M) else (T_X7_isIn (fun y5 M4 => if y5 = 0 then (T_X7_visitOf_39 (T_X7_visitOf_3 Q n) Q v0 v1 v2 v3 v4 M4) else (T_X7_of (fun y7 M6 => if y7 = v1 then (Q v4 M6) else (T_X7_visitOf_39 (T_X7_visitOf_3 Q n) Q v0 v1 v2 v3 v4 M6))  v0 v4 0 M4))  v0 v4 v2 v3 M)
set_option maxRecDepth 100000 in
set_option maxHeartbeats 4000000 in
theorem B_X7_visitOf_3 {g : GG} (Q : Int32 → Mem → Prop) : ∀ (n : Nat) (v0 : Nat) (v1 : Int32) (v2 : Int32) (v3 : Int32) (v4 : Int32) (M : Mem), T_X7_visitOf_3 Q n v0 v1 v2 v3 v4 M → WP g 12 mX7_visitOf 3 [some (.ref (g.1 + v0)), some (.int v1), some (.int v2), some (.int v3), some (.int v4)] [] M 0 (oI Q noX) := by
  intro n
  induction n with
  | zero => intro v0 v1 v2 v3 v4 M h; exact h.elim
  | succ n hκ3 =>
    intro v0 v1 v2 v3 v4 M h
    unfold T_X7_visitOf_3 at h
    refine R_iload (pc := 3) d_X7_visitOf_3 rfl ?_
    refine R_aload_n (pc := 5) d_X7_visitOf_5 rfl rfl ?_
    obtain ⟨k1, h⟩ := h
    refine R_getR (pc := 6) fld_RX7_7 rfl rfl k1 d_X7_visitOf_6 ?_
    refine R_iconst (pc := 9) (v := 4) d_X7_visitOf_9 (by decide) ?_
    obtain ⟨k2, h⟩ := h
    obtain ⟨k3, h⟩ := h
    refine R_iald (pc := 10) k2 k3 d_X7_visitOf_10 ?_
    refine R_icmp_ge (pc := 11) (tgt := 45) d_X7_visitOf_11 (by decide) (fun c => ?_) (fun c => ?_)
    · rw [if_pos c] at h
      refine R_iconst (pc := 45) (v := (-1)) d_X7_visitOf_45 (by decide) ?_
      exact R_retv (pc := 46) d_X7_visitOf_46 h
    · rw [if_neg c] at h
      refine R_aload_n (pc := 14) d_X7_visitOf_14 rfl rfl ?_
      refine R_iload (pc := 15) d_X7_visitOf_15 rfl ?_
      refine R_iload_n (pc := 17) d_X7_visitOf_17 rfl rfl ?_
      refine R_iload_n (pc := 18) d_X7_visitOf_18 rfl rfl ?_
      refine R_callV (pc := 19) (As := [.int v4, .int v2, .int v3]) (rest := []) (c_X7_isIn (g := g) v0 v4 v2 v3 M _ h) rfl rfl cal_RX7_69 ins_X7_isIn sel_X7_isIn (cls_at k1 clsOK7) (by decide) (by decide) rfl rfl (Nat.le_of_ble_eq_true rfl) d_X7_visitOf_19 (k_Z (fun y5 M4 h => ?_)) (fun _ _ h9 => False.elim h9)
      try dsimp only at h
      refine R_if_eq (pc := 22) (tgt := 39) d_X7_visitOf_22 (by decide) (fun c => ?_) (fun c => ?_)
      · rw [if_pos c] at h
        exact WP_sub (B_X7_visitOf_39 Q (T_X7_visitOf_3 Q n) hκ3 v0 v1 v2 v3 v4 M4 h) (by decide) (ls_s (ls_s (ls_s (ls_s (ls_s ls_0)))))
      · rw [if_neg c] at h
        refine R_aload_n (pc := 25) d_X7_visitOf_25 rfl rfl ?_
        refine R_iload (pc := 26) d_X7_visitOf_26 rfl ?_
        refine R_iconst (pc := 28) (v := 0) d_X7_visitOf_28 (by decide) ?_
        refine R_callV (pc := 29) (As := [.int v4, .int 0]) (rest := []) (c_X7_of (g := g) v0 v4 0 M4 _ h) rfl rfl cal_RX7_45 ins_X7_of sel_X7_of (cls_at k1 clsOK7) (by decide) (by decide) rfl rfl (Nat.le_of_ble_eq_true rfl) d_X7_visitOf_29 (k_I (fun y7 M6 h => ?_)) (fun _ _ h9 => False.elim h9)
        try dsimp only at h
        refine R_iload_n (pc := 32) d_X7_visitOf_32 rfl rfl ?_
        refine R_icmp_ne (pc := 33) (tgt := 39) d_X7_visitOf_33 (by decide) (fun c => ?_) (fun c => ?_)
        · rw [if_neg c] at h
          exact WP_sub (B_X7_visitOf_39 Q (T_X7_visitOf_3 Q n) hκ3 v0 v1 v2 v3 v4 M6 h) (by decide) (ls_s (ls_s (ls_s (ls_s (ls_s ls_0)))))
        · rw [if_pos c] at h
          refine R_iload (pc := 36) d_X7_visitOf_36 rfl ?_
          exact R_retv (pc := 38) d_X7_visitOf_38 h
def T_X7_visitOf (Q : Int32 → Mem → Prop) (v0 : Nat) (v1 : Int32) (v2 : Int32) (v3 : Int32) (M : Mem) : Prop := (∃ N : Nat, T_X7_visitOf_3 Q N v0 v1 v2 v3 0 M)
set_option maxRecDepth 100000 in
set_option maxHeartbeats 4000000 in
theorem c_X7_visitOf {g : GG} (v0 : Nat) (v1 : Int32) (v2 : Int32) (v3 : Int32) (M : Mem) (Q : Int32 → Mem → Prop) (h : T_X7_visitOf Q v0 v1 v2 v3 M) : CT g 12 mX7_visitOf [.ref (g.1 + v0), .int v1, .int v2, .int v3] M 0 (oI Q noX) := by
  refine CT_of (L := [some (.ref (g.1 + v0)), some (.int v1), some (.int v2), some (.int v3), none]) (by decide) rfl (Nat.le_of_ble_eq_true rfl) (ro_I rfl) rfl ?_
  unfold T_X7_visitOf at h
  refine R_iconst (pc := 0) (v := 0) d_X7_visitOf_0 (by decide) ?_
  refine R_istore (pc := 1) (L' := [some (.ref (g.1 + v0)), some (.int v1), some (.int v2), some (.int v3), some (.int 0)]) d_X7_visitOf_1 (by decide) rfl ?_
  obtain ⟨N, h⟩ := h
  exact WP_sub (B_X7_visitOf_3 Q N v0 v1 v2 v3 0 M h) (by decide) (ls_s (ls_s (ls_s (ls_s (ls_s ls_0)))))
/-! X7_busyVisitor -/
theorem d_X7_busyVisitor_0 : decode mX7_busyVisitor.2.1 0 = .ok (.iconst 0, 1) := by decide +kernel
theorem d_X7_busyVisitor_1 : decode mX7_busyVisitor.2.1 1 = .ok (.istore 4, 2) := by decide +kernel
theorem d_X7_busyVisitor_3 : decode mX7_busyVisitor.2.1 3 = .ok (.iconst 0, 1) := by decide +kernel
theorem d_X7_busyVisitor_4 : decode mX7_busyVisitor.2.1 4 = .ok (.istore 5, 2) := by decide +kernel
theorem d_X7_busyVisitor_6 : decode mX7_busyVisitor.2.1 6 = .ok (.iload 5, 2) := by decide +kernel
theorem d_X7_busyVisitor_8 : decode mX7_busyVisitor.2.1 8 = .ok (.aload_n 0, 1) := by decide +kernel
theorem d_X7_busyVisitor_9 : decode mX7_busyVisitor.2.1 9 = .ok (.getfield 7, 3) := by decide +kernel
theorem d_X7_busyVisitor_12 : decode mX7_busyVisitor.2.1 12 = .ok (.iconst 4, 1) := by decide +kernel
theorem d_X7_busyVisitor_13 : decode mX7_busyVisitor.2.1 13 = .ok (.iaload, 1) := by decide +kernel
theorem d_X7_busyVisitor_14 : decode mX7_busyVisitor.2.1 14 = .ok (.if_icmp .ge 36, 3) := by decide +kernel
theorem d_X7_busyVisitor_17 : decode mX7_busyVisitor.2.1 17 = .ok (.iload 4, 2) := by decide +kernel
theorem d_X7_busyVisitor_19 : decode mX7_busyVisitor.2.1 19 = .ok (.aload_n 0, 1) := by decide +kernel
theorem d_X7_busyVisitor_20 : decode mX7_busyVisitor.2.1 20 = .ok (.iload 5, 2) := by decide +kernel
theorem d_X7_busyVisitor_22 : decode mX7_busyVisitor.2.1 22 = .ok (.iload_n 2, 1) := by decide +kernel
theorem d_X7_busyVisitor_23 : decode mX7_busyVisitor.2.1 23 = .ok (.iload_n 3, 1) := by decide +kernel
theorem d_X7_busyVisitor_24 : decode mX7_busyVisitor.2.1 24 = .ok (.invokevirtual 69, 3) := by decide +kernel
theorem d_X7_busyVisitor_27 : decode mX7_busyVisitor.2.1 27 = .ok (.ifCond .eq 13, 3) := by decide +kernel
theorem d_X7_busyVisitor_30 : decode mX7_busyVisitor.2.1 30 = .ok (.aload_n 0, 1) := by decide +kernel
theorem d_X7_busyVisitor_31 : decode mX7_busyVisitor.2.1 31 = .ok (.iload 5, 2) := by decide +kernel
theorem d_X7_busyVisitor_33 : decode mX7_busyVisitor.2.1 33 = .ok (.iconst 1, 1) := by decide +kernel
theorem d_X7_busyVisitor_34 : decode mX7_busyVisitor.2.1 34 = .ok (.invokevirtual 45, 3) := by decide +kernel
theorem d_X7_busyVisitor_37 : decode mX7_busyVisitor.2.1 37 = .ok (.goto 4, 3) := by decide +kernel
theorem d_X7_busyVisitor_40 : decode mX7_busyVisitor.2.1 40 = .ok (.iconst 0, 1) := by decide +kernel
theorem d_X7_busyVisitor_41 : decode mX7_busyVisitor.2.1 41 = .ok (.ior, 1) := by decide +kernel
theorem d_X7_busyVisitor_42 : decode mX7_busyVisitor.2.1 42 = .ok (.istore 4, 2) := by decide +kernel
theorem d_X7_busyVisitor_44 : decode mX7_busyVisitor.2.1 44 = .ok (.iinc 5 1, 3) := by decide +kernel
theorem d_X7_busyVisitor_47 : decode mX7_busyVisitor.2.1 47 = .ok (.goto (-41), 3) := by decide +kernel
theorem d_X7_busyVisitor_50 : decode mX7_busyVisitor.2.1 50 = .ok (.iconst 0, 1) := by decide +kernel
theorem d_X7_busyVisitor_51 : decode mX7_busyVisitor.2.1 51 = .ok (.istore 5, 2) := by decide +kernel
theorem d_X7_busyVisitor_53 : decode mX7_busyVisitor.2.1 53 = .ok (.iload 5, 2) := by decide +kernel
theorem d_X7_busyVisitor_55 : decode mX7_busyVisitor.2.1 55 = .ok (.bipush 12, 2) := by decide +kernel
theorem d_X7_busyVisitor_57 : decode mX7_busyVisitor.2.1 57 = .ok (.if_icmp .ge 25, 3) := by decide +kernel
theorem d_X7_busyVisitor_60 : decode mX7_busyVisitor.2.1 60 = .ok (.iload_n 1, 1) := by decide +kernel
theorem d_X7_busyVisitor_61 : decode mX7_busyVisitor.2.1 61 = .ok (.iload 4, 2) := by decide +kernel
theorem d_X7_busyVisitor_63 : decode mX7_busyVisitor.2.1 63 = .ok (.iand, 1) := by decide +kernel
theorem d_X7_busyVisitor_64 : decode mX7_busyVisitor.2.1 64 = .ok (.iload 5, 2) := by decide +kernel
theorem d_X7_busyVisitor_66 : decode mX7_busyVisitor.2.1 66 = .ok (.ishr, 1) := by decide +kernel
theorem d_X7_busyVisitor_67 : decode mX7_busyVisitor.2.1 67 = .ok (.iconst 1, 1) := by decide +kernel
theorem d_X7_busyVisitor_68 : decode mX7_busyVisitor.2.1 68 = .ok (.iand, 1) := by decide +kernel
theorem d_X7_busyVisitor_69 : decode mX7_busyVisitor.2.1 69 = .ok (.iconst 1, 1) := by decide +kernel
theorem d_X7_busyVisitor_70 : decode mX7_busyVisitor.2.1 70 = .ok (.if_icmp .ne 6, 3) := by decide +kernel
theorem d_X7_busyVisitor_73 : decode mX7_busyVisitor.2.1 73 = .ok (.iload 5, 2) := by decide +kernel
theorem d_X7_busyVisitor_75 : decode mX7_busyVisitor.2.1 75 = .ok (.ireturn, 1) := by decide +kernel
theorem d_X7_busyVisitor_76 : decode mX7_busyVisitor.2.1 76 = .ok (.iinc 5 1, 3) := by decide +kernel
theorem d_X7_busyVisitor_79 : decode mX7_busyVisitor.2.1 79 = .ok (.goto (-26), 3) := by decide +kernel
theorem d_X7_busyVisitor_82 : decode mX7_busyVisitor.2.1 82 = .ok (.iconst (-1), 1) := by decide +kernel
theorem d_X7_busyVisitor_83 : decode mX7_busyVisitor.2.1 83 = .ok (.ireturn, 1) := by decide +kernel
def T_X7_busyVisitor_53 (Q : Int32 → Mem → Prop) : Nat → Int32 → Int32 → Int32 → Mem → Prop
  | 0, _, _, _, _ => False
  | n + 1, v1, v4, v5, M => if (12 : Int32) ≤ v5 then (Q (-1) M) else (if (((v1 &&& v4) >>> (v5 &&& 31)) &&& 1) = (1 : Int32) then (Q v5 M) else (∀ x1 : Int32, x1 = v5 + 1 → (T_X7_busyVisitor_53 Q n) v1 v4 x1 M))
set_option maxRecDepth 100000 in
set_option maxHeartbeats 4000000 in
theorem B_X7_busyVisitor_53 {g : GG} (Q : Int32 → Mem → Prop) : ∀ (n : Nat) (v1 : Int32) (v4 : Int32) (v5 : Int32) (M : Mem), T_X7_busyVisitor_53 Q n v1 v4 v5 M → WP g 12 mX7_busyVisitor 53 [none, some (.int v1), none, none, some (.int v4), some (.int v5)] [] M 0 (oI Q noX) := by
  intro n
  induction n with
  | zero => intro v1 v4 v5 M h; exact h.elim
  | succ n hκ53 =>
    intro v1 v4 v5 M h
    unfold T_X7_busyVisitor_53 at h
    refine R_iload (pc := 53) d_X7_busyVisitor_53 rfl ?_
    refine R_bipush (pc := 55) (v := 12) d_X7_busyVisitor_55 (by decide) ?_
    refine R_icmp_ge (pc := 57) (tgt := 82) d_X7_busyVisitor_57 (by decide) (fun c => ?_) (fun c => ?_)
    · rw [if_pos c] at h
      refine R_iconst (pc := 82) (v := (-1)) d_X7_busyVisitor_82 (by decide) ?_
      exact R_retv (pc := 83) d_X7_busyVisitor_83 h
    · rw [if_neg c] at h
      refine R_iload_n (pc := 60) d_X7_busyVisitor_60 rfl rfl ?_
      refine R_iload (pc := 61) d_X7_busyVisitor_61 rfl ?_
      refine R_iand (pc := 63) d_X7_busyVisitor_63 ?_
      refine R_iload (pc := 64) d_X7_busyVisitor_64 rfl ?_
      refine R_ishr (pc := 66) d_X7_busyVisitor_66 ?_
      refine R_iconst (pc := 67) (v := 1) d_X7_busyVisitor_67 (by decide) ?_
      refine R_iand (pc := 68) d_X7_busyVisitor_68 ?_
      refine R_iconst (pc := 69) (v := 1) d_X7_busyVisitor_69 (by decide) ?_
      refine R_icmp_ne (pc := 70) (tgt := 76) d_X7_busyVisitor_70 (by decide) (fun c => ?_) (fun c => ?_)
      · rw [if_neg c] at h
        obtain ⟨x1, ex1⟩ : ∃ z : Int32, z = v5 + 1 := ⟨_, rfl⟩
        have h := h x1 ex1
        refine R_iinc (pc := 76) (v := x1) (L' := [none, some (.int v1), none, none, some (.int v4), some (.int x1)]) d_X7_busyVisitor_76 rfl (by rw [ex1]; rfl) (by decide) rfl ?_
        refine R_goto (pc := 79) (tgt := 53) d_X7_busyVisitor_79 (by decide) ?_
        exact WP_sub (hκ53 v1 v4 x1 M h) (by decide) (ls_n (ls_s (ls_n (ls_n (ls_s (ls_s ls_0))))))
      · rw [if_pos c] at h
        refine R_iload (pc := 73) d_X7_busyVisitor_73 rfl ?_
        exact R_retv (pc := 75) d_X7_busyVisitor_75 h
def T_X7_busyVisitor_41 (κ6 : Nat → Int32 → Int32 → Int32 → Int32 → Int32 → Mem → Prop) (Q : Int32 → Mem → Prop) (v0 : Nat) (v1 : Int32) (v2 : Int32) (v3 : Int32) (v5 : Int32) (s0 : Int32) (s1 : Int32) (M : Mem) : Prop := ∀ x1 : Int32, x1 = s1 ||| s0 → ∀ x2 : Int32, x2 = v5 + 1 → κ6 v0 v1 v2 v3 x1 x2 M
set_option maxRecDepth 100000 in
set_option maxHeartbeats 4000000 in
theorem B_X7_busyVisitor_41 {g : GG} (Q : Int32 → Mem → Prop) (κ6 : Nat → Int32 → Int32 → Int32 → Int32 → Int32 → Mem → Prop) (hκ6 : ∀ (v0 : Nat) (v1 : Int32) (v2 : Int32) (v3 : Int32) (v4 : Int32) (v5 : Int32) (M : Mem), κ6 v0 v1 v2 v3 v4 v5 M → WP g 12 mX7_busyVisitor 6 [some (.ref (g.1 + v0)), some (.int v1), some (.int v2), some (.int v3), some (.int v4), some (.int v5)] [] M 0 (oI Q noX)) (v0 : Nat) (v1 : Int32) (v2 : Int32) (v3 : Int32) (v5 : Int32) (s0 : Int32) (s1 : Int32) (M : Mem) (h : T_X7_busyVisitor_41 κ6 Q v0 v1 v2 v3 v5 s0 s1 M) : WP g 12 mX7_busyVisitor 41 [some (.ref (g.1 + v0)), some (.int v1), some (.int v2), some (.int v3), none, some (.int v5)] [.int s0, .int s1] M 0 (oI Q noX) := by
  unfold T_X7_busyVisitor_41 at h
  refine R_ior (pc := 41) d_X7_busyVisitor_41 ?_
  refine N_i (fun x1 ex1 => ?_)
  have h := h x1 ex1
  refine R_istore (pc := 42) (L' := [some (.ref (g.1 + v0)), some (.int v1), some (.int v2), some (.int v3), some (.int x1), some (.int v5)]) d_X7_busyVisitor_42 (by decide) rfl ?_
  obtain ⟨x2, ex2⟩ : ∃ z : Int32, z = v5 + 1 := ⟨_, rfl⟩
  have h := h x2 ex2
  refine R_iinc (pc := 44) (v := x2) (L' := [some (.ref (g.1 + v0)), some (.int v1), some (.int v2), some (.int v3), some (.int x1), some (.int x2)]) d_X7_busyVisitor_44 rfl (by rw [ex2]; rfl) (by decide) rfl ?_
  refine R_goto (pc := 47) (tgt := 6) d_X7_busyVisitor_47 (by decide) ?_
  exact WP_sub (hκ6 v0 v1 v2 v3 x1 x2 M h) (by decide) (ls_s (ls_s (ls_s (ls_s (ls_s (ls_s ls_0))))))
def T_X7_busyVisitor_6 (Q : Int32 → Mem → Prop) : Nat → Nat → Int32 → Int32 → Int32 → Int32 → Int32 → Mem → Prop
  | 0, _, _, _, _, _, _, _ => False
  | n + 1, v0, v1, v2, v3, v4, v5, M => (kd v0 = 7) ∧ (kd (rf v0 1) = 9) ∧ (vp_in 4 (ln (rf v0 1))) ∧ if (M.1 (rf v0 1) (Int32.toNatClampNeg 4)) ≤ v5 then ((∃ N : Nat, T_X7_busyVisitor_53 Q N v1 v4 0 M)) else (T_X7_isIn (fun y5 M4 => if y5 = 0 then (T_X7_busyVisitor_41 (T_X7_busyVisitor_6 Q n) Q v0 v1 v2 v3 v5 0 v4 M4) else (T_X7_of (fun y7 M6 => T_X7_busyVisitor_41 (T_X7_busyVisitor_6 Q n) Q v0 v1 v2 v3 v5 y7 v4 M6)  v0 v5 1 M4))  v0 v5 v2 v3 M)
set_option maxRecDepth 100000 in
set_option maxHeartbeats 4000000 in
theorem B_X7_busyVisitor_6 {g : GG} (Q : Int32 → Mem → Prop) : ∀ (n : Nat) (v0 : Nat) (v1 : Int32) (v2 : Int32) (v3 : Int32) (v4 : Int32) (v5 : Int32) (M : Mem), T_X7_busyVisitor_6 Q n v0 v1 v2 v3 v4 v5 M → WP g 12 mX7_busyVisitor 6 [some (.ref (g.1 + v0)), some (.int v1), some (.int v2), some (.int v3), some (.int v4), some (.int v5)] [] M 0 (oI Q noX) := by
  intro n
  induction n with
  | zero => intro v0 v1 v2 v3 v4 v5 M h; exact h.elim
  | succ n hκ6 =>
    intro v0 v1 v2 v3 v4 v5 M h
    unfold T_X7_busyVisitor_6 at h
    refine R_iload (pc := 6) d_X7_busyVisitor_6 rfl ?_
    refine R_aload_n (pc := 8) d_X7_busyVisitor_8 rfl rfl ?_
    obtain ⟨k1, h⟩ := h
    refine R_getR (pc := 9) fld_RX7_7 rfl rfl k1 d_X7_busyVisitor_9 ?_
    refine R_iconst (pc := 12) (v := 4) d_X7_busyVisitor_12 (by decide) ?_
    obtain ⟨k2, h⟩ := h
    obtain ⟨k3, h⟩ := h
    refine R_iald (pc := 13) k2 k3 d_X7_busyVisitor_13 ?_
    refine R_icmp_ge (pc := 14) (tgt := 50) d_X7_busyVisitor_14 (by decide) (fun c => ?_) (fun c => ?_)
    · rw [if_pos c] at h
      refine R_iconst (pc := 50) (v := 0) d_X7_busyVisitor_50 (by decide) ?_
      refine R_istore (pc := 51) (L' := [some (.ref (g.1 + v0)), some (.int v1), some (.int v2), some (.int v3), some (.int v4), some (.int 0)]) d_X7_busyVisitor_51 (by decide) rfl ?_
      obtain ⟨N, h⟩ := h
      exact WP_sub (B_X7_busyVisitor_53 Q N v1 v4 0 M h) (by decide) (ls_n (ls_s (ls_n (ls_n (ls_s (ls_s ls_0))))))
    · rw [if_neg c] at h
      refine R_iload (pc := 17) d_X7_busyVisitor_17 rfl ?_
      refine R_aload_n (pc := 19) d_X7_busyVisitor_19 rfl rfl ?_
      refine R_iload (pc := 20) d_X7_busyVisitor_20 rfl ?_
      refine R_iload_n (pc := 22) d_X7_busyVisitor_22 rfl rfl ?_
      refine R_iload_n (pc := 23) d_X7_busyVisitor_23 rfl rfl ?_
      refine R_callV (pc := 24) (As := [.int v5, .int v2, .int v3]) (rest := [.int v4]) (c_X7_isIn (g := g) v0 v5 v2 v3 M _ h) rfl rfl cal_RX7_69 ins_X7_isIn sel_X7_isIn (cls_at k1 clsOK7) (by decide) (by decide) rfl rfl (Nat.le_of_ble_eq_true rfl) d_X7_busyVisitor_24 (k_Z (fun y5 M4 h => ?_)) (fun _ _ h9 => False.elim h9)
      try dsimp only at h
      refine R_if_eq (pc := 27) (tgt := 40) d_X7_busyVisitor_27 (by decide) (fun c => ?_) (fun c => ?_)
      · rw [if_pos c] at h
        refine R_iconst (pc := 40) (v := 0) d_X7_busyVisitor_40 (by decide) ?_
        exact WP_sub (B_X7_busyVisitor_41 Q (T_X7_busyVisitor_6 Q n) hκ6 v0 v1 v2 v3 v5 0 v4 M4 h) (by decide) (ls_s (ls_s (ls_s (ls_s (ls_n (ls_s ls_0))))))
      · rw [if_neg c] at h
        refine R_aload_n (pc := 30) d_X7_busyVisitor_30 rfl rfl ?_
        refine R_iload (pc := 31) d_X7_busyVisitor_31 rfl ?_
        refine R_iconst (pc := 33) (v := 1) d_X7_busyVisitor_33 (by decide) ?_
        refine R_callV (pc := 34) (As := [.int v5, .int 1]) (rest := [.int v4]) (c_X7_of (g := g) v0 v5 1 M4 _ h) rfl rfl cal_RX7_45 ins_X7_of sel_X7_of (cls_at k1 clsOK7) (by decide) (by decide) rfl rfl (Nat.le_of_ble_eq_true rfl) d_X7_busyVisitor_34 (k_I (fun y7 M6 h => ?_)) (fun _ _ h9 => False.elim h9)
        try dsimp only at h
        refine R_goto (pc := 37) (tgt := 41) d_X7_busyVisitor_37 (by decide) ?_
        exact WP_sub (B_X7_busyVisitor_41 Q (T_X7_busyVisitor_6 Q n) hκ6 v0 v1 v2 v3 v5 y7 v4 M6 h) (by decide) (ls_s (ls_s (ls_s (ls_s (ls_n (ls_s ls_0))))))
def T_X7_busyVisitor (Q : Int32 → Mem → Prop) (v0 : Nat) (v1 : Int32) (v2 : Int32) (v3 : Int32) (M : Mem) : Prop := (∃ N : Nat, T_X7_busyVisitor_6 Q N v0 v1 v2 v3 0 0 M)
set_option maxRecDepth 100000 in
set_option maxHeartbeats 4000000 in
theorem c_X7_busyVisitor {g : GG} (v0 : Nat) (v1 : Int32) (v2 : Int32) (v3 : Int32) (M : Mem) (Q : Int32 → Mem → Prop) (h : T_X7_busyVisitor Q v0 v1 v2 v3 M) : CT g 12 mX7_busyVisitor [.ref (g.1 + v0), .int v1, .int v2, .int v3] M 0 (oI Q noX) := by
  refine CT_of (L := [some (.ref (g.1 + v0)), some (.int v1), some (.int v2), some (.int v3), none, none]) (by decide) rfl (Nat.le_of_ble_eq_true rfl) (ro_I rfl) rfl ?_
  unfold T_X7_busyVisitor at h
  refine R_iconst (pc := 0) (v := 0) d_X7_busyVisitor_0 (by decide) ?_
  refine R_istore (pc := 1) (L' := [some (.ref (g.1 + v0)), some (.int v1), some (.int v2), some (.int v3), some (.int 0), none]) d_X7_busyVisitor_1 (by decide) rfl ?_
  refine R_iconst (pc := 3) (v := 0) d_X7_busyVisitor_3 (by decide) ?_
  refine R_istore (pc := 4) (L' := [some (.ref (g.1 + v0)), some (.int v1), some (.int v2), some (.int v3), some (.int 0), some (.int 0)]) d_X7_busyVisitor_4 (by decide) rfl ?_
  obtain ⟨N, h⟩ := h
  exact WP_sub (B_X7_busyVisitor_6 Q N v0 v1 v2 v3 0 0 M h) (by decide) (ls_s (ls_s (ls_s (ls_s (ls_s (ls_s ls_0))))))
/-! X7_freeRooms -/
theorem d_X7_freeRooms_0 : decode mX7_freeRooms.2.1 0 = .ok (.iconst 0, 1) := by decide +kernel
theorem d_X7_freeRooms_1 : decode mX7_freeRooms.2.1 1 = .ok (.istore_n 3, 1) := by decide +kernel
theorem d_X7_freeRooms_2 : decode mX7_freeRooms.2.1 2 = .ok (.iconst 0, 1) := by decide +kernel
theorem d_X7_freeRooms_3 : decode mX7_freeRooms.2.1 3 = .ok (.istore 4, 2) := by decide +kernel
theorem d_X7_freeRooms_5 : decode mX7_freeRooms.2.1 5 = .ok (.iload 4, 2) := by decide +kernel
theorem d_X7_freeRooms_7 : decode mX7_freeRooms.2.1 7 = .ok (.aload_n 0, 1) := by decide +kernel
theorem d_X7_freeRooms_8 : decode mX7_freeRooms.2.1 8 = .ok (.getfield 7, 3) := by decide +kernel
theorem d_X7_freeRooms_11 : decode mX7_freeRooms.2.1 11 = .ok (.iconst 3, 1) := by decide +kernel
theorem d_X7_freeRooms_12 : decode mX7_freeRooms.2.1 12 = .ok (.iaload, 1) := by decide +kernel
theorem d_X7_freeRooms_13 : decode mX7_freeRooms.2.1 13 = .ok (.if_icmp .ge 45, 3) := by decide +kernel
theorem d_X7_freeRooms_16 : decode mX7_freeRooms.2.1 16 = .ok (.iload_n 3, 1) := by decide +kernel
theorem d_X7_freeRooms_17 : decode mX7_freeRooms.2.1 17 = .ok (.aload_n 0, 1) := by decide +kernel
theorem d_X7_freeRooms_18 : decode mX7_freeRooms.2.1 18 = .ok (.getfield 7, 3) := by decide +kernel
theorem d_X7_freeRooms_21 : decode mX7_freeRooms.2.1 21 = .ok (.bipush 72, 2) := by decide +kernel
theorem d_X7_freeRooms_23 : decode mX7_freeRooms.2.1 23 = .ok (.iload 4, 2) := by decide +kernel
theorem d_X7_freeRooms_25 : decode mX7_freeRooms.2.1 25 = .ok (.iadd, 1) := by decide +kernel
theorem d_X7_freeRooms_26 : decode mX7_freeRooms.2.1 26 = .ok (.iaload, 1) := by decide +kernel
theorem d_X7_freeRooms_27 : decode mX7_freeRooms.2.1 27 = .ok (.iconst 1, 1) := by decide +kernel
theorem d_X7_freeRooms_28 : decode mX7_freeRooms.2.1 28 = .ok (.if_icmp .ne 21, 3) := by decide +kernel
theorem d_X7_freeRooms_31 : decode mX7_freeRooms.2.1 31 = .ok (.aload_n 0, 1) := by decide +kernel
theorem d_X7_freeRooms_32 : decode mX7_freeRooms.2.1 32 = .ok (.iload_n 1, 1) := by decide +kernel
theorem d_X7_freeRooms_33 : decode mX7_freeRooms.2.1 33 = .ok (.iload_n 2, 1) := by decide +kernel
theorem d_X7_freeRooms_34 : decode mX7_freeRooms.2.1 34 = .ok (.invokevirtual 78, 3) := by decide +kernel
theorem d_X7_freeRooms_37 : decode mX7_freeRooms.2.1 37 = .ok (.iload 4, 2) := by decide +kernel
theorem d_X7_freeRooms_39 : decode mX7_freeRooms.2.1 39 = .ok (.ishr, 1) := by decide +kernel
theorem d_X7_freeRooms_40 : decode mX7_freeRooms.2.1 40 = .ok (.iconst 1, 1) := by decide +kernel
theorem d_X7_freeRooms_41 : decode mX7_freeRooms.2.1 41 = .ok (.iand, 1) := by decide +kernel
theorem d_X7_freeRooms_42 : decode mX7_freeRooms.2.1 42 = .ok (.ifCond .ne 7, 3) := by decide +kernel
theorem d_X7_freeRooms_45 : decode mX7_freeRooms.2.1 45 = .ok (.iconst 1, 1) := by decide +kernel
theorem d_X7_freeRooms_46 : decode mX7_freeRooms.2.1 46 = .ok (.goto 4, 3) := by decide +kernel
theorem d_X7_freeRooms_49 : decode mX7_freeRooms.2.1 49 = .ok (.iconst 0, 1) := by decide +kernel
theorem d_X7_freeRooms_50 : decode mX7_freeRooms.2.1 50 = .ok (.iadd, 1) := by decide +kernel
theorem d_X7_freeRooms_51 : decode mX7_freeRooms.2.1 51 = .ok (.istore_n 3, 1) := by decide +kernel
theorem d_X7_freeRooms_52 : decode mX7_freeRooms.2.1 52 = .ok (.iinc 4 1, 3) := by decide +kernel
theorem d_X7_freeRooms_55 : decode mX7_freeRooms.2.1 55 = .ok (.goto (-50), 3) := by decide +kernel
theorem d_X7_freeRooms_58 : decode mX7_freeRooms.2.1 58 = .ok (.iload_n 3, 1) := by decide +kernel
theorem d_X7_freeRooms_59 : decode mX7_freeRooms.2.1 59 = .ok (.ireturn, 1) := by decide +kernel
def T_X7_freeRooms_50 (κ5 : Nat → Int32 → Int32 → Int32 → Int32 → Mem → Prop) (Q : Int32 → Mem → Prop) (v0 : Nat) (v1 : Int32) (v2 : Int32) (v4 : Int32) (s0 : Int32) (s1 : Int32) (M : Mem) : Prop := ∀ x1 : Int32, x1 = s1 + s0 → ∀ x2 : Int32, x2 = v4 + 1 → κ5 v0 v1 v2 x1 x2 M
set_option maxRecDepth 100000 in
set_option maxHeartbeats 4000000 in
theorem B_X7_freeRooms_50 {g : GG} (Q : Int32 → Mem → Prop) (κ5 : Nat → Int32 → Int32 → Int32 → Int32 → Mem → Prop) (hκ5 : ∀ (v0 : Nat) (v1 : Int32) (v2 : Int32) (v3 : Int32) (v4 : Int32) (M : Mem), κ5 v0 v1 v2 v3 v4 M → WP g 13 mX7_freeRooms 5 [some (.ref (g.1 + v0)), some (.int v1), some (.int v2), some (.int v3), some (.int v4)] [] M 0 (oI Q noX)) (v0 : Nat) (v1 : Int32) (v2 : Int32) (v4 : Int32) (s0 : Int32) (s1 : Int32) (M : Mem) (h : T_X7_freeRooms_50 κ5 Q v0 v1 v2 v4 s0 s1 M) : WP g 13 mX7_freeRooms 50 [some (.ref (g.1 + v0)), some (.int v1), some (.int v2), none, some (.int v4)] [.int s0, .int s1] M 0 (oI Q noX) := by
  unfold T_X7_freeRooms_50 at h
  refine R_iadd (pc := 50) d_X7_freeRooms_50 ?_
  refine N_i (fun x1 ex1 => ?_)
  have h := h x1 ex1
  refine R_istore_n (pc := 51) (L' := [some (.ref (g.1 + v0)), some (.int v1), some (.int v2), some (.int x1), some (.int v4)]) d_X7_freeRooms_51 rfl (by decide) rfl ?_
  obtain ⟨x2, ex2⟩ : ∃ z : Int32, z = v4 + 1 := ⟨_, rfl⟩
  have h := h x2 ex2
  refine R_iinc (pc := 52) (v := x2) (L' := [some (.ref (g.1 + v0)), some (.int v1), some (.int v2), some (.int x1), some (.int x2)]) d_X7_freeRooms_52 rfl (by rw [ex2]; rfl) (by decide) rfl ?_
  refine R_goto (pc := 55) (tgt := 5) d_X7_freeRooms_55 (by decide) ?_
  exact WP_sub (hκ5 v0 v1 v2 x1 x2 M h) (by decide) (ls_s (ls_s (ls_s (ls_s (ls_s ls_0)))))
def T_X7_freeRooms_49 (κ5 : Nat → Int32 → Int32 → Int32 → Int32 → Mem → Prop) (Q : Int32 → Mem → Prop) (v0 : Nat) (v1 : Int32) (v2 : Int32) (v4 : Int32) (s0 : Int32) (M : Mem) : Prop := T_X7_freeRooms_50 κ5 Q v0 v1 v2 v4 0 s0 M
set_option maxRecDepth 100000 in
set_option maxHeartbeats 4000000 in
theorem B_X7_freeRooms_49 {g : GG} (Q : Int32 → Mem → Prop) (κ5 : Nat → Int32 → Int32 → Int32 → Int32 → Mem → Prop) (hκ5 : ∀ (v0 : Nat) (v1 : Int32) (v2 : Int32) (v3 : Int32) (v4 : Int32) (M : Mem), κ5 v0 v1 v2 v3 v4 M → WP g 13 mX7_freeRooms 5 [some (.ref (g.1 + v0)), some (.int v1), some (.int v2), some (.int v3), some (.int v4)] [] M 0 (oI Q noX)) (v0 : Nat) (v1 : Int32) (v2 : Int32) (v4 : Int32) (s0 : Int32) (M : Mem) (h : T_X7_freeRooms_49 κ5 Q v0 v1 v2 v4 s0 M) : WP g 13 mX7_freeRooms 49 [some (.ref (g.1 + v0)), some (.int v1), some (.int v2), none, some (.int v4)] [.int s0] M 0 (oI Q noX) := by
  unfold T_X7_freeRooms_49 at h
  refine R_iconst (pc := 49) (v := 0) d_X7_freeRooms_49 (by decide) ?_
  exact WP_sub (B_X7_freeRooms_50 Q κ5 hκ5 v0 v1 v2 v4 0 s0 M h) (by decide) (ls_s (ls_s (ls_s (ls_n (ls_s ls_0)))))
def T_X7_freeRooms_5 (Q : Int32 → Mem → Prop) : Nat → Nat → Int32 → Int32 → Int32 → Int32 → Mem → Prop
  | 0, _, _, _, _, _, _ => False
  | n + 1, v0, v1, v2, v3, v4, M => (kd v0 = 7) ∧ (kd (rf v0 1) = 9) ∧ (vp_in 3 (ln (rf v0 1))) ∧ if (M.1 (rf v0 1) (Int32.toNatClampNeg 3)) ≤ v4 then (Q v3 M) else ((vp_in (72 + v4) (ln (rf v0 1))) ∧ if (M.1 (rf v0 1) (Int32.toNatClampNeg (72 + v4))) = (1 : Int32) then (T_X7_usedRooms (fun y6 M5 => if ((y6 >>> (v4 &&& 31)) &&& 1) = 0 then (T_X7_freeRooms_50 (T_X7_freeRooms_5 Q n) Q v0 v1 v2 v4 1 v3 M5) else (T_X7_freeRooms_49 (T_X7_freeRooms_5 Q n) Q v0 v1 v2 v4 v3 M5))  v0 v1 v2 M) else (T_X7_freeRooms_49 (T_X7_freeRooms_5 Q n) Q v0 v1 v2 v4 v3 M))
set_option maxRecDepth 100000 in
set_option maxHeartbeats 4000000 in
theorem B_X7_freeRooms_5 {g : GG} (Q : Int32 → Mem → Prop) : ∀ (n : Nat) (v0 : Nat) (v1 : Int32) (v2 : Int32) (v3 : Int32) (v4 : Int32) (M : Mem), T_X7_freeRooms_5 Q n v0 v1 v2 v3 v4 M → WP g 13 mX7_freeRooms 5 [some (.ref (g.1 + v0)), some (.int v1), some (.int v2), some (.int v3), some (.int v4)] [] M 0 (oI Q noX) := by
  intro n
  induction n with
  | zero => intro v0 v1 v2 v3 v4 M h; exact h.elim
  | succ n hκ5 =>
    intro v0 v1 v2 v3 v4 M h
    unfold T_X7_freeRooms_5 at h
    refine R_iload (pc := 5) d_X7_freeRooms_5 rfl ?_
    refine R_aload_n (pc := 7) d_X7_freeRooms_7 rfl rfl ?_
    obtain ⟨k1, h⟩ := h
    refine R_getR (pc := 8) fld_RX7_7 rfl rfl k1 d_X7_freeRooms_8 ?_
    refine R_iconst (pc := 11) (v := 3) d_X7_freeRooms_11 (by decide) ?_
    obtain ⟨k2, h⟩ := h
    obtain ⟨k3, h⟩ := h
    refine R_iald (pc := 12) k2 k3 d_X7_freeRooms_12 ?_
    refine R_icmp_ge (pc := 13) (tgt := 58) d_X7_freeRooms_13 (by decide) (fun c => ?_) (fun c => ?_)
    · rw [if_pos c] at h
      refine R_iload_n (pc := 58) d_X7_freeRooms_58 rfl rfl ?_
      exact R_retv (pc := 59) d_X7_freeRooms_59 h
    · rw [if_neg c] at h
      refine R_iload_n (pc := 16) d_X7_freeRooms_16 rfl rfl ?_
      refine R_aload_n (pc := 17) d_X7_freeRooms_17 rfl rfl ?_
      refine R_getR (pc := 18) fld_RX7_7 rfl rfl k1 d_X7_freeRooms_18 ?_
      refine R_bipush (pc := 21) (v := 72) d_X7_freeRooms_21 (by decide) ?_
      refine R_iload (pc := 23) d_X7_freeRooms_23 rfl ?_
      refine R_iadd (pc := 25) d_X7_freeRooms_25 ?_
      obtain ⟨k4, h⟩ := h
      refine R_iald (pc := 26) k2 k4 d_X7_freeRooms_26 ?_
      refine R_iconst (pc := 27) (v := 1) d_X7_freeRooms_27 (by decide) ?_
      refine R_icmp_ne (pc := 28) (tgt := 49) d_X7_freeRooms_28 (by decide) (fun c => ?_) (fun c => ?_)
      · rw [if_neg c] at h
        exact WP_sub (B_X7_freeRooms_49 Q (T_X7_freeRooms_5 Q n) hκ5 v0 v1 v2 v4 v3 M h) (by decide) (ls_s (ls_s (ls_s (ls_n (ls_s ls_0)))))
      · rw [if_pos c] at h
        refine R_aload_n (pc := 31) d_X7_freeRooms_31 rfl rfl ?_
        refine R_iload_n (pc := 32) d_X7_freeRooms_32 rfl rfl ?_
        refine R_iload_n (pc := 33) d_X7_freeRooms_33 rfl rfl ?_
        refine R_callV (pc := 34) (As := [.int v1, .int v2]) (rest := [.int v3]) (c_X7_usedRooms (g := g) v0 v1 v2 M _ h) rfl rfl cal_RX7_78 ins_X7_usedRooms sel_X7_usedRooms (cls_at k1 clsOK7) (by decide) (by decide) rfl rfl (Nat.le_of_ble_eq_true rfl) d_X7_freeRooms_34 (k_I (fun y6 M5 h => ?_)) (fun _ _ h9 => False.elim h9)
        try dsimp only at h
        refine R_iload (pc := 37) d_X7_freeRooms_37 rfl ?_
        refine R_ishr (pc := 39) d_X7_freeRooms_39 ?_
        refine R_iconst (pc := 40) (v := 1) d_X7_freeRooms_40 (by decide) ?_
        refine R_iand (pc := 41) d_X7_freeRooms_41 ?_
        refine R_if_ne (pc := 42) (tgt := 49) d_X7_freeRooms_42 (by decide) (fun c => ?_) (fun c => ?_)
        · rw [if_neg c] at h
          exact WP_sub (B_X7_freeRooms_49 Q (T_X7_freeRooms_5 Q n) hκ5 v0 v1 v2 v4 v3 M5 h) (by decide) (ls_s (ls_s (ls_s (ls_n (ls_s ls_0)))))
        · rw [if_pos c] at h
          refine R_iconst (pc := 45) (v := 1) d_X7_freeRooms_45 (by decide) ?_
          refine R_goto (pc := 46) (tgt := 50) d_X7_freeRooms_46 (by decide) ?_
          exact WP_sub (B_X7_freeRooms_50 Q (T_X7_freeRooms_5 Q n) hκ5 v0 v1 v2 v4 1 v3 M5 h) (by decide) (ls_s (ls_s (ls_s (ls_n (ls_s ls_0)))))
def T_X7_freeRooms (Q : Int32 → Mem → Prop) (v0 : Nat) (v1 : Int32) (v2 : Int32) (M : Mem) : Prop := (∃ N : Nat, T_X7_freeRooms_5 Q N v0 v1 v2 0 0 M)
set_option maxRecDepth 100000 in
set_option maxHeartbeats 4000000 in
theorem c_X7_freeRooms {g : GG} (v0 : Nat) (v1 : Int32) (v2 : Int32) (M : Mem) (Q : Int32 → Mem → Prop) (h : T_X7_freeRooms Q v0 v1 v2 M) : CT g 13 mX7_freeRooms [.ref (g.1 + v0), .int v1, .int v2] M 0 (oI Q noX) := by
  refine CT_of (L := [some (.ref (g.1 + v0)), some (.int v1), some (.int v2), none, none]) (by decide) rfl (Nat.le_of_ble_eq_true rfl) (ro_I rfl) rfl ?_
  unfold T_X7_freeRooms at h
  refine R_iconst (pc := 0) (v := 0) d_X7_freeRooms_0 (by decide) ?_
  refine R_istore_n (pc := 1) (L' := [some (.ref (g.1 + v0)), some (.int v1), some (.int v2), some (.int 0), none]) d_X7_freeRooms_1 rfl (by decide) rfl ?_
  refine R_iconst (pc := 2) (v := 0) d_X7_freeRooms_2 (by decide) ?_
  refine R_istore (pc := 3) (L' := [some (.ref (g.1 + v0)), some (.int v1), some (.int v2), some (.int 0), some (.int 0)]) d_X7_freeRooms_3 (by decide) rfl ?_
  obtain ⟨N, h⟩ := h
  exact WP_sub (B_X7_freeRooms_5 Q N v0 v1 v2 0 0 M h) (by decide) (ls_s (ls_s (ls_s (ls_s (ls_s ls_0)))))
/-! X7_because -/
theorem d_X7_because_0 : decode mX7_because.2.1 0 = .ok (.aload_n 0, 1) := by decide +kernel
theorem d_X7_because_1 : decode mX7_because.2.1 1 = .ok (.iload_n 2, 1) := by decide +kernel
theorem d_X7_because_2 : decode mX7_because.2.1 2 = .ok (.putfield 101, 3) := by decide +kernel
theorem d_X7_because_5 : decode mX7_because.2.1 5 = .ok (.iload_n 1, 1) := by decide +kernel
theorem d_X7_because_6 : decode mX7_because.2.1 6 = .ok (.ireturn, 1) := by decide +kernel
def T_X7_because (Q : Int32 → Mem → Prop) (v0 : Nat) (v1 : Int32) (v2 : Int32) (M : Mem) : Prop := (kd v0 = 7) ∧ ∀ M2 : Mem, M2 = mset M v0 13 v2 → Q v1 M2
set_option maxRecDepth 100000 in
set_option maxHeartbeats 4000000 in
theorem c_X7_because {g : GG} (v0 : Nat) (v1 : Int32) (v2 : Int32) (M : Mem) (Q : Int32 → Mem → Prop) (h : T_X7_because Q v0 v1 v2 M) : CT g 9 mX7_because [.ref (g.1 + v0), .int v1, .int v2] M 0 (oI Q noX) := by
  refine CT_of (L := [some (.ref (g.1 + v0)), some (.int v1), some (.int v2)]) (by decide) rfl (Nat.le_of_ble_eq_true rfl) (ro_I rfl) rfl ?_
  unfold T_X7_because at h
  refine R_aload_n (pc := 0) d_X7_because_0 rfl rfl ?_
  refine R_iload_n (pc := 1) d_X7_because_1 rfl rfl ?_
  obtain ⟨k1, h⟩ := h
  refine R_putI (pc := 2) fld_RX7_101 rfl rfl rfl k1 rfl rfl d_X7_because_2 (N_M (fun M2 eM2 => ?_))
  have h := h M2 eM2
  refine R_iload_n (pc := 5) d_X7_because_5 rfl rfl ?_
  exact R_retv (pc := 6) d_X7_because_6 h
/-! X7_reasonOf -/
theorem d_X7_reasonOf_0 : decode mX7_reasonOf.2.1 0 = .ok (.iload_n 3, 1) := by decide +kernel
theorem d_X7_reasonOf_1 : decode mX7_reasonOf.2.1 1 = .ok (.aload_n 0, 1) := by decide +kernel
theorem d_X7_reasonOf_2 : decode mX7_reasonOf.2.1 2 = .ok (.getfield 7, 3) := by decide +kernel
theorem d_X7_reasonOf_5 : decode mX7_reasonOf.2.1 5 = .ok (.iconst 0, 1) := by decide +kernel
theorem d_X7_reasonOf_6 : decode mX7_reasonOf.2.1 6 = .ok (.iaload, 1) := by decide +kernel
theorem d_X7_reasonOf_7 : decode mX7_reasonOf.2.1 7 = .ok (.if_icmp .ge 15, 3) := by decide +kernel
theorem d_X7_reasonOf_10 : decode mX7_reasonOf.2.1 10 = .ok (.aload_n 0, 1) := by decide +kernel
theorem d_X7_reasonOf_11 : decode mX7_reasonOf.2.1 11 = .ok (.iconst 1, 1) := by decide +kernel
theorem d_X7_reasonOf_12 : decode mX7_reasonOf.2.1 12 = .ok (.aload_n 0, 1) := by decide +kernel
theorem d_X7_reasonOf_13 : decode mX7_reasonOf.2.1 13 = .ok (.getfield 7, 3) := by decide +kernel
theorem d_X7_reasonOf_16 : decode mX7_reasonOf.2.1 16 = .ok (.iconst 0, 1) := by decide +kernel
theorem d_X7_reasonOf_17 : decode mX7_reasonOf.2.1 17 = .ok (.iaload, 1) := by decide +kernel
theorem d_X7_reasonOf_18 : decode mX7_reasonOf.2.1 18 = .ok (.invokevirtual 104, 3) := by decide +kernel
theorem d_X7_reasonOf_21 : decode mX7_reasonOf.2.1 21 = .ok (.ireturn, 1) := by decide +kernel
theorem d_X7_reasonOf_22 : decode mX7_reasonOf.2.1 22 = .ok (.aload_n 0, 1) := by decide +kernel
theorem d_X7_reasonOf_23 : decode mX7_reasonOf.2.1 23 = .ok (.iload_n 1, 1) := by decide +kernel
theorem d_X7_reasonOf_24 : decode mX7_reasonOf.2.1 24 = .ok (.iload_n 2, 1) := by decide +kernel
theorem d_X7_reasonOf_25 : decode mX7_reasonOf.2.1 25 = .ok (.iload_n 3, 1) := by decide +kernel
theorem d_X7_reasonOf_26 : decode mX7_reasonOf.2.1 26 = .ok (.invokevirtual 107, 3) := by decide +kernel
theorem d_X7_reasonOf_29 : decode mX7_reasonOf.2.1 29 = .ok (.iconst (-1), 1) := by decide +kernel
theorem d_X7_reasonOf_30 : decode mX7_reasonOf.2.1 30 = .ok (.if_icmp .eq 16, 3) := by decide +kernel
theorem d_X7_reasonOf_33 : decode mX7_reasonOf.2.1 33 = .ok (.aload_n 0, 1) := by decide +kernel
theorem d_X7_reasonOf_34 : decode mX7_reasonOf.2.1 34 = .ok (.iconst 2, 1) := by decide +kernel
theorem d_X7_reasonOf_35 : decode mX7_reasonOf.2.1 35 = .ok (.aload_n 0, 1) := by decide +kernel
theorem d_X7_reasonOf_36 : decode mX7_reasonOf.2.1 36 = .ok (.iload_n 1, 1) := by decide +kernel
theorem d_X7_reasonOf_37 : decode mX7_reasonOf.2.1 37 = .ok (.iload_n 2, 1) := by decide +kernel
theorem d_X7_reasonOf_38 : decode mX7_reasonOf.2.1 38 = .ok (.iload_n 3, 1) := by decide +kernel
theorem d_X7_reasonOf_39 : decode mX7_reasonOf.2.1 39 = .ok (.invokevirtual 107, 3) := by decide +kernel
theorem d_X7_reasonOf_42 : decode mX7_reasonOf.2.1 42 = .ok (.invokevirtual 104, 3) := by decide +kernel
theorem d_X7_reasonOf_45 : decode mX7_reasonOf.2.1 45 = .ok (.ireturn, 1) := by decide +kernel
theorem d_X7_reasonOf_46 : decode mX7_reasonOf.2.1 46 = .ok (.aload_n 0, 1) := by decide +kernel
theorem d_X7_reasonOf_47 : decode mX7_reasonOf.2.1 47 = .ok (.iload_n 2, 1) := by decide +kernel
theorem d_X7_reasonOf_48 : decode mX7_reasonOf.2.1 48 = .ok (.invokevirtual 94, 3) := by decide +kernel
theorem d_X7_reasonOf_51 : decode mX7_reasonOf.2.1 51 = .ok (.ifCond .eq 31, 3) := by decide +kernel
theorem d_X7_reasonOf_54 : decode mX7_reasonOf.2.1 54 = .ok (.aload_n 0, 1) := by decide +kernel
theorem d_X7_reasonOf_55 : decode mX7_reasonOf.2.1 55 = .ok (.iload_n 1, 1) := by decide +kernel
theorem d_X7_reasonOf_56 : decode mX7_reasonOf.2.1 56 = .ok (.iload_n 3, 1) := by decide +kernel
theorem d_X7_reasonOf_57 : decode mX7_reasonOf.2.1 57 = .ok (.bipush 7, 2) := by decide +kernel
theorem d_X7_reasonOf_59 : decode mX7_reasonOf.2.1 59 = .ok (.idiv, 1) := by decide +kernel
theorem d_X7_reasonOf_60 : decode mX7_reasonOf.2.1 60 = .ok (.invokevirtual 111, 3) := by decide +kernel
theorem d_X7_reasonOf_63 : decode mX7_reasonOf.2.1 63 = .ok (.aload_n 0, 1) := by decide +kernel
theorem d_X7_reasonOf_64 : decode mX7_reasonOf.2.1 64 = .ok (.iload_n 1, 1) := by decide +kernel
theorem d_X7_reasonOf_65 : decode mX7_reasonOf.2.1 65 = .ok (.invokevirtual 114, 3) := by decide +kernel
theorem d_X7_reasonOf_68 : decode mX7_reasonOf.2.1 68 = .ok (.if_icmp .lt 14, 3) := by decide +kernel
theorem d_X7_reasonOf_71 : decode mX7_reasonOf.2.1 71 = .ok (.aload_n 0, 1) := by decide +kernel
theorem d_X7_reasonOf_72 : decode mX7_reasonOf.2.1 72 = .ok (.iconst 3, 1) := by decide +kernel
theorem d_X7_reasonOf_73 : decode mX7_reasonOf.2.1 73 = .ok (.aload_n 0, 1) := by decide +kernel
theorem d_X7_reasonOf_74 : decode mX7_reasonOf.2.1 74 = .ok (.iload_n 1, 1) := by decide +kernel
theorem d_X7_reasonOf_75 : decode mX7_reasonOf.2.1 75 = .ok (.invokevirtual 114, 3) := by decide +kernel
theorem d_X7_reasonOf_78 : decode mX7_reasonOf.2.1 78 = .ok (.invokevirtual 104, 3) := by decide +kernel
theorem d_X7_reasonOf_81 : decode mX7_reasonOf.2.1 81 = .ok (.ireturn, 1) := by decide +kernel
theorem d_X7_reasonOf_82 : decode mX7_reasonOf.2.1 82 = .ok (.aload_n 0, 1) := by decide +kernel
theorem d_X7_reasonOf_83 : decode mX7_reasonOf.2.1 83 = .ok (.iload_n 1, 1) := by decide +kernel
theorem d_X7_reasonOf_84 : decode mX7_reasonOf.2.1 84 = .ok (.iload_n 3, 1) := by decide +kernel
theorem d_X7_reasonOf_85 : decode mX7_reasonOf.2.1 85 = .ok (.iload 4, 2) := by decide +kernel
theorem d_X7_reasonOf_87 : decode mX7_reasonOf.2.1 87 = .ok (.invokevirtual 117, 3) := by decide +kernel
theorem d_X7_reasonOf_90 : decode mX7_reasonOf.2.1 90 = .ok (.iconst (-1), 1) := by decide +kernel
theorem d_X7_reasonOf_91 : decode mX7_reasonOf.2.1 91 = .ok (.if_icmp .eq 17, 3) := by decide +kernel
theorem d_X7_reasonOf_94 : decode mX7_reasonOf.2.1 94 = .ok (.aload_n 0, 1) := by decide +kernel
theorem d_X7_reasonOf_95 : decode mX7_reasonOf.2.1 95 = .ok (.iconst 4, 1) := by decide +kernel
theorem d_X7_reasonOf_96 : decode mX7_reasonOf.2.1 96 = .ok (.aload_n 0, 1) := by decide +kernel
theorem d_X7_reasonOf_97 : decode mX7_reasonOf.2.1 97 = .ok (.iload_n 1, 1) := by decide +kernel
theorem d_X7_reasonOf_98 : decode mX7_reasonOf.2.1 98 = .ok (.iload_n 3, 1) := by decide +kernel
theorem d_X7_reasonOf_99 : decode mX7_reasonOf.2.1 99 = .ok (.iload 4, 2) := by decide +kernel
theorem d_X7_reasonOf_101 : decode mX7_reasonOf.2.1 101 = .ok (.invokevirtual 117, 3) := by decide +kernel
theorem d_X7_reasonOf_104 : decode mX7_reasonOf.2.1 104 = .ok (.invokevirtual 104, 3) := by decide +kernel
theorem d_X7_reasonOf_107 : decode mX7_reasonOf.2.1 107 = .ok (.ireturn, 1) := by decide +kernel
theorem d_X7_reasonOf_108 : decode mX7_reasonOf.2.1 108 = .ok (.aload_n 0, 1) := by decide +kernel
theorem d_X7_reasonOf_109 : decode mX7_reasonOf.2.1 109 = .ok (.iload_n 2, 1) := by decide +kernel
theorem d_X7_reasonOf_110 : decode mX7_reasonOf.2.1 110 = .ok (.iload_n 3, 1) := by decide +kernel
theorem d_X7_reasonOf_111 : decode mX7_reasonOf.2.1 111 = .ok (.iload 4, 2) := by decide +kernel
theorem d_X7_reasonOf_113 : decode mX7_reasonOf.2.1 113 = .ok (.invokevirtual 120, 3) := by decide +kernel
theorem d_X7_reasonOf_116 : decode mX7_reasonOf.2.1 116 = .ok (.iconst (-1), 1) := by decide +kernel
theorem d_X7_reasonOf_117 : decode mX7_reasonOf.2.1 117 = .ok (.if_icmp .eq 17, 3) := by decide +kernel
theorem d_X7_reasonOf_120 : decode mX7_reasonOf.2.1 120 = .ok (.aload_n 0, 1) := by decide +kernel
theorem d_X7_reasonOf_121 : decode mX7_reasonOf.2.1 121 = .ok (.iconst 5, 1) := by decide +kernel
theorem d_X7_reasonOf_122 : decode mX7_reasonOf.2.1 122 = .ok (.aload_n 0, 1) := by decide +kernel
theorem d_X7_reasonOf_123 : decode mX7_reasonOf.2.1 123 = .ok (.iload_n 2, 1) := by decide +kernel
theorem d_X7_reasonOf_124 : decode mX7_reasonOf.2.1 124 = .ok (.iload_n 3, 1) := by decide +kernel
theorem d_X7_reasonOf_125 : decode mX7_reasonOf.2.1 125 = .ok (.iload 4, 2) := by decide +kernel
theorem d_X7_reasonOf_127 : decode mX7_reasonOf.2.1 127 = .ok (.invokevirtual 120, 3) := by decide +kernel
theorem d_X7_reasonOf_130 : decode mX7_reasonOf.2.1 130 = .ok (.invokevirtual 104, 3) := by decide +kernel
theorem d_X7_reasonOf_133 : decode mX7_reasonOf.2.1 133 = .ok (.ireturn, 1) := by decide +kernel
theorem d_X7_reasonOf_134 : decode mX7_reasonOf.2.1 134 = .ok (.aload_n 0, 1) := by decide +kernel
theorem d_X7_reasonOf_135 : decode mX7_reasonOf.2.1 135 = .ok (.aload_n 0, 1) := by decide +kernel
theorem d_X7_reasonOf_136 : decode mX7_reasonOf.2.1 136 = .ok (.iload_n 1, 1) := by decide +kernel
theorem d_X7_reasonOf_137 : decode mX7_reasonOf.2.1 137 = .ok (.iload_n 2, 1) := by decide +kernel
theorem d_X7_reasonOf_138 : decode mX7_reasonOf.2.1 138 = .ok (.invokestatic 72, 3) := by decide +kernel
theorem d_X7_reasonOf_141 : decode mX7_reasonOf.2.1 141 = .ok (.iload_n 3, 1) := by decide +kernel
theorem d_X7_reasonOf_142 : decode mX7_reasonOf.2.1 142 = .ok (.iload 4, 2) := by decide +kernel
theorem d_X7_reasonOf_144 : decode mX7_reasonOf.2.1 144 = .ok (.invokevirtual 123, 3) := by decide +kernel
theorem d_X7_reasonOf_147 : decode mX7_reasonOf.2.1 147 = .ok (.putfield 127, 3) := by decide +kernel
theorem d_X7_reasonOf_150 : decode mX7_reasonOf.2.1 150 = .ok (.aload_n 0, 1) := by decide +kernel
theorem d_X7_reasonOf_151 : decode mX7_reasonOf.2.1 151 = .ok (.getfield 127, 3) := by decide +kernel
theorem d_X7_reasonOf_154 : decode mX7_reasonOf.2.1 154 = .ok (.iconst (-1), 1) := by decide +kernel
theorem d_X7_reasonOf_155 : decode mX7_reasonOf.2.1 155 = .ok (.if_icmp .ne 17, 3) := by decide +kernel
theorem d_X7_reasonOf_158 : decode mX7_reasonOf.2.1 158 = .ok (.aload_n 0, 1) := by decide +kernel
theorem d_X7_reasonOf_159 : decode mX7_reasonOf.2.1 159 = .ok (.bipush 6, 2) := by decide +kernel
theorem d_X7_reasonOf_161 : decode mX7_reasonOf.2.1 161 = .ok (.aload_n 0, 1) := by decide +kernel
theorem d_X7_reasonOf_162 : decode mX7_reasonOf.2.1 162 = .ok (.iload_n 3, 1) := by decide +kernel
theorem d_X7_reasonOf_163 : decode mX7_reasonOf.2.1 163 = .ok (.iload 4, 2) := by decide +kernel
theorem d_X7_reasonOf_165 : decode mX7_reasonOf.2.1 165 = .ok (.invokevirtual 130, 3) := by decide +kernel
theorem d_X7_reasonOf_168 : decode mX7_reasonOf.2.1 168 = .ok (.invokevirtual 104, 3) := by decide +kernel
theorem d_X7_reasonOf_171 : decode mX7_reasonOf.2.1 171 = .ok (.ireturn, 1) := by decide +kernel
theorem d_X7_reasonOf_172 : decode mX7_reasonOf.2.1 172 = .ok (.aload_n 0, 1) := by decide +kernel
theorem d_X7_reasonOf_173 : decode mX7_reasonOf.2.1 173 = .ok (.getfield 127, 3) := by decide +kernel
theorem d_X7_reasonOf_176 : decode mX7_reasonOf.2.1 176 = .ok (.ifCond .ge 17, 3) := by decide +kernel
theorem d_X7_reasonOf_179 : decode mX7_reasonOf.2.1 179 = .ok (.aload_n 0, 1) := by decide +kernel
theorem d_X7_reasonOf_180 : decode mX7_reasonOf.2.1 180 = .ok (.bipush 7, 2) := by decide +kernel
theorem d_X7_reasonOf_182 : decode mX7_reasonOf.2.1 182 = .ok (.aload_n 0, 1) := by decide +kernel
theorem d_X7_reasonOf_183 : decode mX7_reasonOf.2.1 183 = .ok (.iload_n 3, 1) := by decide +kernel
theorem d_X7_reasonOf_184 : decode mX7_reasonOf.2.1 184 = .ok (.iload 4, 2) := by decide +kernel
theorem d_X7_reasonOf_186 : decode mX7_reasonOf.2.1 186 = .ok (.invokevirtual 91, 3) := by decide +kernel
theorem d_X7_reasonOf_189 : decode mX7_reasonOf.2.1 189 = .ok (.invokevirtual 104, 3) := by decide +kernel
theorem d_X7_reasonOf_192 : decode mX7_reasonOf.2.1 192 = .ok (.ireturn, 1) := by decide +kernel
theorem d_X7_reasonOf_193 : decode mX7_reasonOf.2.1 193 = .ok (.aload_n 0, 1) := by decide +kernel
theorem d_X7_reasonOf_194 : decode mX7_reasonOf.2.1 194 = .ok (.getfield 7, 3) := by decide +kernel
theorem d_X7_reasonOf_197 : decode mX7_reasonOf.2.1 197 = .ok (.iconst 4, 1) := by decide +kernel
theorem d_X7_reasonOf_198 : decode mX7_reasonOf.2.1 198 = .ok (.iaload, 1) := by decide +kernel
theorem d_X7_reasonOf_199 : decode mX7_reasonOf.2.1 199 = .ok (.bipush 60, 2) := by decide +kernel
theorem d_X7_reasonOf_201 : decode mX7_reasonOf.2.1 201 = .ok (.if_icmp .ne 14, 3) := by decide +kernel
theorem d_X7_reasonOf_204 : decode mX7_reasonOf.2.1 204 = .ok (.aload_n 0, 1) := by decide +kernel
theorem d_X7_reasonOf_205 : decode mX7_reasonOf.2.1 205 = .ok (.bipush 8, 2) := by decide +kernel
theorem d_X7_reasonOf_207 : decode mX7_reasonOf.2.1 207 = .ok (.bipush 60, 2) := by decide +kernel
theorem d_X7_reasonOf_209 : decode mX7_reasonOf.2.1 209 = .ok (.invokevirtual 104, 3) := by decide +kernel
theorem d_X7_reasonOf_212 : decode mX7_reasonOf.2.1 212 = .ok (.goto 4, 3) := by decide +kernel
theorem d_X7_reasonOf_215 : decode mX7_reasonOf.2.1 215 = .ok (.iconst 0, 1) := by decide +kernel
theorem d_X7_reasonOf_216 : decode mX7_reasonOf.2.1 216 = .ok (.ireturn, 1) := by decide +kernel
def T_X7_reasonOf_216 (Q : Int32 → Mem → Prop) (s0 : Int32) (M : Mem) : Prop := Q s0 M
set_option maxRecDepth 100000 in
set_option maxHeartbeats 4000000 in
theorem B_X7_reasonOf_216 {g : GG} (Q : Int32 → Mem → Prop) (s0 : Int32) (M : Mem) (h : T_X7_reasonOf_216 Q s0 M) : WP g 15 mX7_reasonOf 216 [none, none, none, none, none] [.int s0] M 0 (oI Q noX) := by
  unfold T_X7_reasonOf_216 at h
  exact R_retv (pc := 216) d_X7_reasonOf_216 h
def T_X7_reasonOf_82 (Q : Int32 → Mem → Prop) (v0 : Nat) (v1 : Int32) (v2 : Int32) (v3 : Int32) (v4 : Int32) (M : Mem) : Prop := (kd v0 = 7) ∧ T_X7_visitOf (fun y3 M2 => if y3 = ((-1) : Int32) then (T_X7_busyVisitor (fun y5 M4 => if y5 = ((-1) : Int32) then (T_X7_bits (fun y7 M6 => T_X7_roomFor (fun y9 M8 => ∀ M10 : Mem, M10 = mset M8 v0 14 y9 → if (M10.1 v0 14) = ((-1) : Int32) then (T_X7_freeRooms (fun y20 M19 => T_X7_because (fun y22 M21 => Q y22 M21)  v0 6 y20 M19)  v0 v3 v4 M10) else (if 0 ≤ (M10.1 v0 14) then ((kd (rf v0 1) = 9) ∧ (vp_in 4 (ln (rf v0 1))) ∧ if (M10.1 (rf v0 1) (Int32.toNatClampNeg 4)) = (60 : Int32) then (T_X7_because (fun y14 M13 => T_X7_reasonOf_216 Q y14 M13)  v0 8 60 M10) else (T_X7_reasonOf_216 Q 0 M10)) else (T_X7_left (fun y16 M15 => T_X7_because (fun y18 M17 => Q y18 M17)  v0 7 y16 M15)  v0 v3 v4 M10)))  v0 v1 y7 v3 v4 M6)  v2 M4) else (T_X7_busyVisitor (fun y24 M23 => T_X7_because (fun y26 M25 => Q y26 M25)  v0 5 y24 M23)  v0 v2 v3 v4 M4))  v0 v2 v3 v4 M2) else (T_X7_visitOf (fun y28 M27 => T_X7_because (fun y30 M29 => Q y30 M29)  v0 4 y28 M27)  v0 v1 v3 v4 M2))  v0 v1 v3 v4 M
set_option maxRecDepth 100000 in
set_option maxHeartbeats 4000000 in
theorem B_X7_reasonOf_82 {g : GG} (Q : Int32 → Mem → Prop) (v0 : Nat) (v1 : Int32) (v2 : Int32) (v3 : Int32) (v4 : Int32) (M : Mem) (h : T_X7_reasonOf_82 Q v0 v1 v2 v3 v4 M) : WP g 15 mX7_reasonOf 82 [some (.ref (g.1 + v0)), some (.int v1), some (.int v2), some (.int v3), some (.int v4)] [] M 0 (oI Q noX) := by
  unfold T_X7_reasonOf_82 at h
  refine R_aload_n (pc := 82) d_X7_reasonOf_82 rfl rfl ?_
  refine R_iload_n (pc := 83) d_X7_reasonOf_83 rfl rfl ?_
  refine R_iload_n (pc := 84) d_X7_reasonOf_84 rfl rfl ?_
  refine R_iload (pc := 85) d_X7_reasonOf_85 rfl ?_
  obtain ⟨k1, h⟩ := h
  refine R_callV (pc := 87) (As := [.int v1, .int v3, .int v4]) (rest := []) (c_X7_visitOf (g := g) v0 v1 v3 v4 M _ h) rfl rfl cal_RX7_117 ins_X7_visitOf sel_X7_visitOf (cls_at k1 clsOK7) (by decide) (by decide) rfl rfl (Nat.le_of_ble_eq_true rfl) d_X7_reasonOf_87 (k_I (fun y3 M2 h => ?_)) (fun _ _ h9 => False.elim h9)
  try dsimp only at h
  refine R_iconst (pc := 90) (v := (-1)) d_X7_reasonOf_90 (by decide) ?_
  refine R_icmp_eq (pc := 91) (tgt := 108) d_X7_reasonOf_91 (by decide) (fun c => ?_) (fun c => ?_)
  · rw [if_pos c] at h
    refine R_aload_n (pc := 108) d_X7_reasonOf_108 rfl rfl ?_
    refine R_iload_n (pc := 109) d_X7_reasonOf_109 rfl rfl ?_
    refine R_iload_n (pc := 110) d_X7_reasonOf_110 rfl rfl ?_
    refine R_iload (pc := 111) d_X7_reasonOf_111 rfl ?_
    refine R_callV (pc := 113) (As := [.int v2, .int v3, .int v4]) (rest := []) (c_X7_busyVisitor (g := g) v0 v2 v3 v4 M2 _ h) rfl rfl cal_RX7_120 ins_X7_busyVisitor sel_X7_busyVisitor (cls_at k1 clsOK7) (by decide) (by decide) rfl rfl (Nat.le_of_ble_eq_true rfl) d_X7_reasonOf_113 (k_I (fun y5 M4 h => ?_)) (fun _ _ h9 => False.elim h9)
    try dsimp only at h
    refine R_iconst (pc := 116) (v := (-1)) d_X7_reasonOf_116 (by decide) ?_
    refine R_icmp_eq (pc := 117) (tgt := 134) d_X7_reasonOf_117 (by decide) (fun c => ?_) (fun c => ?_)
    · rw [if_pos c] at h
      refine R_aload_n (pc := 134) d_X7_reasonOf_134 rfl rfl ?_
      refine R_aload_n (pc := 135) d_X7_reasonOf_135 rfl rfl ?_
      refine R_iload_n (pc := 136) d_X7_reasonOf_136 rfl rfl ?_
      refine R_iload_n (pc := 137) d_X7_reasonOf_137 rfl rfl ?_
      refine R_callS (pc := 138) (As := [.int v2]) (rest := [.int v1, .ref (g.1 + v0), .ref (g.1 + v0)]) (c_X7_bits (g := g) v2 M4 _ h) rfl rfl cal_RX7_72 sta_X7_bits (by decide) (by decide) rfl rfl (Nat.le_of_ble_eq_true rfl) d_X7_reasonOf_138 (k_I (fun y7 M6 h => ?_)) (fun _ _ h9 => False.elim h9)
      try dsimp only at h
      refine R_iload_n (pc := 141) d_X7_reasonOf_141 rfl rfl ?_
      refine R_iload (pc := 142) d_X7_reasonOf_142 rfl ?_
      refine R_callV (pc := 144) (As := [.int v1, .int y7, .int v3, .int v4]) (rest := [.ref (g.1 + v0)]) (c_X7_roomFor (g := g) v0 v1 y7 v3 v4 M6 _ h) rfl rfl cal_RX7_123 ins_X7_roomFor sel_X7_roomFor (cls_at k1 clsOK7) (by decide) (by decide) rfl rfl (Nat.le_of_ble_eq_true rfl) d_X7_reasonOf_144 (k_I (fun y9 M8 h => ?_)) (fun _ _ h9 => False.elim h9)
      try dsimp only at h
      refine R_putI (pc := 147) fld_RX7_127 rfl rfl rfl k1 rfl rfl d_X7_reasonOf_147 (N_M (fun M10 eM10 => ?_))
      have h := h M10 eM10
      refine R_aload_n (pc := 150) d_X7_reasonOf_150 rfl rfl ?_
      refine R_getI (pc := 151) fld_RX7_127 rfl rfl k1 d_X7_reasonOf_151 ?_
      refine R_iconst (pc := 154) (v := (-1)) d_X7_reasonOf_154 (by decide) ?_
      refine R_icmp_ne (pc := 155) (tgt := 172) d_X7_reasonOf_155 (by decide) (fun c => ?_) (fun c => ?_)
      · rw [if_neg c] at h
        refine R_aload_n (pc := 172) d_X7_reasonOf_172 rfl rfl ?_
        refine R_getI (pc := 173) fld_RX7_127 rfl rfl k1 d_X7_reasonOf_173 ?_
        refine R_if_ge (pc := 176) (tgt := 193) d_X7_reasonOf_176 (by decide) (fun c => ?_) (fun c => ?_)
        · rw [if_pos c] at h
          refine R_aload_n (pc := 193) d_X7_reasonOf_193 rfl rfl ?_
          refine R_getR (pc := 194) fld_RX7_7 rfl rfl k1 d_X7_reasonOf_194 ?_
          refine R_iconst (pc := 197) (v := 4) d_X7_reasonOf_197 (by decide) ?_
          obtain ⟨k11, h⟩ := h
          obtain ⟨k12, h⟩ := h
          refine R_iald (pc := 198) k11 k12 d_X7_reasonOf_198 ?_
          refine R_bipush (pc := 199) (v := 60) d_X7_reasonOf_199 (by decide) ?_
          refine R_icmp_ne (pc := 201) (tgt := 215) d_X7_reasonOf_201 (by decide) (fun c => ?_) (fun c => ?_)
          · rw [if_neg c] at h
            refine R_iconst (pc := 215) (v := 0) d_X7_reasonOf_215 (by decide) ?_
            exact WP_sub (B_X7_reasonOf_216 Q 0 M10 h) (by decide) (ls_n (ls_n (ls_n (ls_n (ls_n ls_0)))))
          · rw [if_pos c] at h
            refine R_aload_n (pc := 204) d_X7_reasonOf_204 rfl rfl ?_
            refine R_bipush (pc := 205) (v := 8) d_X7_reasonOf_205 (by decide) ?_
            refine R_bipush (pc := 207) (v := 60) d_X7_reasonOf_207 (by decide) ?_
            refine R_callV (pc := 209) (As := [.int 8, .int 60]) (rest := []) (c_X7_because (g := g) v0 8 60 M10 _ h) rfl rfl cal_RX7_104 ins_X7_because sel_X7_because (cls_at k1 clsOK7) (by decide) (by decide) rfl rfl (Nat.le_of_ble_eq_true rfl) d_X7_reasonOf_209 (k_I (fun y14 M13 h => ?_)) (fun _ _ h9 => False.elim h9)
            try dsimp only at h
            refine R_goto (pc := 212) (tgt := 216) d_X7_reasonOf_212 (by decide) ?_
            exact WP_sub (B_X7_reasonOf_216 Q y14 M13 h) (by decide) (ls_n (ls_n (ls_n (ls_n (ls_n ls_0)))))
        · rw [if_neg c] at h
          refine R_aload_n (pc := 179) d_X7_reasonOf_179 rfl rfl ?_
          refine R_bipush (pc := 180) (v := 7) d_X7_reasonOf_180 (by decide) ?_
          refine R_aload_n (pc := 182) d_X7_reasonOf_182 rfl rfl ?_
          refine R_iload_n (pc := 183) d_X7_reasonOf_183 rfl rfl ?_
          refine R_iload (pc := 184) d_X7_reasonOf_184 rfl ?_
          refine R_callV (pc := 186) (As := [.int v3, .int v4]) (rest := [.int 7, .ref (g.1 + v0)]) (c_X7_left (g := g) v0 v3 v4 M10 _ h) rfl rfl cal_RX7_91 ins_X7_left sel_X7_left (cls_at k1 clsOK7) (by decide) (by decide) rfl rfl (Nat.le_of_ble_eq_true rfl) d_X7_reasonOf_186 (k_I (fun y16 M15 h => ?_)) (fun _ _ h9 => False.elim h9)
          try dsimp only at h
          refine R_callV (pc := 189) (As := [.int 7, .int y16]) (rest := []) (c_X7_because (g := g) v0 7 y16 M15 _ h) rfl rfl cal_RX7_104 ins_X7_because sel_X7_because (cls_at k1 clsOK7) (by decide) (by decide) rfl rfl (Nat.le_of_ble_eq_true rfl) d_X7_reasonOf_189 (k_I (fun y18 M17 h => ?_)) (fun _ _ h9 => False.elim h9)
          try dsimp only at h
          exact R_retv (pc := 192) d_X7_reasonOf_192 h
      · rw [if_pos c] at h
        refine R_aload_n (pc := 158) d_X7_reasonOf_158 rfl rfl ?_
        refine R_bipush (pc := 159) (v := 6) d_X7_reasonOf_159 (by decide) ?_
        refine R_aload_n (pc := 161) d_X7_reasonOf_161 rfl rfl ?_
        refine R_iload_n (pc := 162) d_X7_reasonOf_162 rfl rfl ?_
        refine R_iload (pc := 163) d_X7_reasonOf_163 rfl ?_
        refine R_callV (pc := 165) (As := [.int v3, .int v4]) (rest := [.int 6, .ref (g.1 + v0)]) (c_X7_freeRooms (g := g) v0 v3 v4 M10 _ h) rfl rfl cal_RX7_130 ins_X7_freeRooms sel_X7_freeRooms (cls_at k1 clsOK7) (by decide) (by decide) rfl rfl (Nat.le_of_ble_eq_true rfl) d_X7_reasonOf_165 (k_I (fun y20 M19 h => ?_)) (fun _ _ h9 => False.elim h9)
        try dsimp only at h
        refine R_callV (pc := 168) (As := [.int 6, .int y20]) (rest := []) (c_X7_because (g := g) v0 6 y20 M19 _ h) rfl rfl cal_RX7_104 ins_X7_because sel_X7_because (cls_at k1 clsOK7) (by decide) (by decide) rfl rfl (Nat.le_of_ble_eq_true rfl) d_X7_reasonOf_168 (k_I (fun y22 M21 h => ?_)) (fun _ _ h9 => False.elim h9)
        try dsimp only at h
        exact R_retv (pc := 171) d_X7_reasonOf_171 h
    · rw [if_neg c] at h
      refine R_aload_n (pc := 120) d_X7_reasonOf_120 rfl rfl ?_
      refine R_iconst (pc := 121) (v := 5) d_X7_reasonOf_121 (by decide) ?_
      refine R_aload_n (pc := 122) d_X7_reasonOf_122 rfl rfl ?_
      refine R_iload_n (pc := 123) d_X7_reasonOf_123 rfl rfl ?_
      refine R_iload_n (pc := 124) d_X7_reasonOf_124 rfl rfl ?_
      refine R_iload (pc := 125) d_X7_reasonOf_125 rfl ?_
      refine R_callV (pc := 127) (As := [.int v2, .int v3, .int v4]) (rest := [.int 5, .ref (g.1 + v0)]) (c_X7_busyVisitor (g := g) v0 v2 v3 v4 M4 _ h) rfl rfl cal_RX7_120 ins_X7_busyVisitor sel_X7_busyVisitor (cls_at k1 clsOK7) (by decide) (by decide) rfl rfl (Nat.le_of_ble_eq_true rfl) d_X7_reasonOf_127 (k_I (fun y24 M23 h => ?_)) (fun _ _ h9 => False.elim h9)
      try dsimp only at h
      refine R_callV (pc := 130) (As := [.int 5, .int y24]) (rest := []) (c_X7_because (g := g) v0 5 y24 M23 _ h) rfl rfl cal_RX7_104 ins_X7_because sel_X7_because (cls_at k1 clsOK7) (by decide) (by decide) rfl rfl (Nat.le_of_ble_eq_true rfl) d_X7_reasonOf_130 (k_I (fun y26 M25 h => ?_)) (fun _ _ h9 => False.elim h9)
      try dsimp only at h
      exact R_retv (pc := 133) d_X7_reasonOf_133 h
  · rw [if_neg c] at h
    refine R_aload_n (pc := 94) d_X7_reasonOf_94 rfl rfl ?_
    refine R_iconst (pc := 95) (v := 4) d_X7_reasonOf_95 (by decide) ?_
    refine R_aload_n (pc := 96) d_X7_reasonOf_96 rfl rfl ?_
    refine R_iload_n (pc := 97) d_X7_reasonOf_97 rfl rfl ?_
    refine R_iload_n (pc := 98) d_X7_reasonOf_98 rfl rfl ?_
    refine R_iload (pc := 99) d_X7_reasonOf_99 rfl ?_
    refine R_callV (pc := 101) (As := [.int v1, .int v3, .int v4]) (rest := [.int 4, .ref (g.1 + v0)]) (c_X7_visitOf (g := g) v0 v1 v3 v4 M2 _ h) rfl rfl cal_RX7_117 ins_X7_visitOf sel_X7_visitOf (cls_at k1 clsOK7) (by decide) (by decide) rfl rfl (Nat.le_of_ble_eq_true rfl) d_X7_reasonOf_101 (k_I (fun y28 M27 h => ?_)) (fun _ _ h9 => False.elim h9)
    try dsimp only at h
    refine R_callV (pc := 104) (As := [.int 4, .int y28]) (rest := []) (c_X7_because (g := g) v0 4 y28 M27 _ h) rfl rfl cal_RX7_104 ins_X7_because sel_X7_because (cls_at k1 clsOK7) (by decide) (by decide) rfl rfl (Nat.le_of_ble_eq_true rfl) d_X7_reasonOf_104 (k_I (fun y30 M29 h => ?_)) (fun _ _ h9 => False.elim h9)
    try dsimp only at h
    exact R_retv (pc := 107) d_X7_reasonOf_107 h
def T_X7_reasonOf (Q : Int32 → Mem → Prop) (v0 : Nat) (v1 : Int32) (v2 : Int32) (v3 : Int32) (v4 : Int32) (M : Mem) : Prop := (kd v0 = 7) ∧ (kd (rf v0 1) = 9) ∧ (vp_in 0 (ln (rf v0 1))) ∧ if (M.1 (rf v0 1) (Int32.toNatClampNeg 0)) ≤ v3 then (T_X7_bannedBy (fun y5 M4 => if y5 = ((-1) : Int32) then (T_X7_doesCount (fun y7 M6 => if y7 = 0 then (T_X7_reasonOf_82 Q v0 v1 v2 v3 v4 M6) else (T_X7_counted (fun y9 M8 => T_X7_quotaOf (fun y11 M10 => if y9 < y11 then (T_X7_reasonOf_82 Q v0 v1 v2 v3 v4 M10) else (T_X7_quotaOf (fun y13 M12 => T_X7_because (fun y15 M14 => Q y15 M14)  v0 3 y13 M12)  v0 v1 M10))  v0 v1 M8)  v0 v1 (v3 / 7) M6))  v0 v2 M4) else (T_X7_bannedBy (fun y17 M16 => T_X7_because (fun y19 M18 => Q y19 M18)  v0 2 y17 M16)  v0 v1 v2 v3 M4))  v0 v1 v2 v3 M) else (T_X7_because (fun y21 M20 => Q y21 M20)  v0 1 (M.1 (rf v0 1) (Int32.toNatClampNeg 0)) M)
set_option maxRecDepth 100000 in
set_option maxHeartbeats 4000000 in
theorem c_X7_reasonOf {g : GG} (v0 : Nat) (v1 : Int32) (v2 : Int32) (v3 : Int32) (v4 : Int32) (M : Mem) (Q : Int32 → Mem → Prop) (h : T_X7_reasonOf Q v0 v1 v2 v3 v4 M) : CT g 15 mX7_reasonOf [.ref (g.1 + v0), .int v1, .int v2, .int v3, .int v4] M 0 (oI Q noX) := by
  refine CT_of (L := [some (.ref (g.1 + v0)), some (.int v1), some (.int v2), some (.int v3), some (.int v4)]) (by decide) rfl (Nat.le_of_ble_eq_true rfl) (ro_I rfl) rfl ?_
  unfold T_X7_reasonOf at h
  refine R_iload_n (pc := 0) d_X7_reasonOf_0 rfl rfl ?_
  refine R_aload_n (pc := 1) d_X7_reasonOf_1 rfl rfl ?_
  obtain ⟨k1, h⟩ := h
  refine R_getR (pc := 2) fld_RX7_7 rfl rfl k1 d_X7_reasonOf_2 ?_
  refine R_iconst (pc := 5) (v := 0) d_X7_reasonOf_5 (by decide) ?_
  obtain ⟨k2, h⟩ := h
  obtain ⟨k3, h⟩ := h
  refine R_iald (pc := 6) k2 k3 d_X7_reasonOf_6 ?_
  refine R_icmp_ge (pc := 7) (tgt := 22) d_X7_reasonOf_7 (by decide) (fun c => ?_) (fun c => ?_)
  · rw [if_pos c] at h
    refine R_aload_n (pc := 22) d_X7_reasonOf_22 rfl rfl ?_
    refine R_iload_n (pc := 23) d_X7_reasonOf_23 rfl rfl ?_
    refine R_iload_n (pc := 24) d_X7_reasonOf_24 rfl rfl ?_
    refine R_iload_n (pc := 25) d_X7_reasonOf_25 rfl rfl ?_
    refine R_callV (pc := 26) (As := [.int v1, .int v2, .int v3]) (rest := []) (c_X7_bannedBy (g := g) v0 v1 v2 v3 M _ h) rfl rfl cal_RX7_107 ins_X7_bannedBy sel_X7_bannedBy (cls_at k1 clsOK7) (by decide) (by decide) rfl rfl (Nat.le_of_ble_eq_true rfl) d_X7_reasonOf_26 (k_I (fun y5 M4 h => ?_)) (fun _ _ h9 => False.elim h9)
    try dsimp only at h
    refine R_iconst (pc := 29) (v := (-1)) d_X7_reasonOf_29 (by decide) ?_
    refine R_icmp_eq (pc := 30) (tgt := 46) d_X7_reasonOf_30 (by decide) (fun c => ?_) (fun c => ?_)
    · rw [if_pos c] at h
      refine R_aload_n (pc := 46) d_X7_reasonOf_46 rfl rfl ?_
      refine R_iload_n (pc := 47) d_X7_reasonOf_47 rfl rfl ?_
      refine R_callV (pc := 48) (As := [.int v2]) (rest := []) (c_X7_doesCount (g := g) v0 v2 M4 _ h) rfl rfl cal_RX7_94 ins_X7_doesCount sel_X7_doesCount (cls_at k1 clsOK7) (by decide) (by decide) rfl rfl (Nat.le_of_ble_eq_true rfl) d_X7_reasonOf_48 (k_Z (fun y7 M6 h => ?_)) (fun _ _ h9 => False.elim h9)
      try dsimp only at h
      refine R_if_eq (pc := 51) (tgt := 82) d_X7_reasonOf_51 (by decide) (fun c => ?_) (fun c => ?_)
      · rw [if_pos c] at h
        exact WP_sub (B_X7_reasonOf_82 Q v0 v1 v2 v3 v4 M6 h) (by decide) (ls_s (ls_s (ls_s (ls_s (ls_s ls_0)))))
      · rw [if_neg c] at h
        refine R_aload_n (pc := 54) d_X7_reasonOf_54 rfl rfl ?_
        refine R_iload_n (pc := 55) d_X7_reasonOf_55 rfl rfl ?_
        refine R_iload_n (pc := 56) d_X7_reasonOf_56 rfl rfl ?_
        refine R_bipush (pc := 57) (v := 7) d_X7_reasonOf_57 (by decide) ?_
        refine R_idiv (pc := 59) d_X7_reasonOf_59 (by decide) ?_
        refine R_callV (pc := 60) (As := [.int v1, .int (v3 / 7)]) (rest := []) (c_X7_counted (g := g) v0 v1 (v3 / 7) M6 _ h) rfl rfl cal_RX7_111 ins_X7_counted sel_X7_counted (cls_at k1 clsOK7) (by decide) (by decide) rfl rfl (Nat.le_of_ble_eq_true rfl) d_X7_reasonOf_60 (k_I (fun y9 M8 h => ?_)) (fun _ _ h9 => False.elim h9)
        try dsimp only at h
        refine R_aload_n (pc := 63) d_X7_reasonOf_63 rfl rfl ?_
        refine R_iload_n (pc := 64) d_X7_reasonOf_64 rfl rfl ?_
        refine R_callV (pc := 65) (As := [.int v1]) (rest := [.int y9]) (c_X7_quotaOf (g := g) v0 v1 M8 _ h) rfl rfl cal_RX7_114 ins_X7_quotaOf sel_X7_quotaOf (cls_at k1 clsOK7) (by decide) (by decide) rfl rfl (Nat.le_of_ble_eq_true rfl) d_X7_reasonOf_65 (k_I (fun y11 M10 h => ?_)) (fun _ _ h9 => False.elim h9)
        try dsimp only at h
        refine R_icmp_lt (pc := 68) (tgt := 82) d_X7_reasonOf_68 (by decide) (fun c => ?_) (fun c => ?_)
        · rw [if_pos c] at h
          exact WP_sub (B_X7_reasonOf_82 Q v0 v1 v2 v3 v4 M10 h) (by decide) (ls_s (ls_s (ls_s (ls_s (ls_s ls_0)))))
        · rw [if_neg c] at h
          refine R_aload_n (pc := 71) d_X7_reasonOf_71 rfl rfl ?_
          refine R_iconst (pc := 72) (v := 3) d_X7_reasonOf_72 (by decide) ?_
          refine R_aload_n (pc := 73) d_X7_reasonOf_73 rfl rfl ?_
          refine R_iload_n (pc := 74) d_X7_reasonOf_74 rfl rfl ?_
          refine R_callV (pc := 75) (As := [.int v1]) (rest := [.int 3, .ref (g.1 + v0)]) (c_X7_quotaOf (g := g) v0 v1 M10 _ h) rfl rfl cal_RX7_114 ins_X7_quotaOf sel_X7_quotaOf (cls_at k1 clsOK7) (by decide) (by decide) rfl rfl (Nat.le_of_ble_eq_true rfl) d_X7_reasonOf_75 (k_I (fun y13 M12 h => ?_)) (fun _ _ h9 => False.elim h9)
          try dsimp only at h
          refine R_callV (pc := 78) (As := [.int 3, .int y13]) (rest := []) (c_X7_because (g := g) v0 3 y13 M12 _ h) rfl rfl cal_RX7_104 ins_X7_because sel_X7_because (cls_at k1 clsOK7) (by decide) (by decide) rfl rfl (Nat.le_of_ble_eq_true rfl) d_X7_reasonOf_78 (k_I (fun y15 M14 h => ?_)) (fun _ _ h9 => False.elim h9)
          try dsimp only at h
          exact R_retv (pc := 81) d_X7_reasonOf_81 h
    · rw [if_neg c] at h
      refine R_aload_n (pc := 33) d_X7_reasonOf_33 rfl rfl ?_
      refine R_iconst (pc := 34) (v := 2) d_X7_reasonOf_34 (by decide) ?_
      refine R_aload_n (pc := 35) d_X7_reasonOf_35 rfl rfl ?_
      refine R_iload_n (pc := 36) d_X7_reasonOf_36 rfl rfl ?_
      refine R_iload_n (pc := 37) d_X7_reasonOf_37 rfl rfl ?_
      refine R_iload_n (pc := 38) d_X7_reasonOf_38 rfl rfl ?_
      refine R_callV (pc := 39) (As := [.int v1, .int v2, .int v3]) (rest := [.int 2, .ref (g.1 + v0)]) (c_X7_bannedBy (g := g) v0 v1 v2 v3 M4 _ h) rfl rfl cal_RX7_107 ins_X7_bannedBy sel_X7_bannedBy (cls_at k1 clsOK7) (by decide) (by decide) rfl rfl (Nat.le_of_ble_eq_true rfl) d_X7_reasonOf_39 (k_I (fun y17 M16 h => ?_)) (fun _ _ h9 => False.elim h9)
      try dsimp only at h
      refine R_callV (pc := 42) (As := [.int 2, .int y17]) (rest := []) (c_X7_because (g := g) v0 2 y17 M16 _ h) rfl rfl cal_RX7_104 ins_X7_because sel_X7_because (cls_at k1 clsOK7) (by decide) (by decide) rfl rfl (Nat.le_of_ble_eq_true rfl) d_X7_reasonOf_42 (k_I (fun y19 M18 h => ?_)) (fun _ _ h9 => False.elim h9)
      try dsimp only at h
      exact R_retv (pc := 45) d_X7_reasonOf_45 h
  · rw [if_neg c] at h
    refine R_aload_n (pc := 10) d_X7_reasonOf_10 rfl rfl ?_
    refine R_iconst (pc := 11) (v := 1) d_X7_reasonOf_11 (by decide) ?_
    refine R_aload_n (pc := 12) d_X7_reasonOf_12 rfl rfl ?_
    refine R_getR (pc := 13) fld_RX7_7 rfl rfl k1 d_X7_reasonOf_13 ?_
    refine R_iconst (pc := 16) (v := 0) d_X7_reasonOf_16 (by decide) ?_
    refine R_iald (pc := 17) k2 k3 d_X7_reasonOf_17 ?_
    refine R_callV (pc := 18) (As := [.int 1, .int (M.1 (rf v0 1) (Int32.toNatClampNeg 0))]) (rest := []) (c_X7_because (g := g) v0 1 (M.1 (rf v0 1) (Int32.toNatClampNeg 0)) M _ h) rfl rfl cal_RX7_104 ins_X7_because sel_X7_because (cls_at k1 clsOK7) (by decide) (by decide) rfl rfl (Nat.le_of_ble_eq_true rfl) d_X7_reasonOf_18 (k_I (fun y21 M20 h => ?_)) (fun _ _ h9 => False.elim h9)
    try dsimp only at h
    exact R_retv (pc := 21) d_X7_reasonOf_21 h
/-! X7_adds -/
theorem d_X7_adds_0 : decode mX7_adds.2.1 0 = .ok (.bipush 78, 2) := by decide +kernel
theorem d_X7_adds_2 : decode mX7_adds.2.1 2 = .ok (.bipush 6, 2) := by decide +kernel
theorem d_X7_adds_4 : decode mX7_adds.2.1 4 = .ok (.aload_n 0, 1) := by decide +kernel
theorem d_X7_adds_5 : decode mX7_adds.2.1 5 = .ok (.getfield 7, 3) := by decide +kernel
theorem d_X7_adds_8 : decode mX7_adds.2.1 8 = .ok (.iconst 4, 1) := by decide +kernel
theorem d_X7_adds_9 : decode mX7_adds.2.1 9 = .ok (.iaload, 1) := by decide +kernel
theorem d_X7_adds_10 : decode mX7_adds.2.1 10 = .ok (.imul, 1) := by decide +kernel
theorem d_X7_adds_11 : decode mX7_adds.2.1 11 = .ok (.iadd, 1) := by decide +kernel
theorem d_X7_adds_12 : decode mX7_adds.2.1 12 = .ok (.istore 6, 2) := by decide +kernel
theorem d_X7_adds_14 : decode mX7_adds.2.1 14 = .ok (.aload_n 0, 1) := by decide +kernel
theorem d_X7_adds_15 : decode mX7_adds.2.1 15 = .ok (.getfield 7, 3) := by decide +kernel
theorem d_X7_adds_18 : decode mX7_adds.2.1 18 = .ok (.iload 6, 2) := by decide +kernel
theorem d_X7_adds_20 : decode mX7_adds.2.1 20 = .ok (.iload_n 1, 1) := by decide +kernel
theorem d_X7_adds_21 : decode mX7_adds.2.1 21 = .ok (.iastore, 1) := by decide +kernel
theorem d_X7_adds_22 : decode mX7_adds.2.1 22 = .ok (.aload_n 0, 1) := by decide +kernel
theorem d_X7_adds_23 : decode mX7_adds.2.1 23 = .ok (.getfield 7, 3) := by decide +kernel
theorem d_X7_adds_26 : decode mX7_adds.2.1 26 = .ok (.iload 6, 2) := by decide +kernel
theorem d_X7_adds_28 : decode mX7_adds.2.1 28 = .ok (.iconst 1, 1) := by decide +kernel
theorem d_X7_adds_29 : decode mX7_adds.2.1 29 = .ok (.iadd, 1) := by decide +kernel
theorem d_X7_adds_30 : decode mX7_adds.2.1 30 = .ok (.iload_n 2, 1) := by decide +kernel
theorem d_X7_adds_31 : decode mX7_adds.2.1 31 = .ok (.iastore, 1) := by decide +kernel
theorem d_X7_adds_32 : decode mX7_adds.2.1 32 = .ok (.aload_n 0, 1) := by decide +kernel
theorem d_X7_adds_33 : decode mX7_adds.2.1 33 = .ok (.getfield 7, 3) := by decide +kernel
theorem d_X7_adds_36 : decode mX7_adds.2.1 36 = .ok (.iload 6, 2) := by decide +kernel
theorem d_X7_adds_38 : decode mX7_adds.2.1 38 = .ok (.iconst 2, 1) := by decide +kernel
theorem d_X7_adds_39 : decode mX7_adds.2.1 39 = .ok (.iadd, 1) := by decide +kernel
theorem d_X7_adds_40 : decode mX7_adds.2.1 40 = .ok (.iload_n 3, 1) := by decide +kernel
theorem d_X7_adds_41 : decode mX7_adds.2.1 41 = .ok (.iastore, 1) := by decide +kernel
theorem d_X7_adds_42 : decode mX7_adds.2.1 42 = .ok (.aload_n 0, 1) := by decide +kernel
theorem d_X7_adds_43 : decode mX7_adds.2.1 43 = .ok (.getfield 7, 3) := by decide +kernel
theorem d_X7_adds_46 : decode mX7_adds.2.1 46 = .ok (.iload 6, 2) := by decide +kernel
theorem d_X7_adds_48 : decode mX7_adds.2.1 48 = .ok (.iconst 3, 1) := by decide +kernel
theorem d_X7_adds_49 : decode mX7_adds.2.1 49 = .ok (.iadd, 1) := by decide +kernel
theorem d_X7_adds_50 : decode mX7_adds.2.1 50 = .ok (.iload 4, 2) := by decide +kernel
theorem d_X7_adds_52 : decode mX7_adds.2.1 52 = .ok (.iastore, 1) := by decide +kernel
theorem d_X7_adds_53 : decode mX7_adds.2.1 53 = .ok (.aload_n 0, 1) := by decide +kernel
theorem d_X7_adds_54 : decode mX7_adds.2.1 54 = .ok (.getfield 7, 3) := by decide +kernel
theorem d_X7_adds_57 : decode mX7_adds.2.1 57 = .ok (.iload 6, 2) := by decide +kernel
theorem d_X7_adds_59 : decode mX7_adds.2.1 59 = .ok (.iconst 4, 1) := by decide +kernel
theorem d_X7_adds_60 : decode mX7_adds.2.1 60 = .ok (.iadd, 1) := by decide +kernel
theorem d_X7_adds_61 : decode mX7_adds.2.1 61 = .ok (.iload 5, 2) := by decide +kernel
theorem d_X7_adds_63 : decode mX7_adds.2.1 63 = .ok (.iastore, 1) := by decide +kernel
theorem d_X7_adds_64 : decode mX7_adds.2.1 64 = .ok (.aload_n 0, 1) := by decide +kernel
theorem d_X7_adds_65 : decode mX7_adds.2.1 65 = .ok (.getfield 7, 3) := by decide +kernel
theorem d_X7_adds_68 : decode mX7_adds.2.1 68 = .ok (.iload 6, 2) := by decide +kernel
theorem d_X7_adds_70 : decode mX7_adds.2.1 70 = .ok (.iconst 5, 1) := by decide +kernel
theorem d_X7_adds_71 : decode mX7_adds.2.1 71 = .ok (.iadd, 1) := by decide +kernel
theorem d_X7_adds_72 : decode mX7_adds.2.1 72 = .ok (.iconst 0, 1) := by decide +kernel
theorem d_X7_adds_73 : decode mX7_adds.2.1 73 = .ok (.iastore, 1) := by decide +kernel
theorem d_X7_adds_74 : decode mX7_adds.2.1 74 = .ok (.aload_n 0, 1) := by decide +kernel
theorem d_X7_adds_75 : decode mX7_adds.2.1 75 = .ok (.getfield 7, 3) := by decide +kernel
theorem d_X7_adds_78 : decode mX7_adds.2.1 78 = .ok (.iconst 4, 1) := by decide +kernel
theorem d_X7_adds_79 : decode mX7_adds.2.1 79 = .ok (.dup2, 1) := by decide +kernel
theorem d_X7_adds_80 : decode mX7_adds.2.1 80 = .ok (.iaload, 1) := by decide +kernel
theorem d_X7_adds_81 : decode mX7_adds.2.1 81 = .ok (.iconst 1, 1) := by decide +kernel
theorem d_X7_adds_82 : decode mX7_adds.2.1 82 = .ok (.iadd, 1) := by decide +kernel
theorem d_X7_adds_83 : decode mX7_adds.2.1 83 = .ok (.iastore, 1) := by decide +kernel
theorem d_X7_adds_84 : decode mX7_adds.2.1 84 = .ok (.aload_n 0, 1) := by decide +kernel
theorem d_X7_adds_85 : decode mX7_adds.2.1 85 = .ok (.getfield 7, 3) := by decide +kernel
theorem d_X7_adds_88 : decode mX7_adds.2.1 88 = .ok (.iconst 4, 1) := by decide +kernel
theorem d_X7_adds_89 : decode mX7_adds.2.1 89 = .ok (.iaload, 1) := by decide +kernel
theorem d_X7_adds_90 : decode mX7_adds.2.1 90 = .ok (.iconst 1, 1) := by decide +kernel
theorem d_X7_adds_91 : decode mX7_adds.2.1 91 = .ok (.isub, 1) := by decide +kernel
theorem d_X7_adds_92 : decode mX7_adds.2.1 92 = .ok (.ireturn, 1) := by decide +kernel
def T_X7_adds (Q : Int32 → Mem → Prop) (v0 : Nat) (v1 : Int32) (v2 : Int32) (v3 : Int32) (v4 : Int32) (v5 : Int32) (M : Mem) : Prop := (kd v0 = 7) ∧ (kd (rf v0 1) = 9) ∧ (vp_in 4 (ln (rf v0 1))) ∧ ∀ x4 : Int32, x4 = 78 + (6 * (M.1 (rf v0 1) (Int32.toNatClampNeg 4))) → (vp_in x4 (ln (rf v0 1))) ∧ ∀ M6 : Mem, M6 = mset M (rf v0 1) (Int32.toNatClampNeg x4) v1 → (vp_in (x4 + 1) (ln (rf v0 1))) ∧ ∀ M8 : Mem, M8 = mset M6 (rf v0 1) (Int32.toNatClampNeg (x4 + 1)) v2 → (vp_in (x4 + 2) (ln (rf v0 1))) ∧ ∀ M10 : Mem, M10 = mset M8 (rf v0 1) (Int32.toNatClampNeg (x4 + 2)) v3 → (vp_in (x4 + 3) (ln (rf v0 1))) ∧ ∀ M12 : Mem, M12 = mset M10 (rf v0 1) (Int32.toNatClampNeg (x4 + 3)) v4 → (vp_in (x4 + 4) (ln (rf v0 1))) ∧ ∀ M14 : Mem, M14 = mset M12 (rf v0 1) (Int32.toNatClampNeg (x4 + 4)) v5 → (vp_in (x4 + 5) (ln (rf v0 1))) ∧ ∀ M16 : Mem, M16 = mset M14 (rf v0 1) (Int32.toNatClampNeg (x4 + 5)) 0 → ∀ M17 : Mem, M17 = mset M16 (rf v0 1) (Int32.toNatClampNeg 4) ((M16.1 (rf v0 1) (Int32.toNatClampNeg 4)) + 1) → Q ((M17.1 (rf v0 1) (Int32.toNatClampNeg 4)) - 1) M17
set_option maxRecDepth 100000 in
set_option maxHeartbeats 4000000 in
theorem c_X7_adds {g : GG} (v0 : Nat) (v1 : Int32) (v2 : Int32) (v3 : Int32) (v4 : Int32) (v5 : Int32) (M : Mem) (Q : Int32 → Mem → Prop) (h : T_X7_adds Q v0 v1 v2 v3 v4 v5 M) : CT g 9 mX7_adds [.ref (g.1 + v0), .int v1, .int v2, .int v3, .int v4, .int v5] M 0 (oI Q noX) := by
  refine CT_of (L := [some (.ref (g.1 + v0)), some (.int v1), some (.int v2), some (.int v3), some (.int v4), some (.int v5), none]) (by decide) rfl (Nat.le_of_ble_eq_true rfl) (ro_I rfl) rfl ?_
  unfold T_X7_adds at h
  refine R_bipush (pc := 0) (v := 78) d_X7_adds_0 (by decide) ?_
  refine R_bipush (pc := 2) (v := 6) d_X7_adds_2 (by decide) ?_
  refine R_aload_n (pc := 4) d_X7_adds_4 rfl rfl ?_
  obtain ⟨k1, h⟩ := h
  refine R_getR (pc := 5) fld_RX7_7 rfl rfl k1 d_X7_adds_5 ?_
  refine R_iconst (pc := 8) (v := 4) d_X7_adds_8 (by decide) ?_
  obtain ⟨k2, h⟩ := h
  obtain ⟨k3, h⟩ := h
  refine R_iald (pc := 9) k2 k3 d_X7_adds_9 ?_
  refine R_imul (pc := 10) d_X7_adds_10 ?_
  refine R_iadd (pc := 11) d_X7_adds_11 ?_
  refine N_i (fun x4 ex4 => ?_)
  have h := h x4 ex4
  refine R_istore (pc := 12) (L' := [some (.ref (g.1 + v0)), some (.int v1), some (.int v2), some (.int v3), some (.int v4), some (.int v5), some (.int x4)]) d_X7_adds_12 (by decide) rfl ?_
  refine R_aload_n (pc := 14) d_X7_adds_14 rfl rfl ?_
  refine R_getR (pc := 15) fld_RX7_7 rfl rfl k1 d_X7_adds_15 ?_
  refine R_iload (pc := 18) d_X7_adds_18 rfl ?_
  refine R_iload_n (pc := 20) d_X7_adds_20 rfl rfl ?_
  obtain ⟨k5, h⟩ := h
  refine R_iast (pc := 21) k2 k5 d_X7_adds_21 (N_M (fun M6 eM6 => ?_))
  have h := h M6 eM6
  refine R_aload_n (pc := 22) d_X7_adds_22 rfl rfl ?_
  refine R_getR (pc := 23) fld_RX7_7 rfl rfl k1 d_X7_adds_23 ?_
  refine R_iload (pc := 26) d_X7_adds_26 rfl ?_
  refine R_iconst (pc := 28) (v := 1) d_X7_adds_28 (by decide) ?_
  refine R_iadd (pc := 29) d_X7_adds_29 ?_
  refine R_iload_n (pc := 30) d_X7_adds_30 rfl rfl ?_
  obtain ⟨k7, h⟩ := h
  refine R_iast (pc := 31) k2 k7 d_X7_adds_31 (N_M (fun M8 eM8 => ?_))
  have h := h M8 eM8
  refine R_aload_n (pc := 32) d_X7_adds_32 rfl rfl ?_
  refine R_getR (pc := 33) fld_RX7_7 rfl rfl k1 d_X7_adds_33 ?_
  refine R_iload (pc := 36) d_X7_adds_36 rfl ?_
  refine R_iconst (pc := 38) (v := 2) d_X7_adds_38 (by decide) ?_
  refine R_iadd (pc := 39) d_X7_adds_39 ?_
  refine R_iload_n (pc := 40) d_X7_adds_40 rfl rfl ?_
  obtain ⟨k9, h⟩ := h
  refine R_iast (pc := 41) k2 k9 d_X7_adds_41 (N_M (fun M10 eM10 => ?_))
  have h := h M10 eM10
  refine R_aload_n (pc := 42) d_X7_adds_42 rfl rfl ?_
  refine R_getR (pc := 43) fld_RX7_7 rfl rfl k1 d_X7_adds_43 ?_
  refine R_iload (pc := 46) d_X7_adds_46 rfl ?_
  refine R_iconst (pc := 48) (v := 3) d_X7_adds_48 (by decide) ?_
  refine R_iadd (pc := 49) d_X7_adds_49 ?_
  refine R_iload (pc := 50) d_X7_adds_50 rfl ?_
  obtain ⟨k11, h⟩ := h
  refine R_iast (pc := 52) k2 k11 d_X7_adds_52 (N_M (fun M12 eM12 => ?_))
  have h := h M12 eM12
  refine R_aload_n (pc := 53) d_X7_adds_53 rfl rfl ?_
  refine R_getR (pc := 54) fld_RX7_7 rfl rfl k1 d_X7_adds_54 ?_
  refine R_iload (pc := 57) d_X7_adds_57 rfl ?_
  refine R_iconst (pc := 59) (v := 4) d_X7_adds_59 (by decide) ?_
  refine R_iadd (pc := 60) d_X7_adds_60 ?_
  refine R_iload (pc := 61) d_X7_adds_61 rfl ?_
  obtain ⟨k13, h⟩ := h
  refine R_iast (pc := 63) k2 k13 d_X7_adds_63 (N_M (fun M14 eM14 => ?_))
  have h := h M14 eM14
  refine R_aload_n (pc := 64) d_X7_adds_64 rfl rfl ?_
  refine R_getR (pc := 65) fld_RX7_7 rfl rfl k1 d_X7_adds_65 ?_
  refine R_iload (pc := 68) d_X7_adds_68 rfl ?_
  refine R_iconst (pc := 70) (v := 5) d_X7_adds_70 (by decide) ?_
  refine R_iadd (pc := 71) d_X7_adds_71 ?_
  refine R_iconst (pc := 72) (v := 0) d_X7_adds_72 (by decide) ?_
  obtain ⟨k15, h⟩ := h
  refine R_iast (pc := 73) k2 k15 d_X7_adds_73 (N_M (fun M16 eM16 => ?_))
  have h := h M16 eM16
  refine R_aload_n (pc := 74) d_X7_adds_74 rfl rfl ?_
  refine R_getR (pc := 75) fld_RX7_7 rfl rfl k1 d_X7_adds_75 ?_
  refine R_iconst (pc := 78) (v := 4) d_X7_adds_78 (by decide) ?_
  refine R_dup2 (pc := 79) d_X7_adds_79 rfl rfl ?_
  refine R_iald (pc := 80) k2 k3 d_X7_adds_80 ?_
  refine R_iconst (pc := 81) (v := 1) d_X7_adds_81 (by decide) ?_
  refine R_iadd (pc := 82) d_X7_adds_82 ?_
  refine R_iast (pc := 83) k2 k3 d_X7_adds_83 (N_M (fun M17 eM17 => ?_))
  have h := h M17 eM17
  refine R_aload_n (pc := 84) d_X7_adds_84 rfl rfl ?_
  refine R_getR (pc := 85) fld_RX7_7 rfl rfl k1 d_X7_adds_85 ?_
  refine R_iconst (pc := 88) (v := 4) d_X7_adds_88 (by decide) ?_
  refine R_iald (pc := 89) k2 k3 d_X7_adds_89 ?_
  refine R_iconst (pc := 90) (v := 1) d_X7_adds_90 (by decide) ?_
  refine R_isub (pc := 91) d_X7_adds_91 ?_
  exact R_retv (pc := 92) d_X7_adds_92 h
/-! X7_setState -/
theorem d_X7_setState_0 : decode mX7_setState.2.1 0 = .ok (.aload_n 0, 1) := by decide +kernel
theorem d_X7_setState_1 : decode mX7_setState.2.1 1 = .ok (.getfield 7, 3) := by decide +kernel
theorem d_X7_setState_4 : decode mX7_setState.2.1 4 = .ok (.bipush 78, 2) := by decide +kernel
theorem d_X7_setState_6 : decode mX7_setState.2.1 6 = .ok (.bipush 6, 2) := by decide +kernel
theorem d_X7_setState_8 : decode mX7_setState.2.1 8 = .ok (.iload_n 1, 1) := by decide +kernel
theorem d_X7_setState_9 : decode mX7_setState.2.1 9 = .ok (.imul, 1) := by decide +kernel
theorem d_X7_setState_10 : decode mX7_setState.2.1 10 = .ok (.iadd, 1) := by decide +kernel
theorem d_X7_setState_11 : decode mX7_setState.2.1 11 = .ok (.iconst 5, 1) := by decide +kernel
theorem d_X7_setState_12 : decode mX7_setState.2.1 12 = .ok (.iadd, 1) := by decide +kernel
theorem d_X7_setState_13 : decode mX7_setState.2.1 13 = .ok (.iload_n 2, 1) := by decide +kernel
theorem d_X7_setState_14 : decode mX7_setState.2.1 14 = .ok (.iastore, 1) := by decide +kernel
theorem d_X7_setState_15 : decode mX7_setState.2.1 15 = .ok (.return_, 1) := by decide +kernel
def T_X7_setState (Q : Mem → Prop) (v0 : Nat) (v1 : Int32) (v2 : Int32) (M : Mem) : Prop := (kd v0 = 7) ∧ (kd (rf v0 1) = 9) ∧ (vp_in ((78 + (6 * v1)) + 5) (ln (rf v0 1))) ∧ ∀ M4 : Mem, M4 = mset M (rf v0 1) (Int32.toNatClampNeg ((78 + (6 * v1)) + 5)) v2 → Q M4
set_option maxRecDepth 100000 in
set_option maxHeartbeats 4000000 in
theorem c_X7_setState {g : GG} (v0 : Nat) (v1 : Int32) (v2 : Int32) (M : Mem) (Q : Mem → Prop) (h : T_X7_setState Q v0 v1 v2 M) : CT g 9 mX7_setState [.ref (g.1 + v0), .int v1, .int v2] M 0 (oV Q noX) := by
  refine CT_of (L := [some (.ref (g.1 + v0)), some (.int v1), some (.int v2)]) (by decide) rfl (Nat.le_of_ble_eq_true rfl) (ro_V rfl) rfl ?_
  unfold T_X7_setState at h
  refine R_aload_n (pc := 0) d_X7_setState_0 rfl rfl ?_
  obtain ⟨k1, h⟩ := h
  refine R_getR (pc := 1) fld_RX7_7 rfl rfl k1 d_X7_setState_1 ?_
  refine R_bipush (pc := 4) (v := 78) d_X7_setState_4 (by decide) ?_
  refine R_bipush (pc := 6) (v := 6) d_X7_setState_6 (by decide) ?_
  refine R_iload_n (pc := 8) d_X7_setState_8 rfl rfl ?_
  refine R_imul (pc := 9) d_X7_setState_9 ?_
  refine R_iadd (pc := 10) d_X7_setState_10 ?_
  refine R_iconst (pc := 11) (v := 5) d_X7_setState_11 (by decide) ?_
  refine R_iadd (pc := 12) d_X7_setState_12 ?_
  refine R_iload_n (pc := 13) d_X7_setState_13 rfl rfl ?_
  obtain ⟨k2, h⟩ := h
  obtain ⟨k3, h⟩ := h
  refine R_iast (pc := 14) k2 k3 d_X7_setState_14 (N_M (fun M4 eM4 => ?_))
  have h := h M4 eM4
  exact R_ret (pc := 15) d_X7_setState_15 h
/-! X7_cancels -/
theorem d_X7_cancels_0 : decode mX7_cancels.2.1 0 = .ok (.aload_n 0, 1) := by decide +kernel
theorem d_X7_cancels_1 : decode mX7_cancels.2.1 1 = .ok (.iload_n 1, 1) := by decide +kernel
theorem d_X7_cancels_2 : decode mX7_cancels.2.1 2 = .ok (.iconst 2, 1) := by decide +kernel
theorem d_X7_cancels_3 : decode mX7_cancels.2.1 3 = .ok (.invokevirtual 133, 3) := by decide +kernel
theorem d_X7_cancels_6 : decode mX7_cancels.2.1 6 = .ok (.aload_n 0, 1) := by decide +kernel
theorem d_X7_cancels_7 : decode mX7_cancels.2.1 7 = .ok (.iload_n 1, 1) := by decide +kernel
theorem d_X7_cancels_8 : decode mX7_cancels.2.1 8 = .ok (.iload_n 2, 1) := by decide +kernel
theorem d_X7_cancels_9 : decode mX7_cancels.2.1 9 = .ok (.invokevirtual 137, 3) := by decide +kernel
theorem d_X7_cancels_12 : decode mX7_cancels.2.1 12 = .ok (.return_, 1) := by decide +kernel
def T_X7_cancels (Q : Mem → Prop) (v0 : Nat) (v1 : Int32) (v2 : Int32) (M : Mem) : Prop := (kd v0 = 7) ∧ T_X7_setState (fun M2 => T_X7_notes (fun M3 => Q M3)  v0 v1 v2 M2)  v0 v1 2 M
set_option maxRecDepth 100000 in
set_option maxHeartbeats 4000000 in
theorem c_X7_cancels {g : GG} (v0 : Nat) (v1 : Int32) (v2 : Int32) (M : Mem) (Q : Mem → Prop) (h : T_X7_cancels Q v0 v1 v2 M) : CT g 10 mX7_cancels [.ref (g.1 + v0), .int v1, .int v2] M 0 (oV Q noX) := by
  refine CT_of (L := [some (.ref (g.1 + v0)), some (.int v1), some (.int v2)]) (by decide) rfl (Nat.le_of_ble_eq_true rfl) (ro_V rfl) rfl ?_
  unfold T_X7_cancels at h
  refine R_aload_n (pc := 0) d_X7_cancels_0 rfl rfl ?_
  refine R_iload_n (pc := 1) d_X7_cancels_1 rfl rfl ?_
  refine R_iconst (pc := 2) (v := 2) d_X7_cancels_2 (by decide) ?_
  obtain ⟨k1, h⟩ := h
  refine R_callV (pc := 3) (As := [.int v1, .int 2]) (rest := []) (c_X7_setState (g := g) v0 v1 2 M _ h) rfl rfl cal_RX7_133 ins_X7_setState sel_X7_setState (cls_at k1 clsOK7) (by decide) (by decide) rfl rfl (Nat.le_of_ble_eq_true rfl) d_X7_cancels_3 (k_V (fun M2 h => ?_)) (fun _ _ h9 => False.elim h9)
  try dsimp only at h
  refine R_aload_n (pc := 6) d_X7_cancels_6 rfl rfl ?_
  refine R_iload_n (pc := 7) d_X7_cancels_7 rfl rfl ?_
  refine R_iload_n (pc := 8) d_X7_cancels_8 rfl rfl ?_
  refine R_callV (pc := 9) (As := [.int v1, .int v2]) (rest := []) (c_X7_notes (g := g) v0 v1 v2 M2 _ h) rfl rfl cal_RX7_137 ins_X7_notes sel_X7_notes (cls_at k1 clsOK7) (by decide) (by decide) rfl rfl (Nat.le_of_ble_eq_true rfl) d_X7_cancels_9 (k_V (fun M3 h => ?_)) (fun _ _ h9 => False.elim h9)
  try dsimp only at h
  exact R_ret (pc := 12) d_X7_cancels_12 h
