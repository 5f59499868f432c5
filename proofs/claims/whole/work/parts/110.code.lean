/-! X7_remembers -/
theorem d_X7_remembers_0 : decode mX7_remembers.2.1 0 = .ok (.iconst 0, 1) := by decide +kernel
theorem d_X7_remembers_1 : decode mX7_remembers.2.1 1 = .ok (.istore_n 1, 1) := by decide +kernel
theorem d_X7_remembers_2 : decode mX7_remembers.2.1 2 = .ok (.iload_n 1, 1) := by decide +kernel
theorem d_X7_remembers_3 : decode mX7_remembers.2.1 3 = .ok (.sipush 552, 3) := by decide +kernel
theorem d_X7_remembers_6 : decode mX7_remembers.2.1 6 = .ok (.if_icmp .ge 21, 3) := by decide +kernel
theorem d_X7_remembers_9 : decode mX7_remembers.2.1 9 = .ok (.aload_n 0, 1) := by decide +kernel
theorem d_X7_remembers_10 : decode mX7_remembers.2.1 10 = .ok (.getfield 16, 3) := by decide +kernel
theorem d_X7_remembers_13 : decode mX7_remembers.2.1 13 = .ok (.iload_n 1, 1) := by decide +kernel
theorem d_X7_remembers_14 : decode mX7_remembers.2.1 14 = .ok (.aload_n 0, 1) := by decide +kernel
theorem d_X7_remembers_15 : decode mX7_remembers.2.1 15 = .ok (.getfield 7, 3) := by decide +kernel
theorem d_X7_remembers_18 : decode mX7_remembers.2.1 18 = .ok (.iload_n 1, 1) := by decide +kernel
theorem d_X7_remembers_19 : decode mX7_remembers.2.1 19 = .ok (.iaload, 1) := by decide +kernel
theorem d_X7_remembers_20 : decode mX7_remembers.2.1 20 = .ok (.iastore, 1) := by decide +kernel
theorem d_X7_remembers_21 : decode mX7_remembers.2.1 21 = .ok (.iinc 1 1, 3) := by decide +kernel
theorem d_X7_remembers_24 : decode mX7_remembers.2.1 24 = .ok (.goto (-22), 3) := by decide +kernel
theorem d_X7_remembers_27 : decode mX7_remembers.2.1 27 = .ok (.return_, 1) := by decide +kernel
def T_X7_remembers_2 (Q : Mem → Prop) : Nat → Nat → Int32 → Mem → Prop
  | 0, _, _, _ => False
  | n + 1, v0, v1, M => if (552 : Int32) ≤ v1 then (Q M) else ((kd v0 = 7) ∧ (kd (rf v0 1) = 9) ∧ (vp_in v1 (ln (rf v0 1))) ∧ (kd (rf v0 3) = 9) ∧ (vp_in v1 (ln (rf v0 3))) ∧ ∀ M6 : Mem, M6 = mset M (rf v0 3) (Int32.toNatClampNeg v1) (M.1 (rf v0 1) (Int32.toNatClampNeg v1)) → ∀ x7 : Int32, x7 = v1 + 1 → (T_X7_remembers_2 Q n) v0 x7 M6)
set_option maxRecDepth 100000 in
set_option maxHeartbeats 4000000 in
theorem B_X7_remembers_2 {g : GG} (Q : Mem → Prop) : ∀ (n : Nat) (v0 : Nat) (v1 : Int32) (M : Mem), T_X7_remembers_2 Q n v0 v1 M → WP g 9 mX7_remembers 2 [some (.ref (g.1 + v0)), some (.int v1)] [] M 0 (oV Q noX) := by
  intro n
  induction n with
  | zero => intro v0 v1 M h; exact h.elim
  | succ n hκ2 =>
    intro v0 v1 M h
    unfold T_X7_remembers_2 at h
    refine R_iload_n (pc := 2) d_X7_remembers_2 rfl rfl ?_
    refine R_sipush (pc := 3) (v := 552) d_X7_remembers_3 (by decide) ?_
    refine R_icmp_ge (pc := 6) (tgt := 27) d_X7_remembers_6 (by decide) (fun c => ?_) (fun c => ?_)
    · rw [if_pos c] at h
      exact R_ret (pc := 27) d_X7_remembers_27 h
    · rw [if_neg c] at h
      refine R_aload_n (pc := 9) d_X7_remembers_9 rfl rfl ?_
      obtain ⟨k1, h⟩ := h
      refine R_getR (pc := 10) fld_RX7_16 rfl rfl k1 d_X7_remembers_10 ?_
      refine R_iload_n (pc := 13) d_X7_remembers_13 rfl rfl ?_
      refine R_aload_n (pc := 14) d_X7_remembers_14 rfl rfl ?_
      refine R_getR (pc := 15) fld_RX7_7 rfl rfl k1 d_X7_remembers_15 ?_
      refine R_iload_n (pc := 18) d_X7_remembers_18 rfl rfl ?_
      obtain ⟨k2, h⟩ := h
      obtain ⟨k3, h⟩ := h
      refine R_iald (pc := 19) k2 k3 d_X7_remembers_19 ?_
      obtain ⟨k4, h⟩ := h
      obtain ⟨k5, h⟩ := h
      refine R_iast (pc := 20) k4 k5 d_X7_remembers_20 (N_M (fun M6 eM6 => ?_))
      have h := h M6 eM6
      obtain ⟨x7, ex7⟩ : ∃ z : Int32, z = v1 + 1 := ⟨_, rfl⟩
      have h := h x7 ex7
      refine R_iinc (pc := 21) (v := x7) (L' := [some (.ref (g.1 + v0)), some (.int x7)]) d_X7_remembers_21 rfl (by rw [ex7]; rfl) (by decide) rfl ?_
      refine R_goto (pc := 24) (tgt := 2) d_X7_remembers_24 (by decide) ?_
      exact WP_sub (hκ2 v0 x7 M6 h) (by decide) (ls_s (ls_s ls_0))
def T_X7_remembers (Q : Mem → Prop) (v0 : Nat) (M : Mem) : Prop := (∃ N : Nat, T_X7_remembers_2 Q N v0 0 M)
set_option maxRecDepth 100000 in
set_option maxHeartbeats 4000000 in
theorem c_X7_remembers {g : GG} (v0 : Nat) (M : Mem) (Q : Mem → Prop) (h : T_X7_remembers Q v0 M) : CT g 9 mX7_remembers [.ref (g.1 + v0)] M 0 (oV Q noX) := by
  refine CT_of (L := [some (.ref (g.1 + v0)), none]) (by decide) rfl (Nat.le_of_ble_eq_true rfl) (ro_V rfl) rfl ?_
  unfold T_X7_remembers at h
  refine R_iconst (pc := 0) (v := 0) d_X7_remembers_0 (by decide) ?_
  refine R_istore_n (pc := 1) (L' := [some (.ref (g.1 + v0)), some (.int 0)]) d_X7_remembers_1 rfl (by decide) rfl ?_
  obtain ⟨N, h⟩ := h
  exact WP_sub (B_X7_remembers_2 Q N v0 0 M h) (by decide) (ls_s (ls_s ls_0))
/-! X7_keeps -/
theorem d_X7_keeps_0 : decode mX7_keeps.2.1 0 = .ok (.aload_n 0, 1) := by decide +kernel
theorem d_X7_keeps_1 : decode mX7_keeps.2.1 1 = .ok (.getfield 53, 3) := by decide +kernel
theorem d_X7_keeps_4 : decode mX7_keeps.2.1 4 = .ok (.bipush 8, 2) := by decide +kernel
theorem d_X7_keeps_6 : decode mX7_keeps.2.1 6 = .ok (.if_icmp .ne 37, 3) := by decide +kernel
theorem d_X7_keeps_9 : decode mX7_keeps.2.1 9 = .ok (.iconst 0, 1) := by decide +kernel
theorem d_X7_keeps_10 : decode mX7_keeps.2.1 10 = .ok (.istore_n 1, 1) := by decide +kernel
theorem d_X7_keeps_11 : decode mX7_keeps.2.1 11 = .ok (.iload_n 1, 1) := by decide +kernel
theorem d_X7_keeps_12 : decode mX7_keeps.2.1 12 = .ok (.sipush 3864, 3) := by decide +kernel
theorem d_X7_keeps_15 : decode mX7_keeps.2.1 15 = .ok (.if_icmp .ge 25, 3) := by decide +kernel
theorem d_X7_keeps_18 : decode mX7_keeps.2.1 18 = .ok (.aload_n 0, 1) := by decide +kernel
theorem d_X7_keeps_19 : decode mX7_keeps.2.1 19 = .ok (.getfield 19, 3) := by decide +kernel
theorem d_X7_keeps_22 : decode mX7_keeps.2.1 22 = .ok (.iload_n 1, 1) := by decide +kernel
theorem d_X7_keeps_23 : decode mX7_keeps.2.1 23 = .ok (.aload_n 0, 1) := by decide +kernel
theorem d_X7_keeps_24 : decode mX7_keeps.2.1 24 = .ok (.getfield 19, 3) := by decide +kernel
theorem d_X7_keeps_27 : decode mX7_keeps.2.1 27 = .ok (.iload_n 1, 1) := by decide +kernel
theorem d_X7_keeps_28 : decode mX7_keeps.2.1 28 = .ok (.sipush 552, 3) := by decide +kernel
theorem d_X7_keeps_31 : decode mX7_keeps.2.1 31 = .ok (.iadd, 1) := by decide +kernel
theorem d_X7_keeps_32 : decode mX7_keeps.2.1 32 = .ok (.iaload, 1) := by decide +kernel
theorem d_X7_keeps_33 : decode mX7_keeps.2.1 33 = .ok (.iastore, 1) := by decide +kernel
theorem d_X7_keeps_34 : decode mX7_keeps.2.1 34 = .ok (.iinc 1 1, 3) := by decide +kernel
theorem d_X7_keeps_37 : decode mX7_keeps.2.1 37 = .ok (.goto (-26), 3) := by decide +kernel
theorem d_X7_keeps_40 : decode mX7_keeps.2.1 40 = .ok (.goto 13, 3) := by decide +kernel
theorem d_X7_keeps_43 : decode mX7_keeps.2.1 43 = .ok (.aload_n 0, 1) := by decide +kernel
theorem d_X7_keeps_44 : decode mX7_keeps.2.1 44 = .ok (.dup, 1) := by decide +kernel
theorem d_X7_keeps_45 : decode mX7_keeps.2.1 45 = .ok (.getfield 53, 3) := by decide +kernel
theorem d_X7_keeps_48 : decode mX7_keeps.2.1 48 = .ok (.iconst 1, 1) := by decide +kernel
theorem d_X7_keeps_49 : decode mX7_keeps.2.1 49 = .ok (.iadd, 1) := by decide +kernel
theorem d_X7_keeps_50 : decode mX7_keeps.2.1 50 = .ok (.putfield 53, 3) := by decide +kernel
theorem d_X7_keeps_53 : decode mX7_keeps.2.1 53 = .ok (.iconst 0, 1) := by decide +kernel
theorem d_X7_keeps_54 : decode mX7_keeps.2.1 54 = .ok (.istore_n 1, 1) := by decide +kernel
theorem d_X7_keeps_55 : decode mX7_keeps.2.1 55 = .ok (.iload_n 1, 1) := by decide +kernel
theorem d_X7_keeps_56 : decode mX7_keeps.2.1 56 = .ok (.sipush 552, 3) := by decide +kernel
theorem d_X7_keeps_59 : decode mX7_keeps.2.1 59 = .ok (.if_icmp .ge 32, 3) := by decide +kernel
theorem d_X7_keeps_62 : decode mX7_keeps.2.1 62 = .ok (.aload_n 0, 1) := by decide +kernel
theorem d_X7_keeps_63 : decode mX7_keeps.2.1 63 = .ok (.getfield 19, 3) := by decide +kernel
theorem d_X7_keeps_66 : decode mX7_keeps.2.1 66 = .ok (.sipush 552, 3) := by decide +kernel
theorem d_X7_keeps_69 : decode mX7_keeps.2.1 69 = .ok (.aload_n 0, 1) := by decide +kernel
theorem d_X7_keeps_70 : decode mX7_keeps.2.1 70 = .ok (.getfield 53, 3) := by decide +kernel
theorem d_X7_keeps_73 : decode mX7_keeps.2.1 73 = .ok (.iconst 1, 1) := by decide +kernel
theorem d_X7_keeps_74 : decode mX7_keeps.2.1 74 = .ok (.isub, 1) := by decide +kernel
theorem d_X7_keeps_75 : decode mX7_keeps.2.1 75 = .ok (.imul, 1) := by decide +kernel
theorem d_X7_keeps_76 : decode mX7_keeps.2.1 76 = .ok (.iload_n 1, 1) := by decide +kernel
theorem d_X7_keeps_77 : decode mX7_keeps.2.1 77 = .ok (.iadd, 1) := by decide +kernel
theorem d_X7_keeps_78 : decode mX7_keeps.2.1 78 = .ok (.aload_n 0, 1) := by decide +kernel
theorem d_X7_keeps_79 : decode mX7_keeps.2.1 79 = .ok (.getfield 16, 3) := by decide +kernel
theorem d_X7_keeps_82 : decode mX7_keeps.2.1 82 = .ok (.iload_n 1, 1) := by decide +kernel
theorem d_X7_keeps_83 : decode mX7_keeps.2.1 83 = .ok (.iaload, 1) := by decide +kernel
theorem d_X7_keeps_84 : decode mX7_keeps.2.1 84 = .ok (.iastore, 1) := by decide +kernel
theorem d_X7_keeps_85 : decode mX7_keeps.2.1 85 = .ok (.iinc 1 1, 3) := by decide +kernel
theorem d_X7_keeps_88 : decode mX7_keeps.2.1 88 = .ok (.goto (-33), 3) := by decide +kernel
theorem d_X7_keeps_91 : decode mX7_keeps.2.1 91 = .ok (.return_, 1) := by decide +kernel
def T_X7_keeps_55 (Q : Mem → Prop) : Nat → Nat → Int32 → Mem → Prop
  | 0, _, _, _ => False
  | n + 1, v0, v1, M => if (552 : Int32) ≤ v1 then (Q M) else ((kd v0 = 7) ∧ (kd (rf v0 3) = 9) ∧ (vp_in v1 (ln (rf v0 3))) ∧ (kd (rf v0 4) = 9) ∧ (vp_in ((552 * ((M.1 v0 5) - 1)) + v1) (ln (rf v0 4))) ∧ ∀ M6 : Mem, M6 = mset M (rf v0 4) (Int32.toNatClampNeg ((552 * ((M.1 v0 5) - 1)) + v1)) (M.1 (rf v0 3) (Int32.toNatClampNeg v1)) → ∀ x7 : Int32, x7 = v1 + 1 → (T_X7_keeps_55 Q n) v0 x7 M6)
set_option maxRecDepth 100000 in
set_option maxHeartbeats 4000000 in
theorem B_X7_keeps_55 {g : GG} (Q : Mem → Prop) : ∀ (n : Nat) (v0 : Nat) (v1 : Int32) (M : Mem), T_X7_keeps_55 Q n v0 v1 M → WP g 9 mX7_keeps 55 [some (.ref (g.1 + v0)), some (.int v1)] [] M 0 (oV Q noX) := by
  intro n
  induction n with
  | zero => intro v0 v1 M h; exact h.elim
  | succ n hκ55 =>
    intro v0 v1 M h
    unfold T_X7_keeps_55 at h
    refine R_iload_n (pc := 55) d_X7_keeps_55 rfl rfl ?_
    refine R_sipush (pc := 56) (v := 552) d_X7_keeps_56 (by decide) ?_
    refine R_icmp_ge (pc := 59) (tgt := 91) d_X7_keeps_59 (by decide) (fun c => ?_) (fun c => ?_)
    · rw [if_pos c] at h
      exact R_ret (pc := 91) d_X7_keeps_91 h
    · rw [if_neg c] at h
      refine R_aload_n (pc := 62) d_X7_keeps_62 rfl rfl ?_
      obtain ⟨k1, h⟩ := h
      refine R_getR (pc := 63) fld_RX7_19 rfl rfl k1 d_X7_keeps_63 ?_
      refine R_sipush (pc := 66) (v := 552) d_X7_keeps_66 (by decide) ?_
      refine R_aload_n (pc := 69) d_X7_keeps_69 rfl rfl ?_
      refine R_getI (pc := 70) fld_RX7_53 rfl rfl k1 d_X7_keeps_70 ?_
      refine R_iconst (pc := 73) (v := 1) d_X7_keeps_73 (by decide) ?_
      refine R_isub (pc := 74) d_X7_keeps_74 ?_
      refine R_imul (pc := 75) d_X7_keeps_75 ?_
      refine R_iload_n (pc := 76) d_X7_keeps_76 rfl rfl ?_
      refine R_iadd (pc := 77) d_X7_keeps_77 ?_
      refine R_aload_n (pc := 78) d_X7_keeps_78 rfl rfl ?_
      refine R_getR (pc := 79) fld_RX7_16 rfl rfl k1 d_X7_keeps_79 ?_
      refine R_iload_n (pc := 82) d_X7_keeps_82 rfl rfl ?_
      obtain ⟨k2, h⟩ := h
      obtain ⟨k3, h⟩ := h
      refine R_iald (pc := 83) k2 k3 d_X7_keeps_83 ?_
      obtain ⟨k4, h⟩ := h
      obtain ⟨k5, h⟩ := h
      refine R_iast (pc := 84) k4 k5 d_X7_keeps_84 (N_M (fun M6 eM6 => ?_))
      have h := h M6 eM6
      obtain ⟨x7, ex7⟩ : ∃ z : Int32, z = v1 + 1 := ⟨_, rfl⟩
      have h := h x7 ex7
      refine R_iinc (pc := 85) (v := x7) (L' := [some (.ref (g.1 + v0)), some (.int x7)]) d_X7_keeps_85 rfl (by rw [ex7]; rfl) (by decide) rfl ?_
      refine R_goto (pc := 88) (tgt := 55) d_X7_keeps_88 (by decide) ?_
      exact WP_sub (hκ55 v0 x7 M6 h) (by decide) (ls_s (ls_s ls_0))
def T_X7_keeps_53 (Q : Mem → Prop) (v0 : Nat) (M : Mem) : Prop := (∃ N : Nat, T_X7_keeps_55 Q N v0 0 M)
set_option maxRecDepth 100000 in
set_option maxHeartbeats 4000000 in
theorem B_X7_keeps_53 {g : GG} (Q : Mem → Prop) (v0 : Nat) (M : Mem) (h : T_X7_keeps_53 Q v0 M) : WP g 9 mX7_keeps 53 [some (.ref (g.1 + v0)), none] [] M 0 (oV Q noX) := by
  unfold T_X7_keeps_53 at h
  refine R_iconst (pc := 53) (v := 0) d_X7_keeps_53 (by decide) ?_
  refine R_istore_n (pc := 54) (L' := [some (.ref (g.1 + v0)), some (.int 0)]) d_X7_keeps_54 rfl (by decide) rfl ?_
  obtain ⟨N, h⟩ := h
  exact WP_sub (B_X7_keeps_55 Q N v0 0 M h) (by decide) (ls_s (ls_s ls_0))
def T_X7_keeps_11 (Q : Mem → Prop) : Nat → Nat → Int32 → Mem → Prop
  | 0, _, _, _ => False
  | n + 1, v0, v1, M => if (3864 : Int32) ≤ v1 then (T_X7_keeps_53 Q v0 M) else ((kd v0 = 7) ∧ (kd (rf v0 4) = 9) ∧ (vp_in (v1 + 552) (ln (rf v0 4))) ∧ (vp_in v1 (ln (rf v0 4))) ∧ ∀ M5 : Mem, M5 = mset M (rf v0 4) (Int32.toNatClampNeg v1) (M.1 (rf v0 4) (Int32.toNatClampNeg (v1 + 552))) → ∀ x6 : Int32, x6 = v1 + 1 → (T_X7_keeps_11 Q n) v0 x6 M5)
set_option maxRecDepth 100000 in
set_option maxHeartbeats 4000000 in
theorem B_X7_keeps_11 {g : GG} (Q : Mem → Prop) : ∀ (n : Nat) (v0 : Nat) (v1 : Int32) (M : Mem), T_X7_keeps_11 Q n v0 v1 M → WP g 9 mX7_keeps 11 [some (.ref (g.1 + v0)), some (.int v1)] [] M 0 (oV Q noX) := by
  intro n
  induction n with
  | zero => intro v0 v1 M h; exact h.elim
  | succ n hκ11 =>
    intro v0 v1 M h
    unfold T_X7_keeps_11 at h
    refine R_iload_n (pc := 11) d_X7_keeps_11 rfl rfl ?_
    refine R_sipush (pc := 12) (v := 3864) d_X7_keeps_12 (by decide) ?_
    refine R_icmp_ge (pc := 15) (tgt := 40) d_X7_keeps_15 (by decide) (fun c => ?_) (fun c => ?_)
    · rw [if_pos c] at h
      refine R_goto (pc := 40) (tgt := 53) d_X7_keeps_40 (by decide) ?_
      exact WP_sub (B_X7_keeps_53 Q v0 M h) (by decide) (ls_s (ls_n ls_0))
    · rw [if_neg c] at h
      refine R_aload_n (pc := 18) d_X7_keeps_18 rfl rfl ?_
      obtain ⟨k1, h⟩ := h
      refine R_getR (pc := 19) fld_RX7_19 rfl rfl k1 d_X7_keeps_19 ?_
      refine R_iload_n (pc := 22) d_X7_keeps_22 rfl rfl ?_
      refine R_aload_n (pc := 23) d_X7_keeps_23 rfl rfl ?_
      refine R_getR (pc := 24) fld_RX7_19 rfl rfl k1 d_X7_keeps_24 ?_
      refine R_iload_n (pc := 27) d_X7_keeps_27 rfl rfl ?_
      refine R_sipush (pc := 28) (v := 552) d_X7_keeps_28 (by decide) ?_
      refine R_iadd (pc := 31) d_X7_keeps_31 ?_
      obtain ⟨k2, h⟩ := h
      obtain ⟨k3, h⟩ := h
      refine R_iald (pc := 32) k2 k3 d_X7_keeps_32 ?_
      obtain ⟨k4, h⟩ := h
      refine R_iast (pc := 33) k2 k4 d_X7_keeps_33 (N_M (fun M5 eM5 => ?_))
      have h := h M5 eM5
      obtain ⟨x6, ex6⟩ : ∃ z : Int32, z = v1 + 1 := ⟨_, rfl⟩
      have h := h x6 ex6
      refine R_iinc (pc := 34) (v := x6) (L' := [some (.ref (g.1 + v0)), some (.int x6)]) d_X7_keeps_34 rfl (by rw [ex6]; rfl) (by decide) rfl ?_
      refine R_goto (pc := 37) (tgt := 11) d_X7_keeps_37 (by decide) ?_
      exact WP_sub (hκ11 v0 x6 M5 h) (by decide) (ls_s (ls_s ls_0))
def T_X7_keeps (Q : Mem → Prop) (v0 : Nat) (M : Mem) : Prop := (kd v0 = 7) ∧ if (M.1 v0 5) = (8 : Int32) then ((∃ N : Nat, T_X7_keeps_11 Q N v0 0 M)) else (∀ M2 : Mem, M2 = mset M v0 5 ((M.1 v0 5) + 1) → T_X7_keeps_53 Q v0 M2)
set_option maxRecDepth 100000 in
set_option maxHeartbeats 4000000 in
theorem c_X7_keeps {g : GG} (v0 : Nat) (M : Mem) (Q : Mem → Prop) (h : T_X7_keeps Q v0 M) : CT g 9 mX7_keeps [.ref (g.1 + v0)] M 0 (oV Q noX) := by
  refine CT_of (L := [some (.ref (g.1 + v0)), none]) (by decide) rfl (Nat.le_of_ble_eq_true rfl) (ro_V rfl) rfl ?_
  unfold T_X7_keeps at h
  refine R_aload_n (pc := 0) d_X7_keeps_0 rfl rfl ?_
  obtain ⟨k1, h⟩ := h
  refine R_getI (pc := 1) fld_RX7_53 rfl rfl k1 d_X7_keeps_1 ?_
  refine R_bipush (pc := 4) (v := 8) d_X7_keeps_4 (by decide) ?_
  refine R_icmp_ne (pc := 6) (tgt := 43) d_X7_keeps_6 (by decide) (fun c => ?_) (fun c => ?_)
  · rw [if_neg c] at h
    refine R_aload_n (pc := 43) d_X7_keeps_43 rfl rfl ?_
    refine R_dup (pc := 44) d_X7_keeps_44 rfl ?_
    refine R_getI (pc := 45) fld_RX7_53 rfl rfl k1 d_X7_keeps_45 ?_
    refine R_iconst (pc := 48) (v := 1) d_X7_keeps_48 (by decide) ?_
    refine R_iadd (pc := 49) d_X7_keeps_49 ?_
    refine R_putI (pc := 50) fld_RX7_53 rfl rfl rfl k1 rfl rfl d_X7_keeps_50 (N_M (fun M2 eM2 => ?_))
    have h := h M2 eM2
    exact WP_sub (B_X7_keeps_53 Q v0 M2 h) (by decide) (ls_s (ls_n ls_0))
  · rw [if_pos c] at h
    refine R_iconst (pc := 9) (v := 0) d_X7_keeps_9 (by decide) ?_
    refine R_istore_n (pc := 10) (L' := [some (.ref (g.1 + v0)), some (.int 0)]) d_X7_keeps_10 rfl (by decide) rfl ?_
    obtain ⟨N, h⟩ := h
    exact WP_sub (B_X7_keeps_11 Q N v0 0 M h) (by decide) (ls_s (ls_s ls_0))
/-! X7_notes -/
theorem d_X7_notes_0 : decode mX7_notes.2.1 0 = .ok (.aload_n 0, 1) := by decide +kernel
theorem d_X7_notes_1 : decode mX7_notes.2.1 1 = .ok (.getfield 7, 3) := by decide +kernel
theorem d_X7_notes_4 : decode mX7_notes.2.1 4 = .ok (.bipush 7, 2) := by decide +kernel
theorem d_X7_notes_6 : decode mX7_notes.2.1 6 = .ok (.iaload, 1) := by decide +kernel
theorem d_X7_notes_7 : decode mX7_notes.2.1 7 = .ok (.bipush 20, 2) := by decide +kernel
theorem d_X7_notes_9 : decode mX7_notes.2.1 9 = .ok (.if_icmp .ne 42, 3) := by decide +kernel
theorem d_X7_notes_12 : decode mX7_notes.2.1 12 = .ok (.iconst 0, 1) := by decide +kernel
theorem d_X7_notes_13 : decode mX7_notes.2.1 13 = .ok (.istore_n 3, 1) := by decide +kernel
theorem d_X7_notes_14 : decode mX7_notes.2.1 14 = .ok (.iload_n 3, 1) := by decide +kernel
theorem d_X7_notes_15 : decode mX7_notes.2.1 15 = .ok (.bipush 38, 2) := by decide +kernel
theorem d_X7_notes_17 : decode mX7_notes.2.1 17 = .ok (.if_icmp .ge 31, 3) := by decide +kernel
theorem d_X7_notes_20 : decode mX7_notes.2.1 20 = .ok (.aload_n 0, 1) := by decide +kernel
theorem d_X7_notes_21 : decode mX7_notes.2.1 21 = .ok (.getfield 7, 3) := by decide +kernel
theorem d_X7_notes_24 : decode mX7_notes.2.1 24 = .ok (.sipush 512, 3) := by decide +kernel
theorem d_X7_notes_27 : decode mX7_notes.2.1 27 = .ok (.iload_n 3, 1) := by decide +kernel
theorem d_X7_notes_28 : decode mX7_notes.2.1 28 = .ok (.iadd, 1) := by decide +kernel
theorem d_X7_notes_29 : decode mX7_notes.2.1 29 = .ok (.aload_n 0, 1) := by decide +kernel
theorem d_X7_notes_30 : decode mX7_notes.2.1 30 = .ok (.getfield 7, 3) := by decide +kernel
theorem d_X7_notes_33 : decode mX7_notes.2.1 33 = .ok (.sipush 512, 3) := by decide +kernel
theorem d_X7_notes_36 : decode mX7_notes.2.1 36 = .ok (.iload_n 3, 1) := by decide +kernel
theorem d_X7_notes_37 : decode mX7_notes.2.1 37 = .ok (.iadd, 1) := by decide +kernel
theorem d_X7_notes_38 : decode mX7_notes.2.1 38 = .ok (.iconst 2, 1) := by decide +kernel
theorem d_X7_notes_39 : decode mX7_notes.2.1 39 = .ok (.iadd, 1) := by decide +kernel
theorem d_X7_notes_40 : decode mX7_notes.2.1 40 = .ok (.iaload, 1) := by decide +kernel
theorem d_X7_notes_41 : decode mX7_notes.2.1 41 = .ok (.iastore, 1) := by decide +kernel
theorem d_X7_notes_42 : decode mX7_notes.2.1 42 = .ok (.iinc 3 1, 3) := by decide +kernel
theorem d_X7_notes_45 : decode mX7_notes.2.1 45 = .ok (.goto (-31), 3) := by decide +kernel
theorem d_X7_notes_48 : decode mX7_notes.2.1 48 = .ok (.goto 14, 3) := by decide +kernel
theorem d_X7_notes_51 : decode mX7_notes.2.1 51 = .ok (.aload_n 0, 1) := by decide +kernel
theorem d_X7_notes_52 : decode mX7_notes.2.1 52 = .ok (.getfield 7, 3) := by decide +kernel
theorem d_X7_notes_55 : decode mX7_notes.2.1 55 = .ok (.bipush 7, 2) := by decide +kernel
theorem d_X7_notes_57 : decode mX7_notes.2.1 57 = .ok (.dup2, 1) := by decide +kernel
theorem d_X7_notes_58 : decode mX7_notes.2.1 58 = .ok (.iaload, 1) := by decide +kernel
theorem d_X7_notes_59 : decode mX7_notes.2.1 59 = .ok (.iconst 1, 1) := by decide +kernel
theorem d_X7_notes_60 : decode mX7_notes.2.1 60 = .ok (.iadd, 1) := by decide +kernel
theorem d_X7_notes_61 : decode mX7_notes.2.1 61 = .ok (.iastore, 1) := by decide +kernel
theorem d_X7_notes_62 : decode mX7_notes.2.1 62 = .ok (.aload_n 0, 1) := by decide +kernel
theorem d_X7_notes_63 : decode mX7_notes.2.1 63 = .ok (.getfield 7, 3) := by decide +kernel
theorem d_X7_notes_66 : decode mX7_notes.2.1 66 = .ok (.sipush 512, 3) := by decide +kernel
theorem d_X7_notes_69 : decode mX7_notes.2.1 69 = .ok (.iconst 2, 1) := by decide +kernel
theorem d_X7_notes_70 : decode mX7_notes.2.1 70 = .ok (.aload_n 0, 1) := by decide +kernel
theorem d_X7_notes_71 : decode mX7_notes.2.1 71 = .ok (.getfield 7, 3) := by decide +kernel
theorem d_X7_notes_74 : decode mX7_notes.2.1 74 = .ok (.bipush 7, 2) := by decide +kernel
theorem d_X7_notes_76 : decode mX7_notes.2.1 76 = .ok (.iaload, 1) := by decide +kernel
theorem d_X7_notes_77 : decode mX7_notes.2.1 77 = .ok (.imul, 1) := by decide +kernel
theorem d_X7_notes_78 : decode mX7_notes.2.1 78 = .ok (.iadd, 1) := by decide +kernel
theorem d_X7_notes_79 : decode mX7_notes.2.1 79 = .ok (.iconst 2, 1) := by decide +kernel
theorem d_X7_notes_80 : decode mX7_notes.2.1 80 = .ok (.isub, 1) := by decide +kernel
theorem d_X7_notes_81 : decode mX7_notes.2.1 81 = .ok (.iload_n 1, 1) := by decide +kernel
theorem d_X7_notes_82 : decode mX7_notes.2.1 82 = .ok (.iastore, 1) := by decide +kernel
theorem d_X7_notes_83 : decode mX7_notes.2.1 83 = .ok (.aload_n 0, 1) := by decide +kernel
theorem d_X7_notes_84 : decode mX7_notes.2.1 84 = .ok (.getfield 7, 3) := by decide +kernel
theorem d_X7_notes_87 : decode mX7_notes.2.1 87 = .ok (.sipush 512, 3) := by decide +kernel
theorem d_X7_notes_90 : decode mX7_notes.2.1 90 = .ok (.iconst 2, 1) := by decide +kernel
theorem d_X7_notes_91 : decode mX7_notes.2.1 91 = .ok (.aload_n 0, 1) := by decide +kernel
theorem d_X7_notes_92 : decode mX7_notes.2.1 92 = .ok (.getfield 7, 3) := by decide +kernel
theorem d_X7_notes_95 : decode mX7_notes.2.1 95 = .ok (.bipush 7, 2) := by decide +kernel
theorem d_X7_notes_97 : decode mX7_notes.2.1 97 = .ok (.iaload, 1) := by decide +kernel
theorem d_X7_notes_98 : decode mX7_notes.2.1 98 = .ok (.imul, 1) := by decide +kernel
theorem d_X7_notes_99 : decode mX7_notes.2.1 99 = .ok (.iadd, 1) := by decide +kernel
theorem d_X7_notes_100 : decode mX7_notes.2.1 100 = .ok (.iconst 1, 1) := by decide +kernel
theorem d_X7_notes_101 : decode mX7_notes.2.1 101 = .ok (.isub, 1) := by decide +kernel
theorem d_X7_notes_102 : decode mX7_notes.2.1 102 = .ok (.iload_n 2, 1) := by decide +kernel
theorem d_X7_notes_103 : decode mX7_notes.2.1 103 = .ok (.iastore, 1) := by decide +kernel
theorem d_X7_notes_104 : decode mX7_notes.2.1 104 = .ok (.aload_n 0, 1) := by decide +kernel
theorem d_X7_notes_105 : decode mX7_notes.2.1 105 = .ok (.dup, 1) := by decide +kernel
theorem d_X7_notes_106 : decode mX7_notes.2.1 106 = .ok (.getfield 56, 3) := by decide +kernel
theorem d_X7_notes_109 : decode mX7_notes.2.1 109 = .ok (.iconst 1, 1) := by decide +kernel
theorem d_X7_notes_110 : decode mX7_notes.2.1 110 = .ok (.iadd, 1) := by decide +kernel
theorem d_X7_notes_111 : decode mX7_notes.2.1 111 = .ok (.putfield 56, 3) := by decide +kernel
theorem d_X7_notes_114 : decode mX7_notes.2.1 114 = .ok (.return_, 1) := by decide +kernel
def T_X7_notes_62 (Q : Mem → Prop) (v0 : Nat) (v1 : Int32) (v2 : Int32) (M : Mem) : Prop := (kd v0 = 7) ∧ (kd (rf v0 1) = 9) ∧ (vp_in 7 (ln (rf v0 1))) ∧ (vp_in ((512 + (2 * (M.1 (rf v0 1) (Int32.toNatClampNeg 7)))) - 2) (ln (rf v0 1))) ∧ ∀ M5 : Mem, M5 = mset M (rf v0 1) (Int32.toNatClampNeg ((512 + (2 * (M.1 (rf v0 1) (Int32.toNatClampNeg 7)))) - 2)) v1 → (vp_in ((512 + (2 * (M5.1 (rf v0 1) (Int32.toNatClampNeg 7)))) - 1) (ln (rf v0 1))) ∧ ∀ M7 : Mem, M7 = mset M5 (rf v0 1) (Int32.toNatClampNeg ((512 + (2 * (M5.1 (rf v0 1) (Int32.toNatClampNeg 7)))) - 1)) v2 → ∀ M8 : Mem, M8 = mset M7 v0 12 ((M7.1 v0 12) + 1) → Q M8
set_option maxRecDepth 100000 in
set_option maxHeartbeats 4000000 in
theorem B_X7_notes_62 {g : GG} (Q : Mem → Prop) (v0 : Nat) (v1 : Int32) (v2 : Int32) (M : Mem) (h : T_X7_notes_62 Q v0 v1 v2 M) : WP g 9 mX7_notes 62 [some (.ref (g.1 + v0)), some (.int v1), some (.int v2), none] [] M 0 (oV Q noX) := by
  unfold T_X7_notes_62 at h
  refine R_aload_n (pc := 62) d_X7_notes_62 rfl rfl ?_
  obtain ⟨k1, h⟩ := h
  refine R_getR (pc := 63) fld_RX7_7 rfl rfl k1 d_X7_notes_63 ?_
  refine R_sipush (pc := 66) (v := 512) d_X7_notes_66 (by decide) ?_
  refine R_iconst (pc := 69) (v := 2) d_X7_notes_69 (by decide) ?_
  refine R_aload_n (pc := 70) d_X7_notes_70 rfl rfl ?_
  refine R_getR (pc := 71) fld_RX7_7 rfl rfl k1 d_X7_notes_71 ?_
  refine R_bipush (pc := 74) (v := 7) d_X7_notes_74 (by decide) ?_
  obtain ⟨k2, h⟩ := h
  obtain ⟨k3, h⟩ := h
  refine R_iald (pc := 76) k2 k3 d_X7_notes_76 ?_
  refine R_imul (pc := 77) d_X7_notes_77 ?_
  refine R_iadd (pc := 78) d_X7_notes_78 ?_
  refine R_iconst (pc := 79) (v := 2) d_X7_notes_79 (by decide) ?_
  refine R_isub (pc := 80) d_X7_notes_80 ?_
  refine R_iload_n (pc := 81) d_X7_notes_81 rfl rfl ?_
  obtain ⟨k4, h⟩ := h
  refine R_iast (pc := 82) k2 k4 d_X7_notes_82 (N_M (fun M5 eM5 => ?_))
  have h := h M5 eM5
  refine R_aload_n (pc := 83) d_X7_notes_83 rfl rfl ?_
  refine R_getR (pc := 84) fld_RX7_7 rfl rfl k1 d_X7_notes_84 ?_
  refine R_sipush (pc := 87) (v := 512) d_X7_notes_87 (by decide) ?_
  refine R_iconst (pc := 90) (v := 2) d_X7_notes_90 (by decide) ?_
  refine R_aload_n (pc := 91) d_X7_notes_91 rfl rfl ?_
  refine R_getR (pc := 92) fld_RX7_7 rfl rfl k1 d_X7_notes_92 ?_
  refine R_bipush (pc := 95) (v := 7) d_X7_notes_95 (by decide) ?_
  refine R_iald (pc := 97) k2 k3 d_X7_notes_97 ?_
  refine R_imul (pc := 98) d_X7_notes_98 ?_
  refine R_iadd (pc := 99) d_X7_notes_99 ?_
  refine R_iconst (pc := 100) (v := 1) d_X7_notes_100 (by decide) ?_
  refine R_isub (pc := 101) d_X7_notes_101 ?_
  refine R_iload_n (pc := 102) d_X7_notes_102 rfl rfl ?_
  obtain ⟨k6, h⟩ := h
  refine R_iast (pc := 103) k2 k6 d_X7_notes_103 (N_M (fun M7 eM7 => ?_))
  have h := h M7 eM7
  refine R_aload_n (pc := 104) d_X7_notes_104 rfl rfl ?_
  refine R_dup (pc := 105) d_X7_notes_105 rfl ?_
  refine R_getI (pc := 106) fld_RX7_56 rfl rfl k1 d_X7_notes_106 ?_
  refine R_iconst (pc := 109) (v := 1) d_X7_notes_109 (by decide) ?_
  refine R_iadd (pc := 110) d_X7_notes_110 ?_
  refine R_putI (pc := 111) fld_RX7_56 rfl rfl rfl k1 rfl rfl d_X7_notes_111 (N_M (fun M8 eM8 => ?_))
  have h := h M8 eM8
  exact R_ret (pc := 114) d_X7_notes_114 h
def T_X7_notes_14 (Q : Mem → Prop) : Nat → Nat → Int32 → Int32 → Int32 → Mem → Prop
  | 0, _, _, _, _, _ => False
  | n + 1, v0, v1, v2, v3, M => if (38 : Int32) ≤ v3 then (T_X7_notes_62 Q v0 v1 v2 M) else ((kd v0 = 7) ∧ (kd (rf v0 1) = 9) ∧ (vp_in ((512 + v3) + 2) (ln (rf v0 1))) ∧ (vp_in (512 + v3) (ln (rf v0 1))) ∧ ∀ M5 : Mem, M5 = mset M (rf v0 1) (Int32.toNatClampNeg (512 + v3)) (M.1 (rf v0 1) (Int32.toNatClampNeg ((512 + v3) + 2))) → ∀ x6 : Int32, x6 = v3 + 1 → (T_X7_notes_14 Q n) v0 v1 v2 x6 M5)
set_option maxRecDepth 100000 in
set_option maxHeartbeats 4000000 in
theorem B_X7_notes_14 {g : GG} (Q : Mem → Prop) : ∀ (n : Nat) (v0 : Nat) (v1 : Int32) (v2 : Int32) (v3 : Int32) (M : Mem), T_X7_notes_14 Q n v0 v1 v2 v3 M → WP g 9 mX7_notes 14 [some (.ref (g.1 + v0)), some (.int v1), some (.int v2), some (.int v3)] [] M 0 (oV Q noX) := by
  intro n
  induction n with
  | zero => intro v0 v1 v2 v3 M h; exact h.elim
  | succ n hκ14 =>
    intro v0 v1 v2 v3 M h
    unfold T_X7_notes_14 at h
    refine R_iload_n (pc := 14) d_X7_notes_14 rfl rfl ?_
    refine R_bipush (pc := 15) (v := 38) d_X7_notes_15 (by decide) ?_
    refine R_icmp_ge (pc := 17) (tgt := 48) d_X7_notes_17 (by decide) (fun c => ?_) (fun c => ?_)
    · rw [if_pos c] at h
      refine R_goto (pc := 48) (tgt := 62) d_X7_notes_48 (by decide) ?_
      exact WP_sub (B_X7_notes_62 Q v0 v1 v2 M h) (by decide) (ls_s (ls_s (ls_s (ls_n ls_0))))
    · rw [if_neg c] at h
      refine R_aload_n (pc := 20) d_X7_notes_20 rfl rfl ?_
      obtain ⟨k1, h⟩ := h
      refine R_getR (pc := 21) fld_RX7_7 rfl rfl k1 d_X7_notes_21 ?_
      refine R_sipush (pc := 24) (v := 512) d_X7_notes_24 (by decide) ?_
      refine R_iload_n (pc := 27) d_X7_notes_27 rfl rfl ?_
      refine R_iadd (pc := 28) d_X7_notes_28 ?_
      refine R_aload_n (pc := 29) d_X7_notes_29 rfl rfl ?_
      refine R_getR (pc := 30) fld_RX7_7 rfl rfl k1 d_X7_notes_30 ?_
      refine R_sipush (pc := 33) (v := 512) d_X7_notes_33 (by decide) ?_
      refine R_iload_n (pc := 36) d_X7_notes_36 rfl rfl ?_
      refine R_iadd (pc := 37) d_X7_notes_37 ?_
      refine R_iconst (pc := 38) (v := 2) d_X7_notes_38 (by decide) ?_
      refine R_iadd (pc := 39) d_X7_notes_39 ?_
      obtain ⟨k2, h⟩ := h
      obtain ⟨k3, h⟩ := h
      refine R_iald (pc := 40) k2 k3 d_X7_notes_40 ?_
      obtain ⟨k4, h⟩ := h
      refine R_iast (pc := 41) k2 k4 d_X7_notes_41 (N_M (fun M5 eM5 => ?_))
      have h := h M5 eM5
      obtain ⟨x6, ex6⟩ : ∃ z : Int32, z = v3 + 1 := ⟨_, rfl⟩
      have h := h x6 ex6
      refine R_iinc (pc := 42) (v := x6) (L' := [some (.ref (g.1 + v0)), some (.int v1), some (.int v2), some (.int x6)]) d_X7_notes_42 rfl (by rw [ex6]; rfl) (by decide) rfl ?_
      refine R_goto (pc := 45) (tgt := 14) d_X7_notes_45 (by decide) ?_
      exact WP_sub (hκ14 v0 v1 v2 x6 M5 h) (by decide) (ls_s (ls_s (ls_s (ls_s ls_0))))
def T_X7_notes (Q : Mem → Prop) (v0 : Nat) (v1 : Int32) (v2 : Int32) (M : Mem) : Prop := (kd v0 = 7) ∧ (kd (rf v0 1) = 9) ∧ (vp_in 7 (ln (rf v0 1))) ∧ if (M.1 (rf v0 1) (Int32.toNatClampNeg 7)) = (20 : Int32) then ((∃ N : Nat, T_X7_notes_14 Q N v0 v1 v2 0 M)) else (∀ M4 : Mem, M4 = mset M (rf v0 1) (Int32.toNatClampNeg 7) ((M.1 (rf v0 1) (Int32.toNatClampNeg 7)) + 1) → T_X7_notes_62 Q v0 v1 v2 M4)
set_option maxRecDepth 100000 in
set_option maxHeartbeats 4000000 in
theorem c_X7_notes {g : GG} (v0 : Nat) (v1 : Int32) (v2 : Int32) (M : Mem) (Q : Mem → Prop) (h : T_X7_notes Q v0 v1 v2 M) : CT g 9 mX7_notes [.ref (g.1 + v0), .int v1, .int v2] M 0 (oV Q noX) := by
  refine CT_of (L := [some (.ref (g.1 + v0)), some (.int v1), some (.int v2), none]) (by decide) rfl (Nat.le_of_ble_eq_true rfl) (ro_V rfl) rfl ?_
  unfold T_X7_notes at h
  refine R_aload_n (pc := 0) d_X7_notes_0 rfl rfl ?_
  obtain ⟨k1, h⟩ := h
  refine R_getR (pc := 1) fld_RX7_7 rfl rfl k1 d_X7_notes_1 ?_
  refine R_bipush (pc := 4) (v := 7) d_X7_notes_4 (by decide) ?_
  obtain ⟨k2, h⟩ := h
  obtain ⟨k3, h⟩ := h
  refine R_iald (pc := 6) k2 k3 d_X7_notes_6 ?_
  refine R_bipush (pc := 7) (v := 20) d_X7_notes_7 (by decide) ?_
  refine R_icmp_ne (pc := 9) (tgt := 51) d_X7_notes_9 (by decide) (fun c => ?_) (fun c => ?_)
  · rw [if_neg c] at h
    refine R_aload_n (pc := 51) d_X7_notes_51 rfl rfl ?_
    refine R_getR (pc := 52) fld_RX7_7 rfl rfl k1 d_X7_notes_52 ?_
    refine R_bipush (pc := 55) (v := 7) d_X7_notes_55 (by decide) ?_
    refine R_dup2 (pc := 57) d_X7_notes_57 rfl rfl ?_
    refine R_iald (pc := 58) k2 k3 d_X7_notes_58 ?_
    refine R_iconst (pc := 59) (v := 1) d_X7_notes_59 (by decide) ?_
    refine R_iadd (pc := 60) d_X7_notes_60 ?_
    refine R_iast (pc := 61) k2 k3 d_X7_notes_61 (N_M (fun M4 eM4 => ?_))
    have h := h M4 eM4
    exact WP_sub (B_X7_notes_62 Q v0 v1 v2 M4 h) (by decide) (ls_s (ls_s (ls_s (ls_n ls_0))))
  · rw [if_pos c] at h
    refine R_iconst (pc := 12) (v := 0) d_X7_notes_12 (by decide) ?_
    refine R_istore_n (pc := 13) (L' := [some (.ref (g.1 + v0)), some (.int v1), some (.int v2), some (.int 0)]) d_X7_notes_13 rfl (by decide) rfl ?_
    obtain ⟨N, h⟩ := h
    exact WP_sub (B_X7_notes_14 Q N v0 v1 v2 0 M h) (by decide) (ls_s (ls_s (ls_s (ls_s ls_0))))
/-! X7_far -/
theorem d_X7_far_0 : decode mX7_far.2.1 0 = .ok (.aload_n 0, 1) := by decide +kernel
theorem d_X7_far_1 : decode mX7_far.2.1 1 = .ok (.getfield 7, 3) := by decide +kernel
theorem d_X7_far_4 : decode mX7_far.2.1 4 = .ok (.bipush 54, 2) := by decide +kernel
theorem d_X7_far_6 : decode mX7_far.2.1 6 = .ok (.iload_n 1, 1) := by decide +kernel
theorem d_X7_far_7 : decode mX7_far.2.1 7 = .ok (.iadd, 1) := by decide +kernel
theorem d_X7_far_8 : decode mX7_far.2.1 8 = .ok (.iaload, 1) := by decide +kernel
theorem d_X7_far_9 : decode mX7_far.2.1 9 = .ok (.iload_n 2, 1) := by decide +kernel
theorem d_X7_far_10 : decode mX7_far.2.1 10 = .ok (.isub, 1) := by decide +kernel
theorem d_X7_far_11 : decode mX7_far.2.1 11 = .ok (.invokestatic 59, 3) := by decide +kernel
theorem d_X7_far_14 : decode mX7_far.2.1 14 = .ok (.ireturn, 1) := by decide +kernel
def T_X7_far (Q : Int32 → Mem → Prop) (v0 : Nat) (v1 : Int32) (v2 : Int32) (M : Mem) : Prop := (kd v0 = 7) ∧ (kd (rf v0 1) = 9) ∧ (vp_in (54 + v1) (ln (rf v0 1))) ∧ T_X7_size (fun y5 M4 => Q y5 M4)  ((M.1 (rf v0 1) (Int32.toNatClampNeg (54 + v1))) - v2) M
set_option maxRecDepth 100000 in
set_option maxHeartbeats 4000000 in
theorem c_X7_far {g : GG} (v0 : Nat) (v1 : Int32) (v2 : Int32) (M : Mem) (Q : Int32 → Mem → Prop) (h : T_X7_far Q v0 v1 v2 M) : CT g 10 mX7_far [.ref (g.1 + v0), .int v1, .int v2] M 0 (oI Q noX) := by
  refine CT_of (L := [some (.ref (g.1 + v0)), some (.int v1), some (.int v2)]) (by decide) rfl (Nat.le_of_ble_eq_true rfl) (ro_I rfl) rfl ?_
  unfold T_X7_far at h
  refine R_aload_n (pc := 0) d_X7_far_0 rfl rfl ?_
  obtain ⟨k1, h⟩ := h
  refine R_getR (pc := 1) fld_RX7_7 rfl rfl k1 d_X7_far_1 ?_
  refine R_bipush (pc := 4) (v := 54) d_X7_far_4 (by decide) ?_
  refine R_iload_n (pc := 6) d_X7_far_6 rfl rfl ?_
  refine R_iadd (pc := 7) d_X7_far_7 ?_
  obtain ⟨k2, h⟩ := h
  obtain ⟨k3, h⟩ := h
  refine R_iald (pc := 8) k2 k3 d_X7_far_8 ?_
  refine R_iload_n (pc := 9) d_X7_far_9 rfl rfl ?_
  refine R_isub (pc := 10) d_X7_far_10 ?_
  refine R_callS (pc := 11) (As := [.int ((M.1 (rf v0 1) (Int32.toNatClampNeg (54 + v1))) - v2)]) (rest := []) (c_X7_size (g := g) ((M.1 (rf v0 1) (Int32.toNatClampNeg (54 + v1))) - v2) M _ h) rfl rfl cal_RX7_59 sta_X7_size (by decide) (by decide) rfl rfl (Nat.le_of_ble_eq_true rfl) d_X7_far_11 (k_I (fun y5 M4 h => ?_)) (fun _ _ h9 => False.elim h9)
  try dsimp only at h
  exact R_retv (pc := 14) d_X7_far_14 h
/-! X7_isAhead -/
theorem d_X7_isAhead_0 : decode mX7_isAhead.2.1 0 = .ok (.aload_n 0, 1) := by decide +kernel
theorem d_X7_isAhead_1 : decode mX7_isAhead.2.1 1 = .ok (.iload_n 1, 1) := by decide +kernel
theorem d_X7_isAhead_2 : decode mX7_isAhead.2.1 2 = .ok (.aload_n 0, 1) := by decide +kernel
theorem d_X7_isAhead_3 : decode mX7_isAhead.2.1 3 = .ok (.getfield 7, 3) := by decide +kernel
theorem d_X7_isAhead_6 : decode mX7_isAhead.2.1 6 = .ok (.bipush 12, 2) := by decide +kernel
theorem d_X7_isAhead_8 : decode mX7_isAhead.2.1 8 = .ok (.iload_n 3, 1) := by decide +kernel
theorem d_X7_isAhead_9 : decode mX7_isAhead.2.1 9 = .ok (.iadd, 1) := by decide +kernel
theorem d_X7_isAhead_10 : decode mX7_isAhead.2.1 10 = .ok (.iaload, 1) := by decide +kernel
theorem d_X7_isAhead_11 : decode mX7_isAhead.2.1 11 = .ok (.invokevirtual 63, 3) := by decide +kernel
theorem d_X7_isAhead_14 : decode mX7_isAhead.2.1 14 = .ok (.istore 4, 2) := by decide +kernel
theorem d_X7_isAhead_16 : decode mX7_isAhead.2.1 16 = .ok (.aload_n 0, 1) := by decide +kernel
theorem d_X7_isAhead_17 : decode mX7_isAhead.2.1 17 = .ok (.iload_n 2, 1) := by decide +kernel
theorem d_X7_isAhead_18 : decode mX7_isAhead.2.1 18 = .ok (.aload_n 0, 1) := by decide +kernel
theorem d_X7_isAhead_19 : decode mX7_isAhead.2.1 19 = .ok (.getfield 7, 3) := by decide +kernel
theorem d_X7_isAhead_22 : decode mX7_isAhead.2.1 22 = .ok (.bipush 12, 2) := by decide +kernel
theorem d_X7_isAhead_24 : decode mX7_isAhead.2.1 24 = .ok (.iload_n 3, 1) := by decide +kernel
theorem d_X7_isAhead_25 : decode mX7_isAhead.2.1 25 = .ok (.iadd, 1) := by decide +kernel
theorem d_X7_isAhead_26 : decode mX7_isAhead.2.1 26 = .ok (.iaload, 1) := by decide +kernel
theorem d_X7_isAhead_27 : decode mX7_isAhead.2.1 27 = .ok (.invokevirtual 63, 3) := by decide +kernel
theorem d_X7_isAhead_30 : decode mX7_isAhead.2.1 30 = .ok (.istore 5, 2) := by decide +kernel
theorem d_X7_isAhead_32 : decode mX7_isAhead.2.1 32 = .ok (.iload 4, 2) := by decide +kernel
theorem d_X7_isAhead_34 : decode mX7_isAhead.2.1 34 = .ok (.iload 5, 2) := by decide +kernel
theorem d_X7_isAhead_36 : decode mX7_isAhead.2.1 36 = .ok (.if_icmp .eq 16, 3) := by decide +kernel
theorem d_X7_isAhead_39 : decode mX7_isAhead.2.1 39 = .ok (.iload 4, 2) := by decide +kernel
theorem d_X7_isAhead_41 : decode mX7_isAhead.2.1 41 = .ok (.iload 5, 2) := by decide +kernel
theorem d_X7_isAhead_43 : decode mX7_isAhead.2.1 43 = .ok (.if_icmp .ge 7, 3) := by decide +kernel
theorem d_X7_isAhead_46 : decode mX7_isAhead.2.1 46 = .ok (.iconst 1, 1) := by decide +kernel
theorem d_X7_isAhead_47 : decode mX7_isAhead.2.1 47 = .ok (.goto 4, 3) := by decide +kernel
theorem d_X7_isAhead_50 : decode mX7_isAhead.2.1 50 = .ok (.iconst 0, 1) := by decide +kernel
theorem d_X7_isAhead_51 : decode mX7_isAhead.2.1 51 = .ok (.ireturn, 1) := by decide +kernel
theorem d_X7_isAhead_52 : decode mX7_isAhead.2.1 52 = .ok (.aload_n 0, 1) := by decide +kernel
theorem d_X7_isAhead_53 : decode mX7_isAhead.2.1 53 = .ok (.getfield 7, 3) := by decide +kernel
theorem d_X7_isAhead_56 : decode mX7_isAhead.2.1 56 = .ok (.bipush 60, 2) := by decide +kernel
theorem d_X7_isAhead_58 : decode mX7_isAhead.2.1 58 = .ok (.iload_n 1, 1) := by decide +kernel
theorem d_X7_isAhead_59 : decode mX7_isAhead.2.1 59 = .ok (.iadd, 1) := by decide +kernel
theorem d_X7_isAhead_60 : decode mX7_isAhead.2.1 60 = .ok (.iaload, 1) := by decide +kernel
theorem d_X7_isAhead_61 : decode mX7_isAhead.2.1 61 = .ok (.aload_n 0, 1) := by decide +kernel
theorem d_X7_isAhead_62 : decode mX7_isAhead.2.1 62 = .ok (.getfield 7, 3) := by decide +kernel
theorem d_X7_isAhead_65 : decode mX7_isAhead.2.1 65 = .ok (.bipush 60, 2) := by decide +kernel
theorem d_X7_isAhead_67 : decode mX7_isAhead.2.1 67 = .ok (.iload_n 2, 1) := by decide +kernel
theorem d_X7_isAhead_68 : decode mX7_isAhead.2.1 68 = .ok (.iadd, 1) := by decide +kernel
theorem d_X7_isAhead_69 : decode mX7_isAhead.2.1 69 = .ok (.iaload, 1) := by decide +kernel
theorem d_X7_isAhead_70 : decode mX7_isAhead.2.1 70 = .ok (.if_icmp .ne 16, 3) := by decide +kernel
theorem d_X7_isAhead_73 : decode mX7_isAhead.2.1 73 = .ok (.iload_n 1, 1) := by decide +kernel
theorem d_X7_isAhead_74 : decode mX7_isAhead.2.1 74 = .ok (.iload_n 2, 1) := by decide +kernel
theorem d_X7_isAhead_75 : decode mX7_isAhead.2.1 75 = .ok (.if_icmp .ge 7, 3) := by decide +kernel
theorem d_X7_isAhead_78 : decode mX7_isAhead.2.1 78 = .ok (.iconst 1, 1) := by decide +kernel
theorem d_X7_isAhead_79 : decode mX7_isAhead.2.1 79 = .ok (.goto 33, 3) := by decide +kernel
theorem d_X7_isAhead_82 : decode mX7_isAhead.2.1 82 = .ok (.iconst 0, 1) := by decide +kernel
theorem d_X7_isAhead_83 : decode mX7_isAhead.2.1 83 = .ok (.goto 29, 3) := by decide +kernel
theorem d_X7_isAhead_86 : decode mX7_isAhead.2.1 86 = .ok (.aload_n 0, 1) := by decide +kernel
theorem d_X7_isAhead_87 : decode mX7_isAhead.2.1 87 = .ok (.getfield 7, 3) := by decide +kernel
theorem d_X7_isAhead_90 : decode mX7_isAhead.2.1 90 = .ok (.bipush 60, 2) := by decide +kernel
theorem d_X7_isAhead_92 : decode mX7_isAhead.2.1 92 = .ok (.iload_n 1, 1) := by decide +kernel
theorem d_X7_isAhead_93 : decode mX7_isAhead.2.1 93 = .ok (.iadd, 1) := by decide +kernel
theorem d_X7_isAhead_94 : decode mX7_isAhead.2.1 94 = .ok (.iaload, 1) := by decide +kernel
theorem d_X7_isAhead_95 : decode mX7_isAhead.2.1 95 = .ok (.aload_n 0, 1) := by decide +kernel
theorem d_X7_isAhead_96 : decode mX7_isAhead.2.1 96 = .ok (.getfield 7, 3) := by decide +kernel
theorem d_X7_isAhead_99 : decode mX7_isAhead.2.1 99 = .ok (.bipush 60, 2) := by decide +kernel
theorem d_X7_isAhead_101 : decode mX7_isAhead.2.1 101 = .ok (.iload_n 2, 1) := by decide +kernel
theorem d_X7_isAhead_102 : decode mX7_isAhead.2.1 102 = .ok (.iadd, 1) := by decide +kernel
theorem d_X7_isAhead_103 : decode mX7_isAhead.2.1 103 = .ok (.iaload, 1) := by decide +kernel
theorem d_X7_isAhead_104 : decode mX7_isAhead.2.1 104 = .ok (.if_icmp .ge 7, 3) := by decide +kernel
theorem d_X7_isAhead_107 : decode mX7_isAhead.2.1 107 = .ok (.iconst 1, 1) := by decide +kernel
theorem d_X7_isAhead_108 : decode mX7_isAhead.2.1 108 = .ok (.goto 4, 3) := by decide +kernel
theorem d_X7_isAhead_111 : decode mX7_isAhead.2.1 111 = .ok (.iconst 0, 1) := by decide +kernel
theorem d_X7_isAhead_112 : decode mX7_isAhead.2.1 112 = .ok (.ireturn, 1) := by decide +kernel
def T_X7_isAhead_112 (Q : Int32 → Mem → Prop) (s0 : Int32) (M : Mem) : Prop := ((s0 : Int32) = 0 ∨ (s0 : Int32) = 1) ∧ Q s0 M
set_option maxRecDepth 100000 in
set_option maxHeartbeats 4000000 in
theorem B_X7_isAhead_112 {g : GG} (Q : Int32 → Mem → Prop) (s0 : Int32) (M : Mem) (h : T_X7_isAhead_112 Q s0 M) : WP g 11 mX7_isAhead 112 [none, none, none, none, none, none] [.int s0] M 0 (oZ Q noX) := by
  unfold T_X7_isAhead_112 at h
  exact R_retv (pc := 112) d_X7_isAhead_112 h
def T_X7_isAhead_51 (Q : Int32 → Mem → Prop) (s0 : Int32) (M : Mem) : Prop := ((s0 : Int32) = 0 ∨ (s0 : Int32) = 1) ∧ Q s0 M
set_option maxRecDepth 100000 in
set_option maxHeartbeats 4000000 in
theorem B_X7_isAhead_51 {g : GG} (Q : Int32 → Mem → Prop) (s0 : Int32) (M : Mem) (h : T_X7_isAhead_51 Q s0 M) : WP g 11 mX7_isAhead 51 [none, none, none, none, none, none] [.int s0] M 0 (oZ Q noX) := by
  unfold T_X7_isAhead_51 at h
  exact R_retv (pc := 51) d_X7_isAhead_51 h
def T_X7_isAhead (Q : Int32 → Mem → Prop) (v0 : Nat) (v1 : Int32) (v2 : Int32) (v3 : Int32) (M : Mem) : Prop := (kd v0 = 7) ∧ (kd (rf v0 1) = 9) ∧ (vp_in (12 + v3) (ln (rf v0 1))) ∧ T_X7_far (fun y5 M4 => T_X7_far (fun y7 M6 => if y5 = y7 then ((vp_in (60 + v1) (ln (rf v0 1))) ∧ (vp_in (60 + v2) (ln (rf v0 1))) ∧ if (M6.1 (rf v0 1) (Int32.toNatClampNeg (60 + v1))) = (M6.1 (rf v0 1) (Int32.toNatClampNeg (60 + v2))) then (if v2 ≤ v1 then (T_X7_isAhead_112 Q 0 M6) else (T_X7_isAhead_112 Q 1 M6)) else (if (M6.1 (rf v0 1) (Int32.toNatClampNeg (60 + v2))) ≤ (M6.1 (rf v0 1) (Int32.toNatClampNeg (60 + v1))) then (T_X7_isAhead_112 Q 0 M6) else (T_X7_isAhead_112 Q 1 M6))) else (if y7 ≤ y5 then (T_X7_isAhead_51 Q 0 M6) else (T_X7_isAhead_51 Q 1 M6)))  v0 v2 (M4.1 (rf v0 1) (Int32.toNatClampNeg (12 + v3))) M4)  v0 v1 (M.1 (rf v0 1) (Int32.toNatClampNeg (12 + v3))) M
set_option maxRecDepth 100000 in
set_option maxHeartbeats 4000000 in
theorem c_X7_isAhead {g : GG} (v0 : Nat) (v1 : Int32) (v2 : Int32) (v3 : Int32) (M : Mem) (Q : Int32 → Mem → Prop) (h : T_X7_isAhead Q v0 v1 v2 v3 M) : CT g 11 mX7_isAhead [.ref (g.1 + v0), .int v1, .int v2, .int v3] M 0 (oZ Q noX) := by
  refine CT_of (L := [some (.ref (g.1 + v0)), some (.int v1), some (.int v2), some (.int v3), none, none]) (by decide) rfl (Nat.le_of_ble_eq_true rfl) (ro_Z rfl) rfl ?_
  unfold T_X7_isAhead at h
  refine R_aload_n (pc := 0) d_X7_isAhead_0 rfl rfl ?_
  refine R_iload_n (pc := 1) d_X7_isAhead_1 rfl rfl ?_
  refine R_aload_n (pc := 2) d_X7_isAhead_2 rfl rfl ?_
  obtain ⟨k1, h⟩ := h
  refine R_getR (pc := 3) fld_RX7_7 rfl rfl k1 d_X7_isAhead_3 ?_
  refine R_bipush (pc := 6) (v := 12) d_X7_isAhead_6 (by decide) ?_
  refine R_iload_n (pc := 8) d_X7_isAhead_8 rfl rfl ?_
  refine R_iadd (pc := 9) d_X7_isAhead_9 ?_
  obtain ⟨k2, h⟩ := h
  obtain ⟨k3, h⟩ := h
  refine R_iald (pc := 10) k2 k3 d_X7_isAhead_10 ?_
  refine R_callV (pc := 11) (As := [.int v1, .int (M.1 (rf v0 1) (Int32.toNatClampNeg (12 + v3)))]) (rest := []) (c_X7_far (g := g) v0 v1 (M.1 (rf v0 1) (Int32.toNatClampNeg (12 + v3))) M _ h) rfl rfl cal_RX7_63 ins_X7_far sel_X7_far (cls_at k1 clsOK7) (by decide) (by decide) rfl rfl (Nat.le_of_ble_eq_true rfl) d_X7_isAhead_11 (k_I (fun y5 M4 h => ?_)) (fun _ _ h9 => False.elim h9)
  try dsimp only at h
  refine R_istore (pc := 14) (L' := [some (.ref (g.1 + v0)), some (.int v1), some (.int v2), some (.int v3), some (.int y5), none]) d_X7_isAhead_14 (by decide) rfl ?_
  refine R_aload_n (pc := 16) d_X7_isAhead_16 rfl rfl ?_
  refine R_iload_n (pc := 17) d_X7_isAhead_17 rfl rfl ?_
  refine R_aload_n (pc := 18) d_X7_isAhead_18 rfl rfl ?_
  refine R_getR (pc := 19) fld_RX7_7 rfl rfl k1 d_X7_isAhead_19 ?_
  refine R_bipush (pc := 22) (v := 12) d_X7_isAhead_22 (by decide) ?_
  refine R_iload_n (pc := 24) d_X7_isAhead_24 rfl rfl ?_
  refine R_iadd (pc := 25) d_X7_isAhead_25 ?_
  refine R_iald (pc := 26) k2 k3 d_X7_isAhead_26 ?_
  refine R_callV (pc := 27) (As := [.int v2, .int (M4.1 (rf v0 1) (Int32.toNatClampNeg (12 + v3)))]) (rest := []) (c_X7_far (g := g) v0 v2 (M4.1 (rf v0 1) (Int32.toNatClampNeg (12 + v3))) M4 _ h) rfl rfl cal_RX7_63 ins_X7_far sel_X7_far (cls_at k1 clsOK7) (by decide) (by decide) rfl rfl (Nat.le_of_ble_eq_true rfl) d_X7_isAhead_27 (k_I (fun y7 M6 h => ?_)) (fun _ _ h9 => False.elim h9)
  try dsimp only at h
  refine R_istore (pc := 30) (L' := [some (.ref (g.1 + v0)), some (.int v1), some (.int v2), some (.int v3), some (.int y5), some (.int y7)]) d_X7_isAhead_30 (by decide) rfl ?_
  refine R_iload (pc := 32) d_X7_isAhead_32 rfl ?_
  refine R_iload (pc := 34) d_X7_isAhead_34 rfl ?_
  refine R_icmp_eq (pc := 36) (tgt := 52) d_X7_isAhead_36 (by decide) (fun c => ?_) (fun c => ?_)
  · rw [if_pos c] at h
    refine R_aload_n (pc := 52) d_X7_isAhead_52 rfl rfl ?_
    refine R_getR (pc := 53) fld_RX7_7 rfl rfl k1 d_X7_isAhead_53 ?_
    refine R_bipush (pc := 56) (v := 60) d_X7_isAhead_56 (by decide) ?_
    refine R_iload_n (pc := 58) d_X7_isAhead_58 rfl rfl ?_
    refine R_iadd (pc := 59) d_X7_isAhead_59 ?_
    obtain ⟨k8, h⟩ := h
    refine R_iald (pc := 60) k2 k8 d_X7_isAhead_60 ?_
    refine R_aload_n (pc := 61) d_X7_isAhead_61 rfl rfl ?_
    refine R_getR (pc := 62) fld_RX7_7 rfl rfl k1 d_X7_isAhead_62 ?_
    refine R_bipush (pc := 65) (v := 60) d_X7_isAhead_65 (by decide) ?_
    refine R_iload_n (pc := 67) d_X7_isAhead_67 rfl rfl ?_
    refine R_iadd (pc := 68) d_X7_isAhead_68 ?_
    obtain ⟨k9, h⟩ := h
    refine R_iald (pc := 69) k2 k9 d_X7_isAhead_69 ?_
    refine R_icmp_ne (pc := 70) (tgt := 86) d_X7_isAhead_70 (by decide) (fun c => ?_) (fun c => ?_)
    · rw [if_neg c] at h
      refine R_aload_n (pc := 86) d_X7_isAhead_86 rfl rfl ?_
      refine R_getR (pc := 87) fld_RX7_7 rfl rfl k1 d_X7_isAhead_87 ?_
      refine R_bipush (pc := 90) (v := 60) d_X7_isAhead_90 (by decide) ?_
      refine R_iload_n (pc := 92) d_X7_isAhead_92 rfl rfl ?_
      refine R_iadd (pc := 93) d_X7_isAhead_93 ?_
      refine R_iald (pc := 94) k2 k8 d_X7_isAhead_94 ?_
      refine R_aload_n (pc := 95) d_X7_isAhead_95 rfl rfl ?_
      refine R_getR (pc := 96) fld_RX7_7 rfl rfl k1 d_X7_isAhead_96 ?_
      refine R_bipush (pc := 99) (v := 60) d_X7_isAhead_99 (by decide) ?_
      refine R_iload_n (pc := 101) d_X7_isAhead_101 rfl rfl ?_
      refine R_iadd (pc := 102) d_X7_isAhead_102 ?_
      refine R_iald (pc := 103) k2 k9 d_X7_isAhead_103 ?_
      refine R_icmp_ge (pc := 104) (tgt := 111) d_X7_isAhead_104 (by decide) (fun c => ?_) (fun c => ?_)
      · rw [if_pos c] at h
        refine R_iconst (pc := 111) (v := 0) d_X7_isAhead_111 (by decide) ?_
        exact WP_sub (B_X7_isAhead_112 Q 0 M6 h) (by decide) (ls_n (ls_n (ls_n (ls_n (ls_n (ls_n ls_0))))))
      · rw [if_neg c] at h
        refine R_iconst (pc := 107) (v := 1) d_X7_isAhead_107 (by decide) ?_
        refine R_goto (pc := 108) (tgt := 112) d_X7_isAhead_108 (by decide) ?_
        exact WP_sub (B_X7_isAhead_112 Q 1 M6 h) (by decide) (ls_n (ls_n (ls_n (ls_n (ls_n (ls_n ls_0))))))
    · rw [if_pos c] at h
      refine R_iload_n (pc := 73) d_X7_isAhead_73 rfl rfl ?_
      refine R_iload_n (pc := 74) d_X7_isAhead_74 rfl rfl ?_
      refine R_icmp_ge (pc := 75) (tgt := 82) d_X7_isAhead_75 (by decide) (fun c => ?_) (fun c => ?_)
      · rw [if_pos c] at h
        refine R_iconst (pc := 82) (v := 0) d_X7_isAhead_82 (by decide) ?_
        refine R_goto (pc := 83) (tgt := 112) d_X7_isAhead_83 (by decide) ?_
        exact WP_sub (B_X7_isAhead_112 Q 0 M6 h) (by decide) (ls_n (ls_n (ls_n (ls_n (ls_n (ls_n ls_0))))))
      · rw [if_neg c] at h
        refine R_iconst (pc := 78) (v := 1) d_X7_isAhead_78 (by decide) ?_
        refine R_goto (pc := 79) (tgt := 112) d_X7_isAhead_79 (by decide) ?_
        exact WP_sub (B_X7_isAhead_112 Q 1 M6 h) (by decide) (ls_n (ls_n (ls_n (ls_n (ls_n (ls_n ls_0))))))
  · rw [if_neg c] at h
    refine R_iload (pc := 39) d_X7_isAhead_39 rfl ?_
    refine R_iload (pc := 41) d_X7_isAhead_41 rfl ?_
    refine R_icmp_ge (pc := 43) (tgt := 50) d_X7_isAhead_43 (by decide) (fun c => ?_) (fun c => ?_)
    · rw [if_pos c] at h
      refine R_iconst (pc := 50) (v := 0) d_X7_isAhead_50 (by decide) ?_
      exact WP_sub (B_X7_isAhead_51 Q 0 M6 h) (by decide) (ls_n (ls_n (ls_n (ls_n (ls_n (ls_n ls_0))))))
    · rw [if_neg c] at h
      refine R_iconst (pc := 46) (v := 1) d_X7_isAhead_46 (by decide) ?_
      refine R_goto (pc := 47) (tgt := 51) d_X7_isAhead_47 (by decide) ?_
      exact WP_sub (B_X7_isAhead_51 Q 1 M6 h) (by decide) (ls_n (ls_n (ls_n (ls_n (ls_n (ls_n ls_0))))))
/-! X7_orderedRoom -/
theorem d_X7_orderedRoom_0 : decode mX7_orderedRoom.2.1 0 = .ok (.iconst 0, 1) := by decide +kernel
theorem d_X7_orderedRoom_1 : decode mX7_orderedRoom.2.1 1 = .ok (.istore_n 3, 1) := by decide +kernel
theorem d_X7_orderedRoom_2 : decode mX7_orderedRoom.2.1 2 = .ok (.iload_n 3, 1) := by decide +kernel
theorem d_X7_orderedRoom_3 : decode mX7_orderedRoom.2.1 3 = .ok (.aload_n 0, 1) := by decide +kernel
theorem d_X7_orderedRoom_4 : decode mX7_orderedRoom.2.1 4 = .ok (.getfield 7, 3) := by decide +kernel
theorem d_X7_orderedRoom_7 : decode mX7_orderedRoom.2.1 7 = .ok (.iconst 3, 1) := by decide +kernel
theorem d_X7_orderedRoom_8 : decode mX7_orderedRoom.2.1 8 = .ok (.iaload, 1) := by decide +kernel
theorem d_X7_orderedRoom_9 : decode mX7_orderedRoom.2.1 9 = .ok (.if_icmp .ge 67, 3) := by decide +kernel
theorem d_X7_orderedRoom_12 : decode mX7_orderedRoom.2.1 12 = .ok (.iconst 0, 1) := by decide +kernel
theorem d_X7_orderedRoom_13 : decode mX7_orderedRoom.2.1 13 = .ok (.istore 4, 2) := by decide +kernel
theorem d_X7_orderedRoom_15 : decode mX7_orderedRoom.2.1 15 = .ok (.iconst 0, 1) := by decide +kernel
theorem d_X7_orderedRoom_16 : decode mX7_orderedRoom.2.1 16 = .ok (.istore 5, 2) := by decide +kernel
theorem d_X7_orderedRoom_18 : decode mX7_orderedRoom.2.1 18 = .ok (.iload 5, 2) := by decide +kernel
theorem d_X7_orderedRoom_20 : decode mX7_orderedRoom.2.1 20 = .ok (.aload_n 0, 1) := by decide +kernel
theorem d_X7_orderedRoom_21 : decode mX7_orderedRoom.2.1 21 = .ok (.getfield 7, 3) := by decide +kernel
theorem d_X7_orderedRoom_24 : decode mX7_orderedRoom.2.1 24 = .ok (.iconst 3, 1) := by decide +kernel
theorem d_X7_orderedRoom_25 : decode mX7_orderedRoom.2.1 25 = .ok (.iaload, 1) := by decide +kernel
theorem d_X7_orderedRoom_26 : decode mX7_orderedRoom.2.1 26 = .ok (.if_icmp .ge 36, 3) := by decide +kernel
theorem d_X7_orderedRoom_29 : decode mX7_orderedRoom.2.1 29 = .ok (.iload 4, 2) := by decide +kernel
theorem d_X7_orderedRoom_31 : decode mX7_orderedRoom.2.1 31 = .ok (.iload 5, 2) := by decide +kernel
theorem d_X7_orderedRoom_33 : decode mX7_orderedRoom.2.1 33 = .ok (.iload_n 3, 1) := by decide +kernel
theorem d_X7_orderedRoom_34 : decode mX7_orderedRoom.2.1 34 = .ok (.if_icmp .eq 18, 3) := by decide +kernel
theorem d_X7_orderedRoom_37 : decode mX7_orderedRoom.2.1 37 = .ok (.aload_n 0, 1) := by decide +kernel
theorem d_X7_orderedRoom_38 : decode mX7_orderedRoom.2.1 38 = .ok (.iload 5, 2) := by decide +kernel
theorem d_X7_orderedRoom_40 : decode mX7_orderedRoom.2.1 40 = .ok (.iload_n 3, 1) := by decide +kernel
theorem d_X7_orderedRoom_41 : decode mX7_orderedRoom.2.1 41 = .ok (.iload_n 1, 1) := by decide +kernel
theorem d_X7_orderedRoom_42 : decode mX7_orderedRoom.2.1 42 = .ok (.invokevirtual 66, 3) := by decide +kernel
theorem d_X7_orderedRoom_45 : decode mX7_orderedRoom.2.1 45 = .ok (.ifCond .eq 7, 3) := by decide +kernel
theorem d_X7_orderedRoom_48 : decode mX7_orderedRoom.2.1 48 = .ok (.iconst 1, 1) := by decide +kernel
theorem d_X7_orderedRoom_49 : decode mX7_orderedRoom.2.1 49 = .ok (.goto 4, 3) := by decide +kernel
theorem d_X7_orderedRoom_52 : decode mX7_orderedRoom.2.1 52 = .ok (.iconst 0, 1) := by decide +kernel
theorem d_X7_orderedRoom_53 : decode mX7_orderedRoom.2.1 53 = .ok (.iadd, 1) := by decide +kernel
theorem d_X7_orderedRoom_54 : decode mX7_orderedRoom.2.1 54 = .ok (.istore 4, 2) := by decide +kernel
theorem d_X7_orderedRoom_56 : decode mX7_orderedRoom.2.1 56 = .ok (.iinc 5 1, 3) := by decide +kernel
theorem d_X7_orderedRoom_59 : decode mX7_orderedRoom.2.1 59 = .ok (.goto (-41), 3) := by decide +kernel
theorem d_X7_orderedRoom_62 : decode mX7_orderedRoom.2.1 62 = .ok (.iload 4, 2) := by decide +kernel
theorem d_X7_orderedRoom_64 : decode mX7_orderedRoom.2.1 64 = .ok (.iload_n 2, 1) := by decide +kernel
theorem d_X7_orderedRoom_65 : decode mX7_orderedRoom.2.1 65 = .ok (.if_icmp .ne 5, 3) := by decide +kernel
theorem d_X7_orderedRoom_68 : decode mX7_orderedRoom.2.1 68 = .ok (.iload_n 3, 1) := by decide +kernel
theorem d_X7_orderedRoom_69 : decode mX7_orderedRoom.2.1 69 = .ok (.ireturn, 1) := by decide +kernel
theorem d_X7_orderedRoom_70 : decode mX7_orderedRoom.2.1 70 = .ok (.iinc 3 1, 3) := by decide +kernel
theorem d_X7_orderedRoom_73 : decode mX7_orderedRoom.2.1 73 = .ok (.goto (-71), 3) := by decide +kernel
theorem d_X7_orderedRoom_76 : decode mX7_orderedRoom.2.1 76 = .ok (.iconst (-1), 1) := by decide +kernel
theorem d_X7_orderedRoom_77 : decode mX7_orderedRoom.2.1 77 = .ok (.ireturn, 1) := by decide +kernel
def T_X7_orderedRoom_53 (κ2 : Nat → Int32 → Int32 → Int32 → Mem → Prop) (κ18 : Nat → Int32 → Int32 → Int32 → Int32 → Int32 → Mem → Prop) (Q : Int32 → Mem → Prop) (v0 : Nat) (v1 : Int32) (v2 : Int32) (v3 : Int32) (v5 : Int32) (s0 : Int32) (s1 : Int32) (M : Mem) : Prop := ∀ x1 : Int32, x1 = s1 + s0 → ∀ x2 : Int32, x2 = v5 + 1 → κ18 v0 v1 v2 v3 x1 x2 M
set_option maxRecDepth 100000 in
set_option maxHeartbeats 4000000 in
theorem B_X7_orderedRoom_53 {g : GG} (Q : Int32 → Mem → Prop) (κ2 : Nat → Int32 → Int32 → Int32 → Mem → Prop) (hκ2 : ∀ (v0 : Nat) (v1 : Int32) (v2 : Int32) (v3 : Int32) (M : Mem), κ2 v0 v1 v2 v3 M → WP g 12 mX7_orderedRoom 2 [some (.ref (g.1 + v0)), some (.int v1), some (.int v2), some (.int v3), none, none] [] M 0 (oI Q noX)) (κ18 : Nat → Int32 → Int32 → Int32 → Int32 → Int32 → Mem → Prop) (hκ18 : ∀ (v0 : Nat) (v1 : Int32) (v2 : Int32) (v3 : Int32) (v4 : Int32) (v5 : Int32) (M : Mem), κ18 v0 v1 v2 v3 v4 v5 M → WP g 12 mX7_orderedRoom 18 [some (.ref (g.1 + v0)), some (.int v1), some (.int v2), some (.int v3), some (.int v4), some (.int v5)] [] M 0 (oI Q noX)) (v0 : Nat) (v1 : Int32) (v2 : Int32) (v3 : Int32) (v5 : Int32) (s0 : Int32) (s1 : Int32) (M : Mem) (h : T_X7_orderedRoom_53 κ2 κ18 Q v0 v1 v2 v3 v5 s0 s1 M) : WP g 12 mX7_orderedRoom 53 [some (.ref (g.1 + v0)), some (.int v1), some (.int v2), some (.int v3), none, some (.int v5)] [.int s0, .int s1] M 0 (oI Q noX) := by
  unfold T_X7_orderedRoom_53 at h
  refine R_iadd (pc := 53) d_X7_orderedRoom_53 ?_
  refine N_i (fun x1 ex1 => ?_)
  have h := h x1 ex1
  refine R_istore (pc := 54) (L' := [some (.ref (g.1 + v0)), some (.int v1), some (.int v2), some (.int v3), some (.int x1), some (.int v5)]) d_X7_orderedRoom_54 (by decide) rfl ?_
  obtain ⟨x2, ex2⟩ : ∃ z : Int32, z = v5 + 1 := ⟨_, rfl⟩
  have h := h x2 ex2
  refine R_iinc (pc := 56) (v := x2) (L' := [some (.ref (g.1 + v0)), some (.int v1), some (.int v2), some (.int v3), some (.int x1), some (.int x2)]) d_X7_orderedRoom_56 rfl (by rw [ex2]; rfl) (by decide) rfl ?_
  refine R_goto (pc := 59) (tgt := 18) d_X7_orderedRoom_59 (by decide) ?_
  exact WP_sub (hκ18 v0 v1 v2 v3 x1 x2 M h) (by decide) (ls_s (ls_s (ls_s (ls_s (ls_s (ls_s ls_0))))))
def T_X7_orderedRoom_52 (κ2 : Nat → Int32 → Int32 → Int32 → Mem → Prop) (κ18 : Nat → Int32 → Int32 → Int32 → Int32 → Int32 → Mem → Prop) (Q : Int32 → Mem → Prop) (v0 : Nat) (v1 : Int32) (v2 : Int32) (v3 : Int32) (v5 : Int32) (s0 : Int32) (M : Mem) : Prop := T_X7_orderedRoom_53 κ2 κ18 Q v0 v1 v2 v3 v5 0 s0 M
set_option maxRecDepth 100000 in
set_option maxHeartbeats 4000000 in
theorem B_X7_orderedRoom_52 {g : GG} (Q : Int32 → Mem → Prop) (κ2 : Nat → Int32 → Int32 → Int32 → Mem → Prop) (hκ2 : ∀ (v0 : Nat) (v1 : Int32) (v2 : Int32) (v3 : Int32) (M : Mem), κ2 v0 v1 v2 v3 M → WP g 12 mX7_orderedRoom 2 [some (.ref (g.1 + v0)), some (.int v1), some (.int v2), some (.int v3), none, none] [] M 0 (oI Q noX)) (κ18 : Nat → Int32 → Int32 → Int32 → Int32 → Int32 → Mem → Prop) (hκ18 : ∀ (v0 : Nat) (v1 : Int32) (v2 : Int32) (v3 : Int32) (v4 : Int32) (v5 : Int32) (M : Mem), κ18 v0 v1 v2 v3 v4 v5 M → WP g 12 mX7_orderedRoom 18 [some (.ref (g.1 + v0)), some (.int v1), some (.int v2), some (.int v3), some (.int v4), some (.int v5)] [] M 0 (oI Q noX)) (v0 : Nat) (v1 : Int32) (v2 : Int32) (v3 : Int32) (v5 : Int32) (s0 : Int32) (M : Mem) (h : T_X7_orderedRoom_52 κ2 κ18 Q v0 v1 v2 v3 v5 s0 M) : WP g 12 mX7_orderedRoom 52 [some (.ref (g.1 + v0)), some (.int v1), some (.int v2), some (.int v3), none, some (.int v5)] [.int s0] M 0 (oI Q noX) := by
  unfold T_X7_orderedRoom_52 at h
  refine R_iconst (pc := 52) (v := 0) d_X7_orderedRoom_52 (by decide) ?_
  exact WP_sub (B_X7_orderedRoom_53 Q κ2 hκ2 κ18 hκ18 v0 v1 v2 v3 v5 0 s0 M h) (by decide) (ls_s (ls_s (ls_s (ls_s (ls_n (ls_s ls_0))))))
def T_X7_orderedRoom_18 (κ2 : Nat → Int32 → Int32 → Int32 → Mem → Prop) (Q : Int32 → Mem → Prop) : Nat → Nat → Int32 → Int32 → Int32 → Int32 → Int32 → Mem → Prop
  | 0, _, _, _, _, _, _, _ => False
  | n + 1, v0, v1, v2, v3, v4, v5, M => (kd v0 = 7) ∧ (kd (rf v0 1) = 9) ∧ (vp_in 3 (ln (rf v0 1))) ∧ if (M.1 (rf v0 1) (Int32.toNatClampNeg 3)) ≤ v5 then (if v4 = v2 then (Q v3 M) else (∀ x4 : Int32, x4 = v3 + 1 → κ2 v0 v1 v2 x4 M)) else (if v5 = v3 then (T_X7_orderedRoom_52 κ2 (T_X7_orderedRoom_18 κ2 Q n) Q v0 v1 v2 v3 v5 v4 M) else (T_X7_isAhead (fun y6 M5 => if y6 = 0 then (T_X7_orderedRoom_52 κ2 (T_X7_orderedRoom_18 κ2 Q n) Q v0 v1 v2 v3 v5 v4 M5) else (T_X7_orderedRoom_53 κ2 (T_X7_orderedRoom_18 κ2 Q n) Q v0 v1 v2 v3 v5 1 v4 M5))  v0 v5 v3 v1 M))
set_option maxRecDepth 100000 in
set_option maxHeartbeats 4000000 in
theorem B_X7_orderedRoom_18 {g : GG} (Q : Int32 → Mem → Prop) (κ2 : Nat → Int32 → Int32 → Int32 → Mem → Prop) (hκ2 : ∀ (v0 : Nat) (v1 : Int32) (v2 : Int32) (v3 : Int32) (M : Mem), κ2 v0 v1 v2 v3 M → WP g 12 mX7_orderedRoom 2 [some (.ref (g.1 + v0)), some (.int v1), some (.int v2), some (.int v3), none, none] [] M 0 (oI Q noX)) : ∀ (n : Nat) (v0 : Nat) (v1 : Int32) (v2 : Int32) (v3 : Int32) (v4 : Int32) (v5 : Int32) (M : Mem), T_X7_orderedRoom_18 κ2 Q n v0 v1 v2 v3 v4 v5 M → WP g 12 mX7_orderedRoom 18 [some (.ref (g.1 + v0)), some (.int v1), some (.int v2), some (.int v3), some (.int v4), some (.int v5)] [] M 0 (oI Q noX) := by
  intro n
  induction n with
  | zero => intro v0 v1 v2 v3 v4 v5 M h; exact h.elim
  | succ n hκ18 =>
    intro v0 v1 v2 v3 v4 v5 M h
    unfold T_X7_orderedRoom_18 at h
    refine R_iload (pc := 18) d_X7_orderedRoom_18 rfl ?_
    refine R_aload_n (pc := 20) d_X7_orderedRoom_20 rfl rfl ?_
    obtain ⟨k1, h⟩ := h
    refine R_getR (pc := 21) fld_RX7_7 rfl rfl k1 d_X7_orderedRoom_21 ?_
    refine R_iconst (pc := 24) (v := 3) d_X7_orderedRoom_24 (by decide) ?_
    obtain ⟨k2, h⟩ := h
    obtain ⟨k3, h⟩ := h
    refine R_iald (pc := 25) k2 k3 d_X7_orderedRoom_25 ?_
    refine R_icmp_ge (pc := 26) (tgt := 62) d_X7_orderedRoom_26 (by decide) (fun c => ?_) (fun c => ?_)
    · rw [if_pos c] at h
      refine R_iload (pc := 62) d_X7_orderedRoom_62 rfl ?_
      refine R_iload_n (pc := 64) d_X7_orderedRoom_64 rfl rfl ?_
      refine R_icmp_ne (pc := 65) (tgt := 70) d_X7_orderedRoom_65 (by decide) (fun c => ?_) (fun c => ?_)
      · rw [if_neg c] at h
        obtain ⟨x4, ex4⟩ : ∃ z : Int32, z = v3 + 1 := ⟨_, rfl⟩
        have h := h x4 ex4
        refine R_iinc (pc := 70) (v := x4) (L' := [some (.ref (g.1 + v0)), some (.int v1), some (.int v2), some (.int x4), some (.int v4), some (.int v5)]) d_X7_orderedRoom_70 rfl (by rw [ex4]; rfl) (by decide) rfl ?_
        refine R_goto (pc := 73) (tgt := 2) d_X7_orderedRoom_73 (by decide) ?_
        exact WP_sub (hκ2 v0 v1 v2 x4 M h) (by decide) (ls_s (ls_s (ls_s (ls_s (ls_n (ls_n ls_0))))))
      · rw [if_pos c] at h
        refine R_iload_n (pc := 68) d_X7_orderedRoom_68 rfl rfl ?_
        exact R_retv (pc := 69) d_X7_orderedRoom_69 h
    · rw [if_neg c] at h
      refine R_iload (pc := 29) d_X7_orderedRoom_29 rfl ?_
      refine R_iload (pc := 31) d_X7_orderedRoom_31 rfl ?_
      refine R_iload_n (pc := 33) d_X7_orderedRoom_33 rfl rfl ?_
      refine R_icmp_eq (pc := 34) (tgt := 52) d_X7_orderedRoom_34 (by decide) (fun c => ?_) (fun c => ?_)
      · rw [if_pos c] at h
        exact WP_sub (B_X7_orderedRoom_52 Q κ2 hκ2 (T_X7_orderedRoom_18 κ2 Q n) hκ18 v0 v1 v2 v3 v5 v4 M h) (by decide) (ls_s (ls_s (ls_s (ls_s (ls_n (ls_s ls_0))))))
      · rw [if_neg c] at h
        refine R_aload_n (pc := 37) d_X7_orderedRoom_37 rfl rfl ?_
        refine R_iload (pc := 38) d_X7_orderedRoom_38 rfl ?_
        refine R_iload_n (pc := 40) d_X7_orderedRoom_40 rfl rfl ?_
        refine R_iload_n (pc := 41) d_X7_orderedRoom_41 rfl rfl ?_
        refine R_callV (pc := 42) (As := [.int v5, .int v3, .int v1]) (rest := [.int v4]) (c_X7_isAhead (g := g) v0 v5 v3 v1 M _ h) rfl rfl cal_RX7_66 ins_X7_isAhead sel_X7_isAhead (cls_at k1 clsOK7) (by decide) (by decide) rfl rfl (Nat.le_of_ble_eq_true rfl) d_X7_orderedRoom_42 (k_Z (fun y6 M5 h => ?_)) (fun _ _ h9 => False.elim h9)
        try dsimp only at h
        refine R_if_eq (pc := 45) (tgt := 52) d_X7_orderedRoom_45 (by decide) (fun c => ?_) (fun c => ?_)
        · rw [if_pos c] at h
          exact WP_sub (B_X7_orderedRoom_52 Q κ2 hκ2 (T_X7_orderedRoom_18 κ2 Q n) hκ18 v0 v1 v2 v3 v5 v4 M5 h) (by decide) (ls_s (ls_s (ls_s (ls_s (ls_n (ls_s ls_0))))))
        · rw [if_neg c] at h
          refine R_iconst (pc := 48) (v := 1) d_X7_orderedRoom_48 (by decide) ?_
          refine R_goto (pc := 49) (tgt := 53) d_X7_orderedRoom_49 (by decide) ?_
          exact WP_sub (B_X7_orderedRoom_53 Q κ2 hκ2 (T_X7_orderedRoom_18 κ2 Q n) hκ18 v0 v1 v2 v3 v5 1 v4 M5 h) (by decide) (ls_s (ls_s (ls_s (ls_s (ls_n (ls_s ls_0))))))
def T_X7_orderedRoom_2 (Q : Int32 → Mem → Prop) : Nat → Nat → Int32 → Int32 → Int32 → Mem → Prop
  | 0, _, _, _, _, _ => False
  | n + 1, v0, v1, v2, v3, M => (kd v0 = 7) ∧ (kd (rf v0 1) = 9) ∧ (vp_in 3 (ln (rf v0 1))) ∧ if (M.1 (rf v0 1) (Int32.toNatClampNeg 3)) ≤ v3 then (Q (-1) M) else ((∃ N : Nat, T_X7_orderedRoom_18 (T_X7_orderedRoom_2 Q n) Q N v0 v1 v2 v3 0 0 M))
set_option maxRecDepth 100000 in
set_option maxHeartbeats 4000000 in
theorem B_X7_orderedRoom_2 {g : GG} (Q : Int32 → Mem → Prop) : ∀ (n : Nat) (v0 : Nat) (v1 : Int32) (v2 : Int32) (v3 : Int32) (M : Mem), T_X7_orderedRoom_2 Q n v0 v1 v2 v3 M → WP g 12 mX7_orderedRoom 2 [some (.ref (g.1 + v0)), some (.int v1), some (.int v2), some (.int v3), none, none] [] M 0 (oI Q noX) := by
  intro n
  induction n with
  | zero => intro v0 v1 v2 v3 M h; exact h.elim
  | succ n hκ2 =>
    intro v0 v1 v2 v3 M h
    unfold T_X7_orderedRoom_2 at h
    refine R_iload_n (pc := 2) d_X7_orderedRoom_2 rfl rfl ?_
    refine R_aload_n (pc := 3) d_X7_orderedRoom_3 rfl rfl ?_
    obtain ⟨k1, h⟩ := h
    refine R_getR (pc := 4) fld_RX7_7 rfl rfl k1 d_X7_orderedRoom_4 ?_
    refine R_iconst (pc := 7) (v := 3) d_X7_orderedRoom_7 (by decide) ?_
    obtain ⟨k2, h⟩ := h
    obtain ⟨k3, h⟩ := h
    refine R_iald (pc := 8) k2 k3 d_X7_orderedRoom_8 ?_
    refine R_icmp_ge (pc := 9) (tgt := 76) d_X7_orderedRoom_9 (by decide) (fun c => ?_) (fun c => ?_)
    · rw [if_pos c] at h
      refine R_iconst (pc := 76) (v := (-1)) d_X7_orderedRoom_76 (by decide) ?_
      exact R_retv (pc := 77) d_X7_orderedRoom_77 h
    · rw [if_neg c] at h
      refine R_iconst (pc := 12) (v := 0) d_X7_orderedRoom_12 (by decide) ?_
      refine R_istore (pc := 13) (L' := [some (.ref (g.1 + v0)), some (.int v1), some (.int v2), some (.int v3), some (.int 0), none]) d_X7_orderedRoom_13 (by decide) rfl ?_
      refine R_iconst (pc := 15) (v := 0) d_X7_orderedRoom_15 (by decide) ?_
      refine R_istore (pc := 16) (L' := [some (.ref (g.1 + v0)), some (.int v1), some (.int v2), some (.int v3), some (.int 0), some (.int 0)]) d_X7_orderedRoom_16 (by decide) rfl ?_
      obtain ⟨N, h⟩ := h
      exact WP_sub (B_X7_orderedRoom_18 Q (T_X7_orderedRoom_2 Q n) hκ2 N v0 v1 v2 v3 0 0 M h) (by decide) (ls_s (ls_s (ls_s (ls_s (ls_s (ls_s ls_0))))))
def T_X7_orderedRoom (Q : Int32 → Mem → Prop) (v0 : Nat) (v1 : Int32) (v2 : Int32) (M : Mem) : Prop := (∃ N : Nat, T_X7_orderedRoom_2 Q N v0 v1 v2 0 M)
set_option maxRecDepth 100000 in
set_option maxHeartbeats 4000000 in
theorem c_X7_orderedRoom {g : GG} (v0 : Nat) (v1 : Int32) (v2 : Int32) (M : Mem) (Q : Int32 → Mem → Prop) (h : T_X7_orderedRoom Q v0 v1 v2 M) : CT g 12 mX7_orderedRoom [.ref (g.1 + v0), .int v1, .int v2] M 0 (oI Q noX) := by
  refine CT_of (L := [some (.ref (g.1 + v0)), some (.int v1), some (.int v2), none, none, none]) (by decide) rfl (Nat.le_of_ble_eq_true rfl) (ro_I rfl) rfl ?_
  unfold T_X7_orderedRoom at h
  refine R_iconst (pc := 0) (v := 0) d_X7_orderedRoom_0 (by decide) ?_
  refine R_istore_n (pc := 1) (L' := [some (.ref (g.1 + v0)), some (.int v1), some (.int v2), some (.int 0), none, none]) d_X7_orderedRoom_1 rfl (by decide) rfl ?_
  obtain ⟨N, h⟩ := h
  exact WP_sub (B_X7_orderedRoom_2 Q N v0 v1 v2 0 M h) (by decide) (ls_s (ls_s (ls_s (ls_s (ls_n (ls_n ls_0))))))
/-! X7_usedRooms -/
theorem d_X7_usedRooms_0 : decode mX7_usedRooms.2.1 0 = .ok (.iconst 0, 1) := by decide +kernel
theorem d_X7_usedRooms_1 : decode mX7_usedRooms.2.1 1 = .ok (.istore_n 3, 1) := by decide +kernel
theorem d_X7_usedRooms_2 : decode mX7_usedRooms.2.1 2 = .ok (.iconst 0, 1) := by decide +kernel
theorem d_X7_usedRooms_3 : decode mX7_usedRooms.2.1 3 = .ok (.istore 4, 2) := by decide +kernel
theorem d_X7_usedRooms_5 : decode mX7_usedRooms.2.1 5 = .ok (.iload 4, 2) := by decide +kernel
theorem d_X7_usedRooms_7 : decode mX7_usedRooms.2.1 7 = .ok (.aload_n 0, 1) := by decide +kernel
theorem d_X7_usedRooms_8 : decode mX7_usedRooms.2.1 8 = .ok (.getfield 7, 3) := by decide +kernel
theorem d_X7_usedRooms_11 : decode mX7_usedRooms.2.1 11 = .ok (.iconst 4, 1) := by decide +kernel
theorem d_X7_usedRooms_12 : decode mX7_usedRooms.2.1 12 = .ok (.iaload, 1) := by decide +kernel
theorem d_X7_usedRooms_13 : decode mX7_usedRooms.2.1 13 = .ok (.if_icmp .ge 36, 3) := by decide +kernel
theorem d_X7_usedRooms_16 : decode mX7_usedRooms.2.1 16 = .ok (.iload_n 3, 1) := by decide +kernel
theorem d_X7_usedRooms_17 : decode mX7_usedRooms.2.1 17 = .ok (.aload_n 0, 1) := by decide +kernel
theorem d_X7_usedRooms_18 : decode mX7_usedRooms.2.1 18 = .ok (.iload 4, 2) := by decide +kernel
theorem d_X7_usedRooms_20 : decode mX7_usedRooms.2.1 20 = .ok (.iload_n 1, 1) := by decide +kernel
theorem d_X7_usedRooms_21 : decode mX7_usedRooms.2.1 21 = .ok (.iload_n 2, 1) := by decide +kernel
theorem d_X7_usedRooms_22 : decode mX7_usedRooms.2.1 22 = .ok (.invokevirtual 69, 3) := by decide +kernel
theorem d_X7_usedRooms_25 : decode mX7_usedRooms.2.1 25 = .ok (.ifCond .eq 15, 3) := by decide +kernel
theorem d_X7_usedRooms_28 : decode mX7_usedRooms.2.1 28 = .ok (.iconst 1, 1) := by decide +kernel
theorem d_X7_usedRooms_29 : decode mX7_usedRooms.2.1 29 = .ok (.aload_n 0, 1) := by decide +kernel
theorem d_X7_usedRooms_30 : decode mX7_usedRooms.2.1 30 = .ok (.iload 4, 2) := by decide +kernel
theorem d_X7_usedRooms_32 : decode mX7_usedRooms.2.1 32 = .ok (.iconst 4, 1) := by decide +kernel
theorem d_X7_usedRooms_33 : decode mX7_usedRooms.2.1 33 = .ok (.invokevirtual 45, 3) := by decide +kernel
theorem d_X7_usedRooms_36 : decode mX7_usedRooms.2.1 36 = .ok (.ishl, 1) := by decide +kernel
theorem d_X7_usedRooms_37 : decode mX7_usedRooms.2.1 37 = .ok (.goto 4, 3) := by decide +kernel
theorem d_X7_usedRooms_40 : decode mX7_usedRooms.2.1 40 = .ok (.iconst 0, 1) := by decide +kernel
theorem d_X7_usedRooms_41 : decode mX7_usedRooms.2.1 41 = .ok (.ior, 1) := by decide +kernel
theorem d_X7_usedRooms_42 : decode mX7_usedRooms.2.1 42 = .ok (.istore_n 3, 1) := by decide +kernel
theorem d_X7_usedRooms_43 : decode mX7_usedRooms.2.1 43 = .ok (.iinc 4 1, 3) := by decide +kernel
theorem d_X7_usedRooms_46 : decode mX7_usedRooms.2.1 46 = .ok (.goto (-41), 3) := by decide +kernel
theorem d_X7_usedRooms_49 : decode mX7_usedRooms.2.1 49 = .ok (.iload_n 3, 1) := by decide +kernel
theorem d_X7_usedRooms_50 : decode mX7_usedRooms.2.1 50 = .ok (.ireturn, 1) := by decide +kernel
def T_X7_usedRooms_41 (κ5 : Nat → Int32 → Int32 → Int32 → Int32 → Mem → Prop) (Q : Int32 → Mem → Prop) (v0 : Nat) (v1 : Int32) (v2 : Int32) (v4 : Int32) (s0 : Int32) (s1 : Int32) (M : Mem) : Prop := ∀ x1 : Int32, x1 = s1 ||| s0 → ∀ x2 : Int32, x2 = v4 + 1 → κ5 v0 v1 v2 x1 x2 M
set_option maxRecDepth 100000 in
set_option maxHeartbeats 4000000 in
theorem B_X7_usedRooms_41 {g : GG} (Q : Int32 → Mem → Prop) (κ5 : Nat → Int32 → Int32 → Int32 → Int32 → Mem → Prop) (hκ5 : ∀ (v0 : Nat) (v1 : Int32) (v2 : Int32) (v3 : Int32) (v4 : Int32) (M : Mem), κ5 v0 v1 v2 v3 v4 M → WP g 12 mX7_usedRooms 5 [some (.ref (g.1 + v0)), some (.int v1), some (.int v2), some (.int v3), some (.int v4)] [] M 0 (oI Q noX)) (v0 : Nat) (v1 : Int32) (v2 : Int32) (v4 : Int32) (s0 : Int32) (s1 : Int32) (M : Mem) (h : T_X7_usedRooms_41 κ5 Q v0 v1 v2 v4 s0 s1 M) : WP g 12 mX7_usedRooms 41 [some (.ref (g.1 + v0)), some (.int v1), some (.int v2), none, some (.int v4)] [.int s0, .int s1] M 0 (oI Q noX) := by
  unfold T_X7_usedRooms_41 at h
  refine R_ior (pc := 41) d_X7_usedRooms_41 ?_
  refine N_i (fun x1 ex1 => ?_)
  have h := h x1 ex1
  refine R_istore_n (pc := 42) (L' := [some (.ref (g.1 + v0)), some (.int v1), some (.int v2), some (.int x1), some (.int v4)]) d_X7_usedRooms_42 rfl (by decide) rfl ?_
  obtain ⟨x2, ex2⟩ : ∃ z : Int32, z = v4 + 1 := ⟨_, rfl⟩
  have h := h x2 ex2
  refine R_iinc (pc := 43) (v := x2) (L' := [some (.ref (g.1 + v0)), some (.int v1), some (.int v2), some (.int x1), some (.int x2)]) d_X7_usedRooms_43 rfl (by rw [ex2]; rfl) (by decide) rfl ?_
  refine R_goto (pc := 46) (tgt := 5) d_X7_usedRooms_46 (by decide) ?_
  exact WP_sub (hκ5 v0 v1 v2 x1 x2 M h) (by decide) (ls_s (ls_s (ls_s (ls_s (ls_s ls_0)))))
def T_X7_usedRooms_5 (Q : Int32 → Mem → Prop) : Nat → Nat → Int32 → Int32 → Int32 → Int32 → Mem → Prop
  | 0, _, _, _, _, _, _ => False
  | n + 1, v0, v1, v2, v3, v4, M => (kd v0 = 7) ∧ (kd (rf v0 1) = 9) ∧ (vp_in 4 (ln (rf v0 1))) ∧ if (M.1 (rf v0 1) (Int32.toNatClampNeg 4)) ≤ v4 then (Q v3 M) else (T_X7_isIn (fun y5 M4 => if y5 = 0 then (T_X7_usedRooms_41 (T_X7_usedRooms_5 Q n) Q v0 v1 v2 v4 0 v3 M4) else (T_X7_of (fun y7 M6 => T_X7_usedRooms_41 (T_X7_usedRooms_5 Q n) Q v0 v1 v2 v4 (1 <<< (y7 &&& 31)) v3 M6)  v0 v4 4 M4))  v0 v4 v1 v2 M)
set_option maxRecDepth 100000 in
set_option maxHeartbeats 4000000 in
theorem B_X7_usedRooms_5 {g : GG} (Q : Int32 → Mem → Prop) : ∀ (n : Nat) (v0 : Nat) (v1 : Int32) (v2 : Int32) (v3 : Int32) (v4 : Int32) (M : Mem), T_X7_usedRooms_5 Q n v0 v1 v2 v3 v4 M → WP g 12 mX7_usedRooms 5 [some (.ref (g.1 + v0)), some (.int v1), some (.int v2), some (.int v3), some (.int v4)] [] M 0 (oI Q noX) := by
  intro n
  induction n with
  | zero => intro v0 v1 v2 v3 v4 M h; exact h.elim
  | succ n hκ5 =>
    intro v0 v1 v2 v3 v4 M h
    unfold T_X7_usedRooms_5 at h
    refine R_iload (pc := 5) d_X7_usedRooms_5 rfl ?_
    refine R_aload_n (pc := 7) d_X7_usedRooms_7 rfl rfl ?_
    obtain ⟨k1, h⟩ := h
    refine R_getR (pc := 8) fld_RX7_7 rfl rfl k1 d_X7_usedRooms_8 ?_
    refine R_iconst (pc := 11) (v := 4) d_X7_usedRooms_11 (by decide) ?_
    obtain ⟨k2, h⟩ := h
    obtain ⟨k3, h⟩ := h
    refine R_iald (pc := 12) k2 k3 d_X7_usedRooms_12 ?_
    refine R_icmp_ge (pc := 13) (tgt := 49) d_X7_usedRooms_13 (by decide) (fun c => ?_) (fun c => ?_)
    · rw [if_pos c] at h
      refine R_iload_n (pc := 49) d_X7_usedRooms_49 rfl rfl ?_
      exact R_retv (pc := 50) d_X7_usedRooms_50 h
    · rw [if_neg c] at h
      refine R_iload_n (pc := 16) d_X7_usedRooms_16 rfl rfl ?_
      refine R_aload_n (pc := 17) d_X7_usedRooms_17 rfl rfl ?_
      refine R_iload (pc := 18) d_X7_usedRooms_18 rfl ?_
      refine R_iload_n (pc := 20) d_X7_usedRooms_20 rfl rfl ?_
      refine R_iload_n (pc := 21) d_X7_usedRooms_21 rfl rfl ?_
      refine R_callV (pc := 22) (As := [.int v4, .int v1, .int v2]) (rest := [.int v3]) (c_X7_isIn (g := g) v0 v4 v1 v2 M _ h) rfl rfl cal_RX7_69 ins_X7_isIn sel_X7_isIn (cls_at k1 clsOK7) (by decide) (by decide) rfl rfl (Nat.le_of_ble_eq_true rfl) d_X7_usedRooms_22 (k_Z (fun y5 M4 h => ?_)) (fun _ _ h9 => False.elim h9)
      try dsimp only at h
      refine R_if_eq (pc := 25) (tgt := 40) d_X7_usedRooms_25 (by decide) (fun c => ?_) (fun c => ?_)
      · rw [if_pos c] at h
        refine R_iconst (pc := 40) (v := 0) d_X7_usedRooms_40 (by decide) ?_
        exact WP_sub (B_X7_usedRooms_41 Q (T_X7_usedRooms_5 Q n) hκ5 v0 v1 v2 v4 0 v3 M4 h) (by decide) (ls_s (ls_s (ls_s (ls_n (ls_s ls_0)))))
      · rw [if_neg c] at h
        refine R_iconst (pc := 28) (v := 1) d_X7_usedRooms_28 (by decide) ?_
        refine R_aload_n (pc := 29) d_X7_usedRooms_29 rfl rfl ?_
        refine R_iload (pc := 30) d_X7_usedRooms_30 rfl ?_
        refine R_iconst (pc := 32) (v := 4) d_X7_usedRooms_32 (by decide) ?_
        refine R_callV (pc := 33) (As := [.int v4, .int 4]) (rest := [.int 1, .int v3]) (c_X7_of (g := g) v0 v4 4 M4 _ h) rfl rfl cal_RX7_45 ins_X7_of sel_X7_of (cls_at k1 clsOK7) (by decide) (by decide) rfl rfl (Nat.le_of_ble_eq_true rfl) d_X7_usedRooms_33 (k_I (fun y7 M6 h => ?_)) (fun _ _ h9 => False.elim h9)
        try dsimp only at h
        refine R_ishl (pc := 36) d_X7_usedRooms_36 ?_
        refine R_goto (pc := 37) (tgt := 41) d_X7_usedRooms_37 (by decide) ?_
        exact WP_sub (B_X7_usedRooms_41 Q (T_X7_usedRooms_5 Q n) hκ5 v0 v1 v2 v4 (1 <<< (y7 &&& 31)) v3 M6 h) (by decide) (ls_s (ls_s (ls_s (ls_n (ls_s ls_0)))))
def T_X7_usedRooms (Q : Int32 → Mem → Prop) (v0 : Nat) (v1 : Int32) (v2 : Int32) (M : Mem) : Prop := (∃ N : Nat, T_X7_usedRooms_5 Q N v0 v1 v2 0 0 M)
set_option maxRecDepth 100000 in
set_option maxHeartbeats 4000000 in
theorem c_X7_usedRooms {g : GG} (v0 : Nat) (v1 : Int32) (v2 : Int32) (M : Mem) (Q : Int32 → Mem → Prop) (h : T_X7_usedRooms Q v0 v1 v2 M) : CT g 12 mX7_usedRooms [.ref (g.1 + v0), .int v1, .int v2] M 0 (oI Q noX) := by
  refine CT_of (L := [some (.ref (g.1 + v0)), some (.int v1), some (.int v2), none, none]) (by decide) rfl (Nat.le_of_ble_eq_true rfl) (ro_I rfl) rfl ?_
  unfold T_X7_usedRooms at h
  refine R_iconst (pc := 0) (v := 0) d_X7_usedRooms_0 (by decide) ?_
  refine R_istore_n (pc := 1) (L' := [some (.ref (g.1 + v0)), some (.int v1), some (.int v2), some (.int 0), none]) d_X7_usedRooms_1 rfl (by decide) rfl ?_
  refine R_iconst (pc := 2) (v := 0) d_X7_usedRooms_2 (by decide) ?_
  refine R_istore (pc := 3) (L' := [some (.ref (g.1 + v0)), some (.int v1), some (.int v2), some (.int 0), some (.int 0)]) d_X7_usedRooms_3 (by decide) rfl ?_
  obtain ⟨N, h⟩ := h
  exact WP_sub (B_X7_usedRooms_5 Q N v0 v1 v2 0 0 M h) (by decide) (ls_s (ls_s (ls_s (ls_s (ls_s ls_0)))))
/-! X7_searchesOf -/
theorem d_X7_searchesOf_0 : decode mX7_searchesOf.2.1 0 = .ok (.aload_n 0, 1) := by decide +kernel
theorem d_X7_searchesOf_1 : decode mX7_searchesOf.2.1 1 = .ok (.getfield 7, 3) := by decide +kernel
theorem d_X7_searchesOf_4 : decode mX7_searchesOf.2.1 4 = .ok (.bipush 66, 2) := by decide +kernel
theorem d_X7_searchesOf_6 : decode mX7_searchesOf.2.1 6 = .ok (.aload_n 0, 1) := by decide +kernel
theorem d_X7_searchesOf_7 : decode mX7_searchesOf.2.1 7 = .ok (.iload_n 1, 1) := by decide +kernel
theorem d_X7_searchesOf_8 : decode mX7_searchesOf.2.1 8 = .ok (.iconst 4, 1) := by decide +kernel
theorem d_X7_searchesOf_9 : decode mX7_searchesOf.2.1 9 = .ok (.invokevirtual 45, 3) := by decide +kernel
theorem d_X7_searchesOf_12 : decode mX7_searchesOf.2.1 12 = .ok (.iadd, 1) := by decide +kernel
theorem d_X7_searchesOf_13 : decode mX7_searchesOf.2.1 13 = .ok (.iaload, 1) := by decide +kernel
theorem d_X7_searchesOf_14 : decode mX7_searchesOf.2.1 14 = .ok (.iconst 1, 1) := by decide +kernel
theorem d_X7_searchesOf_15 : decode mX7_searchesOf.2.1 15 = .ok (.if_icmp .ne 7, 3) := by decide +kernel
theorem d_X7_searchesOf_18 : decode mX7_searchesOf.2.1 18 = .ok (.iconst 0, 1) := by decide +kernel
theorem d_X7_searchesOf_19 : decode mX7_searchesOf.2.1 19 = .ok (.goto 12, 3) := by decide +kernel
theorem d_X7_searchesOf_22 : decode mX7_searchesOf.2.1 22 = .ok (.aload_n 0, 1) := by decide +kernel
theorem d_X7_searchesOf_23 : decode mX7_searchesOf.2.1 23 = .ok (.iload_n 1, 1) := by decide +kernel
theorem d_X7_searchesOf_24 : decode mX7_searchesOf.2.1 24 = .ok (.iconst 1, 1) := by decide +kernel
theorem d_X7_searchesOf_25 : decode mX7_searchesOf.2.1 25 = .ok (.invokevirtual 45, 3) := by decide +kernel
theorem d_X7_searchesOf_28 : decode mX7_searchesOf.2.1 28 = .ok (.invokestatic 72, 3) := by decide +kernel
theorem d_X7_searchesOf_31 : decode mX7_searchesOf.2.1 31 = .ok (.ireturn, 1) := by decide +kernel
def T_X7_searchesOf_31 (Q : Int32 → Mem → Prop) (s0 : Int32) (M : Mem) : Prop := Q s0 M
set_option maxRecDepth 100000 in
set_option maxHeartbeats 4000000 in
theorem B_X7_searchesOf_31 {g : GG} (Q : Int32 → Mem → Prop) (s0 : Int32) (M : Mem) (h : T_X7_searchesOf_31 Q s0 M) : WP g 10 mX7_searchesOf 31 [none, none] [.int s0] M 0 (oI Q noX) := by
  unfold T_X7_searchesOf_31 at h
  exact R_retv (pc := 31) d_X7_searchesOf_31 h
def T_X7_searchesOf (Q : Int32 → Mem → Prop) (v0 : Nat) (v1 : Int32) (M : Mem) : Prop := (kd v0 = 7) ∧ T_X7_of (fun y3 M2 => (kd (rf v0 1) = 9) ∧ (vp_in (66 + y3) (ln (rf v0 1))) ∧ if (M2.1 (rf v0 1) (Int32.toNatClampNeg (66 + y3))) = (1 : Int32) then (T_X7_searchesOf_31 Q 0 M2) else (T_X7_of (fun y7 M6 => T_X7_bits (fun y9 M8 => T_X7_searchesOf_31 Q y9 M8)  y7 M6)  v0 v1 1 M2))  v0 v1 4 M
set_option maxRecDepth 100000 in
set_option maxHeartbeats 4000000 in
theorem c_X7_searchesOf {g : GG} (v0 : Nat) (v1 : Int32) (M : Mem) (Q : Int32 → Mem → Prop) (h : T_X7_searchesOf Q v0 v1 M) : CT g 10 mX7_searchesOf [.ref (g.1 + v0), .int v1] M 0 (oI Q noX) := by
  refine CT_of (L := [some (.ref (g.1 + v0)), some (.int v1)]) (by decide) rfl (Nat.le_of_ble_eq_true rfl) (ro_I rfl) rfl ?_
  unfold T_X7_searchesOf at h
  refine R_aload_n (pc := 0) d_X7_searchesOf_0 rfl rfl ?_
  obtain ⟨k1, h⟩ := h
  refine R_getR (pc := 1) fld_RX7_7 rfl rfl k1 d_X7_searchesOf_1 ?_
  refine R_bipush (pc := 4) (v := 66) d_X7_searchesOf_4 (by decide) ?_
  refine R_aload_n (pc := 6) d_X7_searchesOf_6 rfl rfl ?_
  refine R_iload_n (pc := 7) d_X7_searchesOf_7 rfl rfl ?_
  refine R_iconst (pc := 8) (v := 4) d_X7_searchesOf_8 (by decide) ?_
  refine R_callV (pc := 9) (As := [.int v1, .int 4]) (rest := [.int 66, .ref (g.1 + (rf v0 1))]) (c_X7_of (g := g) v0 v1 4 M _ h) rfl rfl cal_RX7_45 ins_X7_of sel_X7_of (cls_at k1 clsOK7) (by decide) (by decide) rfl rfl (Nat.le_of_ble_eq_true rfl) d_X7_searchesOf_9 (k_I (fun y3 M2 h => ?_)) (fun _ _ h9 => False.elim h9)
  try dsimp only at h
  refine R_iadd (pc := 12) d_X7_searchesOf_12 ?_
  obtain ⟨k4, h⟩ := h
  obtain ⟨k5, h⟩ := h
  refine R_iald (pc := 13) k4 k5 d_X7_searchesOf_13 ?_
  refine R_iconst (pc := 14) (v := 1) d_X7_searchesOf_14 (by decide) ?_
  refine R_icmp_ne (pc := 15) (tgt := 22) d_X7_searchesOf_15 (by decide) (fun c => ?_) (fun c => ?_)
  · rw [if_neg c] at h
    refine R_aload_n (pc := 22) d_X7_searchesOf_22 rfl rfl ?_
    refine R_iload_n (pc := 23) d_X7_searchesOf_23 rfl rfl ?_
    refine R_iconst (pc := 24) (v := 1) d_X7_searchesOf_24 (by decide) ?_
    refine R_callV (pc := 25) (As := [.int v1, .int 1]) (rest := []) (c_X7_of (g := g) v0 v1 1 M2 _ h) rfl rfl cal_RX7_45 ins_X7_of sel_X7_of (cls_at k1 clsOK7) (by decide) (by decide) rfl rfl (Nat.le_of_ble_eq_true rfl) d_X7_searchesOf_25 (k_I (fun y7 M6 h => ?_)) (fun _ _ h9 => False.elim h9)
    try dsimp only at h
    refine R_callS (pc := 28) (As := [.int y7]) (rest := []) (c_X7_bits (g := g) y7 M6 _ h) rfl rfl cal_RX7_72 sta_X7_bits (by decide) (by decide) rfl rfl (Nat.le_of_ble_eq_true rfl) d_X7_searchesOf_28 (k_I (fun y9 M8 h => ?_)) (fun _ _ h9 => False.elim h9)
    try dsimp only at h
    exact WP_sub (B_X7_searchesOf_31 Q y9 M8 h) (by decide) (ls_n (ls_n ls_0))
  · rw [if_pos c] at h
    refine R_iconst (pc := 18) (v := 0) d_X7_searchesOf_18 (by decide) ?_
    refine R_goto (pc := 19) (tgt := 31) d_X7_searchesOf_19 (by decide) ?_
    exact WP_sub (B_X7_searchesOf_31 Q 0 M2 h) (by decide) (ls_n (ls_n ls_0))
/-! X7_left -/
theorem d_X7_left_0 : decode mX7_left.2.1 0 = .ok (.aload_n 0, 1) := by decide +kernel
theorem d_X7_left_1 : decode mX7_left.2.1 1 = .ok (.getfield 7, 3) := by decide +kernel
theorem d_X7_left_4 : decode mX7_left.2.1 4 = .ok (.bipush 11, 2) := by decide +kernel
theorem d_X7_left_6 : decode mX7_left.2.1 6 = .ok (.iaload, 1) := by decide +kernel
theorem d_X7_left_7 : decode mX7_left.2.1 7 = .ok (.istore_n 3, 1) := by decide +kernel
theorem d_X7_left_8 : decode mX7_left.2.1 8 = .ok (.iconst 0, 1) := by decide +kernel
theorem d_X7_left_9 : decode mX7_left.2.1 9 = .ok (.istore 4, 2) := by decide +kernel
theorem d_X7_left_11 : decode mX7_left.2.1 11 = .ok (.iload 4, 2) := by decide +kernel
theorem d_X7_left_13 : decode mX7_left.2.1 13 = .ok (.aload_n 0, 1) := by decide +kernel
theorem d_X7_left_14 : decode mX7_left.2.1 14 = .ok (.getfield 7, 3) := by decide +kernel
theorem d_X7_left_17 : decode mX7_left.2.1 17 = .ok (.iconst 4, 1) := by decide +kernel
theorem d_X7_left_18 : decode mX7_left.2.1 18 = .ok (.iaload, 1) := by decide +kernel
theorem d_X7_left_19 : decode mX7_left.2.1 19 = .ok (.if_icmp .ge 33, 3) := by decide +kernel
theorem d_X7_left_22 : decode mX7_left.2.1 22 = .ok (.iload_n 3, 1) := by decide +kernel
theorem d_X7_left_23 : decode mX7_left.2.1 23 = .ok (.aload_n 0, 1) := by decide +kernel
theorem d_X7_left_24 : decode mX7_left.2.1 24 = .ok (.iload 4, 2) := by decide +kernel
theorem d_X7_left_26 : decode mX7_left.2.1 26 = .ok (.iload_n 1, 1) := by decide +kernel
theorem d_X7_left_27 : decode mX7_left.2.1 27 = .ok (.iload_n 2, 1) := by decide +kernel
theorem d_X7_left_28 : decode mX7_left.2.1 28 = .ok (.invokevirtual 69, 3) := by decide +kernel
theorem d_X7_left_31 : decode mX7_left.2.1 31 = .ok (.ifCond .eq 12, 3) := by decide +kernel
theorem d_X7_left_34 : decode mX7_left.2.1 34 = .ok (.aload_n 0, 1) := by decide +kernel
theorem d_X7_left_35 : decode mX7_left.2.1 35 = .ok (.iload 4, 2) := by decide +kernel
theorem d_X7_left_37 : decode mX7_left.2.1 37 = .ok (.invokevirtual 75, 3) := by decide +kernel
theorem d_X7_left_40 : decode mX7_left.2.1 40 = .ok (.goto 4, 3) := by decide +kernel
theorem d_X7_left_43 : decode mX7_left.2.1 43 = .ok (.iconst 0, 1) := by decide +kernel
theorem d_X7_left_44 : decode mX7_left.2.1 44 = .ok (.isub, 1) := by decide +kernel
theorem d_X7_left_45 : decode mX7_left.2.1 45 = .ok (.istore_n 3, 1) := by decide +kernel
theorem d_X7_left_46 : decode mX7_left.2.1 46 = .ok (.iinc 4 1, 3) := by decide +kernel
theorem d_X7_left_49 : decode mX7_left.2.1 49 = .ok (.goto (-38), 3) := by decide +kernel
theorem d_X7_left_52 : decode mX7_left.2.1 52 = .ok (.iload_n 3, 1) := by decide +kernel
theorem d_X7_left_53 : decode mX7_left.2.1 53 = .ok (.ireturn, 1) := by decide +kernel
def T_X7_left_44 (κ11 : Nat → Int32 → Int32 → Int32 → Int32 → Mem → Prop) (Q : Int32 → Mem → Prop) (v0 : Nat) (v1 : Int32) (v2 : Int32) (v4 : Int32) (s0 : Int32) (s1 : Int32) (M : Mem) : Prop := ∀ x1 : Int32, x1 = s1 - s0 → ∀ x2 : Int32, x2 = v4 + 1 → κ11 v0 v1 v2 x1 x2 M
set_option maxRecDepth 100000 in
set_option maxHeartbeats 4000000 in
theorem B_X7_left_44 {g : GG} (Q : Int32 → Mem → Prop) (κ11 : Nat → Int32 → Int32 → Int32 → Int32 → Mem → Prop) (hκ11 : ∀ (v0 : Nat) (v1 : Int32) (v2 : Int32) (v3 : Int32) (v4 : Int32) (M : Mem), κ11 v0 v1 v2 v3 v4 M → WP g 12 mX7_left 11 [some (.ref (g.1 + v0)), some (.int v1), some (.int v2), some (.int v3), some (.int v4)] [] M 0 (oI Q noX)) (v0 : Nat) (v1 : Int32) (v2 : Int32) (v4 : Int32) (s0 : Int32) (s1 : Int32) (M : Mem) (h : T_X7_left_44 κ11 Q v0 v1 v2 v4 s0 s1 M) : WP g 12 mX7_left 44 [some (.ref (g.1 + v0)), some (.int v1), some (.int v2), none, some (.int v4)] [.int s0, .int s1] M 0 (oI Q noX) := by
  unfold T_X7_left_44 at h
  refine R_isub (pc := 44) d_X7_left_44 ?_
  refine N_i (fun x1 ex1 => ?_)
  have h := h x1 ex1
  refine R_istore_n (pc := 45) (L' := [some (.ref (g.1 + v0)), some (.int v1), some (.int v2), some (.int x1), some (.int v4)]) d_X7_left_45 rfl (by decide) rfl ?_
  obtain ⟨x2, ex2⟩ : ∃ z : Int32, z = v4 + 1 := ⟨_, rfl⟩
  have h := h x2 ex2
  refine R_iinc (pc := 46) (v := x2) (L' := [some (.ref (g.1 + v0)), some (.int v1), some (.int v2), some (.int x1), some (.int x2)]) d_X7_left_46 rfl (by rw [ex2]; rfl) (by decide) rfl ?_
  refine R_goto (pc := 49) (tgt := 11) d_X7_left_49 (by decide) ?_
  exact WP_sub (hκ11 v0 v1 v2 x1 x2 M h) (by decide) (ls_s (ls_s (ls_s (ls_s (ls_s ls_0)))))
def T_X7_left_11 (Q : Int32 → Mem → Prop) : Nat → Nat → Int32 → Int32 → Int32 → Int32 → Mem → Prop
  | 0, _, _, _, _, _, _ => False
  | n + 1, v0, v1, v2, v3, v4, M => (kd v0 = 7) ∧ (kd (rf v0 1) = 9) ∧ (vp_in 4 (ln (rf v0 1))) ∧ if (M.1 (rf v0 1) (Int32.toNatClampNeg 4)) ≤ v4 then (Q v3 M) else (T_X7_isIn (fun y5 M4 => if y5 = 0 then (T_X7_left_44 (T_X7_left_11 Q n) Q v0 v1 v2 v4 0 v3 M4) else (T_X7_searchesOf (fun y7 M6 => T_X7_left_44 (T_X7_left_11 Q n) Q v0 v1 v2 v4 y7 v3 M6)  v0 v4 M4))  v0 v4 v1 v2 M)
set_option maxRecDepth 100000 in
set_option maxHeartbeats 4000000 in
theorem B_X7_left_11 {g : GG} (Q : Int32 → Mem → Prop) : ∀ (n : Nat) (v0 : Nat) (v1 : Int32) (v2 : Int32) (v3 : Int32) (v4 : Int32) (M : Mem), T_X7_left_11 Q n v0 v1 v2 v3 v4 M → WP g 12 mX7_left 11 [some (.ref (g.1 + v0)), some (.int v1), some (.int v2), some (.int v3), some (.int v4)] [] M 0 (oI Q noX) := by
  intro n
  induction n with
  | zero => intro v0 v1 v2 v3 v4 M h; exact h.elim
  | succ n hκ11 =>
    intro v0 v1 v2 v3 v4 M h
    unfold T_X7_left_11 at h
    refine R_iload (pc := 11) d_X7_left_11 rfl ?_
    refine R_aload_n (pc := 13) d_X7_left_13 rfl rfl ?_
    obtain ⟨k1, h⟩ := h
    refine R_getR (pc := 14) fld_RX7_7 rfl rfl k1 d_X7_left_14 ?_
    refine R_iconst (pc := 17) (v := 4) d_X7_left_17 (by decide) ?_
    obtain ⟨k2, h⟩ := h
    obtain ⟨k3, h⟩ := h
    refine R_iald (pc := 18) k2 k3 d_X7_left_18 ?_
    refine R_icmp_ge (pc := 19) (tgt := 52) d_X7_left_19 (by decide) (fun c => ?_) (fun c => ?_)
    · rw [if_pos c] at h
      refine R_iload_n (pc := 52) d_X7_left_52 rfl rfl ?_
      exact R_retv (pc := 53) d_X7_left_53 h
    · rw [if_neg c] at h
      refine R_iload_n (pc := 22) d_X7_left_22 rfl rfl ?_
      refine R_aload_n (pc := 23) d_X7_left_23 rfl rfl ?_
      refine R_iload (pc := 24) d_X7_left_24 rfl ?_
      refine R_iload_n (pc := 26) d_X7_left_26 rfl rfl ?_
      refine R_iload_n (pc := 27) d_X7_left_27 rfl rfl ?_
      refine R_callV (pc := 28) (As := [.int v4, .int v1, .int v2]) (rest := [.int v3]) (c_X7_isIn (g := g) v0 v4 v1 v2 M _ h) rfl rfl cal_RX7_69 ins_X7_isIn sel_X7_isIn (cls_at k1 clsOK7) (by decide) (by decide) rfl rfl (Nat.le_of_ble_eq_true rfl) d_X7_left_28 (k_Z (fun y5 M4 h => ?_)) (fun _ _ h9 => False.elim h9)
      try dsimp only at h
      refine R_if_eq (pc := 31) (tgt := 43) d_X7_left_31 (by decide) (fun c => ?_) (fun c => ?_)
      · rw [if_pos c] at h
        refine R_iconst (pc := 43) (v := 0) d_X7_left_43 (by decide) ?_
        exact WP_sub (B_X7_left_44 Q (T_X7_left_11 Q n) hκ11 v0 v1 v2 v4 0 v3 M4 h) (by decide) (ls_s (ls_s (ls_s (ls_n (ls_s ls_0)))))
      · rw [if_neg c] at h
        refine R_aload_n (pc := 34) d_X7_left_34 rfl rfl ?_
        refine R_iload (pc := 35) d_X7_left_35 rfl ?_
        refine R_callV (pc := 37) (As := [.int v4]) (rest := [.int v3]) (c_X7_searchesOf (g := g) v0 v4 M4 _ h) rfl rfl cal_RX7_75 ins_X7_searchesOf sel_X7_searchesOf (cls_at k1 clsOK7) (by decide) (by decide) rfl rfl (Nat.le_of_ble_eq_true rfl) d_X7_left_37 (k_I (fun y7 M6 h => ?_)) (fun _ _ h9 => False.elim h9)
        try dsimp only at h
        refine R_goto (pc := 40) (tgt := 44) d_X7_left_40 (by decide) ?_
        exact WP_sub (B_X7_left_44 Q (T_X7_left_11 Q n) hκ11 v0 v1 v2 v4 y7 v3 M6 h) (by decide) (ls_s (ls_s (ls_s (ls_n (ls_s ls_0)))))
def T_X7_left (Q : Int32 → Mem → Prop) (v0 : Nat) (v1 : Int32) (v2 : Int32) (M : Mem) : Prop := (kd v0 = 7) ∧ (kd (rf v0 1) = 9) ∧ (vp_in 11 (ln (rf v0 1))) ∧ ∀ x4 : Int32, x4 = M.1 (rf v0 1) (Int32.toNatClampNeg 11) → (∃ N : Nat, T_X7_left_11 Q N v0 v1 v2 x4 0 M)
set_option maxRecDepth 100000 in
set_option maxHeartbeats 4000000 in
theorem c_X7_left {g : GG} (v0 : Nat) (v1 : Int32) (v2 : Int32) (M : Mem) (Q : Int32 → Mem → Prop) (h : T_X7_left Q v0 v1 v2 M) : CT g 12 mX7_left [.ref (g.1 + v0), .int v1, .int v2] M 0 (oI Q noX) := by
  refine CT_of (L := [some (.ref (g.1 + v0)), some (.int v1), some (.int v2), none, none]) (by decide) rfl (Nat.le_of_ble_eq_true rfl) (ro_I rfl) rfl ?_
  unfold T_X7_left at h
  refine R_aload_n (pc := 0) d_X7_left_0 rfl rfl ?_
  obtain ⟨k1, h⟩ := h
  refine R_getR (pc := 1) fld_RX7_7 rfl rfl k1 d_X7_left_1 ?_
  refine R_bipush (pc := 4) (v := 11) d_X7_left_4 (by decide) ?_
  obtain ⟨k2, h⟩ := h
  obtain ⟨k3, h⟩ := h
  refine R_iald (pc := 6) k2 k3 d_X7_left_6 ?_
  refine N_i (fun x4 ex4 => ?_)
  have h := h x4 ex4
  refine R_istore_n (pc := 7) (L' := [some (.ref (g.1 + v0)), some (.int v1), some (.int v2), some (.int x4), none]) d_X7_left_7 rfl (by decide) rfl ?_
  refine R_iconst (pc := 8) (v := 0) d_X7_left_8 (by decide) ?_
  refine R_istore (pc := 9) (L' := [some (.ref (g.1 + v0)), some (.int v1), some (.int v2), some (.int x4), some (.int 0)]) d_X7_left_9 (by decide) rfl ?_
  obtain ⟨N, h⟩ := h
  exact WP_sub (B_X7_left_11 Q N v0 v1 v2 x4 0 M h) (by decide) (ls_s (ls_s (ls_s (ls_s (ls_s ls_0)))))
