/-! X0_passDays -/
theorem d_X0_passDays_0 : decode mX0_passDays.2.1 0 = .ok (.aload_n 0, 1) := by decide +kernel
theorem d_X0_passDays_1 : decode mX0_passDays.2.1 1 = .ok (.getfield 9, 3) := by decide +kernel
theorem d_X0_passDays_4 : decode mX0_passDays.2.1 4 = .ok (.dup, 1) := by decide +kernel
theorem d_X0_passDays_5 : decode mX0_passDays.2.1 5 = .ok (.getfield 85, 3) := by decide +kernel
theorem d_X0_passDays_8 : decode mX0_passDays.2.1 8 = .ok (.iload_n 1, 1) := by decide +kernel
theorem d_X0_passDays_9 : decode mX0_passDays.2.1 9 = .ok (.iadd, 1) := by decide +kernel
theorem d_X0_passDays_10 : decode mX0_passDays.2.1 10 = .ok (.putfield 85, 3) := by decide +kernel
theorem d_X0_passDays_13 : decode mX0_passDays.2.1 13 = .ok (.iconst 0, 1) := by decide +kernel
theorem d_X0_passDays_14 : decode mX0_passDays.2.1 14 = .ok (.istore_n 2, 1) := by decide +kernel
theorem d_X0_passDays_15 : decode mX0_passDays.2.1 15 = .ok (.iconst 0, 1) := by decide +kernel
theorem d_X0_passDays_16 : decode mX0_passDays.2.1 16 = .ok (.istore_n 3, 1) := by decide +kernel
theorem d_X0_passDays_17 : decode mX0_passDays.2.1 17 = .ok (.iload_n 3, 1) := by decide +kernel
theorem d_X0_passDays_18 : decode mX0_passDays.2.1 18 = .ok (.aload_n 0, 1) := by decide +kernel
theorem d_X0_passDays_19 : decode mX0_passDays.2.1 19 = .ok (.getfield 9, 3) := by decide +kernel
theorem d_X0_passDays_22 : decode mX0_passDays.2.1 22 = .ok (.getfield 19, 3) := by decide +kernel
theorem d_X0_passDays_25 : decode mX0_passDays.2.1 25 = .ok (.getfield 37, 3) := by decide +kernel
theorem d_X0_passDays_28 : decode mX0_passDays.2.1 28 = .ok (.if_icmp .ge 52, 3) := by decide +kernel
theorem d_X0_passDays_31 : decode mX0_passDays.2.1 31 = .ok (.aload_n 0, 1) := by decide +kernel
theorem d_X0_passDays_32 : decode mX0_passDays.2.1 32 = .ok (.getfield 9, 3) := by decide +kernel
theorem d_X0_passDays_35 : decode mX0_passDays.2.1 35 = .ok (.getfield 19, 3) := by decide +kernel
theorem d_X0_passDays_38 : decode mX0_passDays.2.1 38 = .ok (.getfield 40, 3) := by decide +kernel
theorem d_X0_passDays_41 : decode mX0_passDays.2.1 41 = .ok (.iload_n 3, 1) := by decide +kernel
theorem d_X0_passDays_42 : decode mX0_passDays.2.1 42 = .ok (.aaload, 1) := by decide +kernel
theorem d_X0_passDays_43 : decode mX0_passDays.2.1 43 = .ok (.astore 4, 2) := by decide +kernel
theorem d_X0_passDays_45 : decode mX0_passDays.2.1 45 = .ok (.aload 4, 2) := by decide +kernel
theorem d_X0_passDays_47 : decode mX0_passDays.2.1 47 = .ok (.iconst 5, 1) := by decide +kernel
theorem d_X0_passDays_48 : decode mX0_passDays.2.1 48 = .ok (.iaload, 1) := by decide +kernel
theorem d_X0_passDays_49 : decode mX0_passDays.2.1 49 = .ok (.ifCond .ne 25, 3) := by decide +kernel
theorem d_X0_passDays_52 : decode mX0_passDays.2.1 52 = .ok (.aload 4, 2) := by decide +kernel
theorem d_X0_passDays_54 : decode mX0_passDays.2.1 54 = .ok (.iconst 2, 1) := by decide +kernel
theorem d_X0_passDays_55 : decode mX0_passDays.2.1 55 = .ok (.iaload, 1) := by decide +kernel
theorem d_X0_passDays_56 : decode mX0_passDays.2.1 56 = .ok (.aload_n 0, 1) := by decide +kernel
theorem d_X0_passDays_57 : decode mX0_passDays.2.1 57 = .ok (.getfield 9, 3) := by decide +kernel
theorem d_X0_passDays_60 : decode mX0_passDays.2.1 60 = .ok (.getfield 85, 3) := by decide +kernel
theorem d_X0_passDays_63 : decode mX0_passDays.2.1 63 = .ok (.if_icmp .ge 11, 3) := by decide +kernel
theorem d_X0_passDays_66 : decode mX0_passDays.2.1 66 = .ok (.aload 4, 2) := by decide +kernel
theorem d_X0_passDays_68 : decode mX0_passDays.2.1 68 = .ok (.iconst 5, 1) := by decide +kernel
theorem d_X0_passDays_69 : decode mX0_passDays.2.1 69 = .ok (.iconst 1, 1) := by decide +kernel
theorem d_X0_passDays_70 : decode mX0_passDays.2.1 70 = .ok (.iastore, 1) := by decide +kernel
theorem d_X0_passDays_71 : decode mX0_passDays.2.1 71 = .ok (.iinc 2 1, 3) := by decide +kernel
theorem d_X0_passDays_74 : decode mX0_passDays.2.1 74 = .ok (.iinc 3 1, 3) := by decide +kernel
theorem d_X0_passDays_77 : decode mX0_passDays.2.1 77 = .ok (.goto (-60), 3) := by decide +kernel
theorem d_X0_passDays_80 : decode mX0_passDays.2.1 80 = .ok (.aload_n 0, 1) := by decide +kernel
theorem d_X0_passDays_81 : decode mX0_passDays.2.1 81 = .ok (.getfield 9, 3) := by decide +kernel
theorem d_X0_passDays_84 : decode mX0_passDays.2.1 84 = .ok (.getfield 82, 3) := by decide +kernel
theorem d_X0_passDays_87 : decode mX0_passDays.2.1 87 = .ok (.getfield 37, 3) := by decide +kernel
theorem d_X0_passDays_90 : decode mX0_passDays.2.1 90 = .ok (.iconst 1, 1) := by decide +kernel
theorem d_X0_passDays_91 : decode mX0_passDays.2.1 91 = .ok (.isub, 1) := by decide +kernel
theorem d_X0_passDays_92 : decode mX0_passDays.2.1 92 = .ok (.istore_n 3, 1) := by decide +kernel
theorem d_X0_passDays_93 : decode mX0_passDays.2.1 93 = .ok (.iload_n 3, 1) := by decide +kernel
theorem d_X0_passDays_94 : decode mX0_passDays.2.1 94 = .ok (.ifCond .lt 44, 3) := by decide +kernel
theorem d_X0_passDays_97 : decode mX0_passDays.2.1 97 = .ok (.aload_n 0, 1) := by decide +kernel
theorem d_X0_passDays_98 : decode mX0_passDays.2.1 98 = .ok (.getfield 9, 3) := by decide +kernel
theorem d_X0_passDays_101 : decode mX0_passDays.2.1 101 = .ok (.getfield 82, 3) := by decide +kernel
theorem d_X0_passDays_104 : decode mX0_passDays.2.1 104 = .ok (.getfield 40, 3) := by decide +kernel
theorem d_X0_passDays_107 : decode mX0_passDays.2.1 107 = .ok (.iload_n 3, 1) := by decide +kernel
theorem d_X0_passDays_108 : decode mX0_passDays.2.1 108 = .ok (.aaload, 1) := by decide +kernel
theorem d_X0_passDays_109 : decode mX0_passDays.2.1 109 = .ok (.iconst 3, 1) := by decide +kernel
theorem d_X0_passDays_110 : decode mX0_passDays.2.1 110 = .ok (.iaload, 1) := by decide +kernel
theorem d_X0_passDays_111 : decode mX0_passDays.2.1 111 = .ok (.aload_n 0, 1) := by decide +kernel
theorem d_X0_passDays_112 : decode mX0_passDays.2.1 112 = .ok (.getfield 9, 3) := by decide +kernel
theorem d_X0_passDays_115 : decode mX0_passDays.2.1 115 = .ok (.getfield 85, 3) := by decide +kernel
theorem d_X0_passDays_118 : decode mX0_passDays.2.1 118 = .ok (.if_icmp .ge 14, 3) := by decide +kernel
theorem d_X0_passDays_121 : decode mX0_passDays.2.1 121 = .ok (.aload_n 0, 1) := by decide +kernel
theorem d_X0_passDays_122 : decode mX0_passDays.2.1 122 = .ok (.getfield 9, 3) := by decide +kernel
theorem d_X0_passDays_125 : decode mX0_passDays.2.1 125 = .ok (.getfield 82, 3) := by decide +kernel
theorem d_X0_passDays_128 : decode mX0_passDays.2.1 128 = .ok (.iload_n 3, 1) := by decide +kernel
theorem d_X0_passDays_129 : decode mX0_passDays.2.1 129 = .ok (.invokevirtual 95, 3) := by decide +kernel
theorem d_X0_passDays_132 : decode mX0_passDays.2.1 132 = .ok (.iinc 3 (-1), 3) := by decide +kernel
theorem d_X0_passDays_135 : decode mX0_passDays.2.1 135 = .ok (.goto (-42), 3) := by decide +kernel
theorem d_X0_passDays_138 : decode mX0_passDays.2.1 138 = .ok (.iload_n 2, 1) := by decide +kernel
theorem d_X0_passDays_139 : decode mX0_passDays.2.1 139 = .ok (.ireturn, 1) := by decide +kernel
def T_X0_passDays_132 (κ93 : Nat → Int32 → Int32 → Mem → Prop) (Q : Int32 → Mem → Prop) (v0 : Nat) (v2 : Int32) (v3 : Int32) (M : Mem) : Prop := ∀ x1 : Int32, x1 = v3 + (-1) → κ93 v0 v2 x1 M
set_option maxRecDepth 100000 in
set_option maxHeartbeats 4000000 in
theorem B_X0_passDays_132 {g : GG} (Q : Int32 → Mem → Prop) (κ93 : Nat → Int32 → Int32 → Mem → Prop) (hκ93 : ∀ (v0 : Nat) (v2 : Int32) (v3 : Int32) (M : Mem), κ93 v0 v2 v3 M → WP g 10 mX0_passDays 93 [some (.ref (g.1 + v0)), none, some (.int v2), some (.int v3), none] [] M 0 (oI Q noX)) (v0 : Nat) (v2 : Int32) (v3 : Int32) (M : Mem) (h : T_X0_passDays_132 κ93 Q v0 v2 v3 M) : WP g 10 mX0_passDays 132 [some (.ref (g.1 + v0)), none, some (.int v2), some (.int v3), none] [] M 0 (oI Q noX) := by
  unfold T_X0_passDays_132 at h
  obtain ⟨x1, ex1⟩ : ∃ z : Int32, z = v3 + (-1) := ⟨_, rfl⟩
  have h := h x1 ex1
  refine R_iinc (pc := 132) (v := x1) (L' := [some (.ref (g.1 + v0)), none, some (.int v2), some (.int x1), none]) d_X0_passDays_132 rfl (by rw [ex1]; rfl) (by decide) rfl ?_
  refine R_goto (pc := 135) (tgt := 93) d_X0_passDays_135 (by decide) ?_
  exact WP_sub (hκ93 v0 v2 x1 M h) (by decide) (ls_s (ls_n (ls_s (ls_s (ls_n ls_0)))))
def T_X0_passDays_93 (Q : Int32 → Mem → Prop) : Nat → Nat → Int32 → Int32 → Mem → Prop
  | 0, _, _, _, _ => False
  | n + 1, v0, v2, v3, M => if v3 < 0 then (Q v2 M) else ((kd v0 = 0) ∧ (kd (rf v0 0) = 3) ∧ (kd (rf (rf v0 0) 7) = 4) ∧ (kd (rf (rf (rf v0 0) 7) 0) = 10 ∨ kd (rf (rf (rf v0 0) 7) 0) = 11) ∧ (vp_in v3 (ln (rf (rf (rf v0 0) 7) 0))) ∧ (kd (rf (rf (rf (rf v0 0) 7) 0) (Int32.toNatClampNeg v3)) = 9) ∧ (vp_in 3 (ln (rf (rf (rf (rf v0 0) 7) 0) (Int32.toNatClampNeg v3)))) ∧ if (M.1 (rf v0 0) 0) ≤ (M.1 (rf (rf (rf (rf v0 0) 7) 0) (Int32.toNatClampNeg v3)) (Int32.toNatClampNeg 3)) then (T_X0_passDays_132 (T_X0_passDays_93 Q n) Q v0 v2 v3 M) else (T_X4_removeRow (fun M8 => T_X0_passDays_132 (T_X0_passDays_93 Q n) Q v0 v2 v3 M8)  (rf (rf v0 0) 7) v3 M))
set_option maxRecDepth 100000 in
set_option maxHeartbeats 4000000 in
theorem B_X0_passDays_93 {g : GG} (Q : Int32 → Mem → Prop) : ∀ (n : Nat) (v0 : Nat) (v2 : Int32) (v3 : Int32) (M : Mem), T_X0_passDays_93 Q n v0 v2 v3 M → WP g 10 mX0_passDays 93 [some (.ref (g.1 + v0)), none, some (.int v2), some (.int v3), none] [] M 0 (oI Q noX) := by
  intro n
  induction n with
  | zero => intro v0 v2 v3 M h; exact h.elim
  | succ n hκ93 =>
    intro v0 v2 v3 M h
    unfold T_X0_passDays_93 at h
    refine R_iload_n (pc := 93) d_X0_passDays_93 rfl rfl ?_
    refine R_if_lt (pc := 94) (tgt := 138) d_X0_passDays_94 (by decide) (fun c => ?_) (fun c => ?_)
    · rw [if_pos c] at h
      refine R_iload_n (pc := 138) d_X0_passDays_138 rfl rfl ?_
      exact R_retv (pc := 139) d_X0_passDays_139 h
    · rw [if_neg c] at h
      refine R_aload_n (pc := 97) d_X0_passDays_97 rfl rfl ?_
      obtain ⟨k1, h⟩ := h
      refine R_getR (pc := 98) fld_RX0_9 rfl rfl k1 d_X0_passDays_98 ?_
      obtain ⟨k2, h⟩ := h
      refine R_getR (pc := 101) fld_RX0_82 rfl rfl k2 d_X0_passDays_101 ?_
      obtain ⟨k3, h⟩ := h
      refine R_getR (pc := 104) fld_RX0_40 rfl rfl k3 d_X0_passDays_104 ?_
      refine R_iload_n (pc := 107) d_X0_passDays_107 rfl rfl ?_
      obtain ⟨k4, h⟩ := h
      obtain ⟨k5, h⟩ := h
      refine R_aald (pc := 108) k4 k5 d_X0_passDays_108 ?_
      refine R_iconst (pc := 109) (v := 3) d_X0_passDays_109 (by decide) ?_
      obtain ⟨k6, h⟩ := h
      obtain ⟨k7, h⟩ := h
      refine R_iald (pc := 110) k6 k7 d_X0_passDays_110 ?_
      refine R_aload_n (pc := 111) d_X0_passDays_111 rfl rfl ?_
      refine R_getR (pc := 112) fld_RX0_9 rfl rfl k1 d_X0_passDays_112 ?_
      refine R_getI (pc := 115) fld_RX0_85 rfl rfl k2 d_X0_passDays_115 ?_
      refine R_icmp_ge (pc := 118) (tgt := 132) d_X0_passDays_118 (by decide) (fun c => ?_) (fun c => ?_)
      · rw [if_pos c] at h
        exact WP_sub (B_X0_passDays_132 Q (T_X0_passDays_93 Q n) hκ93 v0 v2 v3 M h) (by decide) (ls_s (ls_n (ls_s (ls_s (ls_n ls_0)))))
      · rw [if_neg c] at h
        refine R_aload_n (pc := 121) d_X0_passDays_121 rfl rfl ?_
        refine R_getR (pc := 122) fld_RX0_9 rfl rfl k1 d_X0_passDays_122 ?_
        refine R_getR (pc := 125) fld_RX0_82 rfl rfl k2 d_X0_passDays_125 ?_
        refine R_iload_n (pc := 128) d_X0_passDays_128 rfl rfl ?_
        refine R_callV (pc := 129) (As := [.int v3]) (rest := []) (c_X4_removeRow (g := g) (rf (rf v0 0) 7) v3 M _ h) rfl rfl cal_RX0_95 ins_X4_removeRow sel_X4_removeRow (cls_at k3 clsOK4) (by decide) (by decide) rfl rfl (Nat.le_of_ble_eq_true rfl) d_X0_passDays_129 (k_V (fun M8 h => ?_)) (fun _ _ h9 => False.elim h9)
        try dsimp only at h
        exact WP_sub (B_X0_passDays_132 Q (T_X0_passDays_93 Q n) hκ93 v0 v2 v3 M8 h) (by decide) (ls_s (ls_n (ls_s (ls_s (ls_n ls_0)))))
def T_X0_passDays_74 (κ17 : Nat → Int32 → Int32 → Mem → Prop) (Q : Int32 → Mem → Prop) (v0 : Nat) (v2 : Int32) (v3 : Int32) (M : Mem) : Prop := ∀ x1 : Int32, x1 = v3 + 1 → κ17 v0 v2 x1 M
set_option maxRecDepth 100000 in
set_option maxHeartbeats 4000000 in
theorem B_X0_passDays_74 {g : GG} (Q : Int32 → Mem → Prop) (κ17 : Nat → Int32 → Int32 → Mem → Prop) (hκ17 : ∀ (v0 : Nat) (v2 : Int32) (v3 : Int32) (M : Mem), κ17 v0 v2 v3 M → WP g 10 mX0_passDays 17 [some (.ref (g.1 + v0)), none, some (.int v2), some (.int v3), none] [] M 0 (oI Q noX)) (v0 : Nat) (v2 : Int32) (v3 : Int32) (M : Mem) (h : T_X0_passDays_74 κ17 Q v0 v2 v3 M) : WP g 10 mX0_passDays 74 [some (.ref (g.1 + v0)), none, some (.int v2), some (.int v3), none] [] M 0 (oI Q noX) := by
  unfold T_X0_passDays_74 at h
  obtain ⟨x1, ex1⟩ : ∃ z : Int32, z = v3 + 1 := ⟨_, rfl⟩
  have h := h x1 ex1
  refine R_iinc (pc := 74) (v := x1) (L' := [some (.ref (g.1 + v0)), none, some (.int v2), some (.int x1), none]) d_X0_passDays_74 rfl (by rw [ex1]; rfl) (by decide) rfl ?_
  refine R_goto (pc := 77) (tgt := 17) d_X0_passDays_77 (by decide) ?_
  exact WP_sub (hκ17 v0 v2 x1 M h) (by decide) (ls_s (ls_n (ls_s (ls_s (ls_n ls_0)))))
def T_X0_passDays_17 (Q : Int32 → Mem → Prop) : Nat → Nat → Int32 → Int32 → Mem → Prop
  | 0, _, _, _, _ => False
  | n + 1, v0, v2, v3, M => (kd v0 = 0) ∧ (kd (rf v0 0) = 3) ∧ (kd (rf (rf v0 0) 5) = 4) ∧ if (M.1 (rf (rf v0 0) 5) 2) ≤ v3 then ((kd (rf (rf v0 0) 7) = 4) ∧ ∀ x5 : Int32, x5 = (M.1 (rf (rf v0 0) 7) 2) - 1 → (∃ N : Nat, T_X0_passDays_93 Q N v0 v2 x5 M)) else ((kd (rf (rf (rf v0 0) 5) 0) = 10 ∨ kd (rf (rf (rf v0 0) 5) 0) = 11) ∧ (vp_in v3 (ln (rf (rf (rf v0 0) 5) 0))) ∧ ∀ r8 : Nat, r8 = rf (rf (rf (rf v0 0) 5) 0) (Int32.toNatClampNeg v3) → (kd r8 = 9) ∧ (vp_in 5 (ln r8)) ∧ if (M.1 r8 (Int32.toNatClampNeg 5)) = 0 then ((vp_in 2 (ln r8)) ∧ if (M.1 (rf v0 0) 0) ≤ (M.1 r8 (Int32.toNatClampNeg 2)) then (T_X0_passDays_74 (T_X0_passDays_17 Q n) Q v0 v2 v3 M) else (∀ M12 : Mem, M12 = mset M r8 (Int32.toNatClampNeg 5) 1 → ∀ x13 : Int32, x13 = v2 + 1 → T_X0_passDays_74 (T_X0_passDays_17 Q n) Q v0 x13 v3 M12)) else (T_X0_passDays_74 (T_X0_passDays_17 Q n) Q v0 v2 v3 M))
set_option maxRecDepth 100000 in
set_option maxHeartbeats 4000000 in
theorem B_X0_passDays_17 {g : GG} (Q : Int32 → Mem → Prop) : ∀ (n : Nat) (v0 : Nat) (v2 : Int32) (v3 : Int32) (M : Mem), T_X0_passDays_17 Q n v0 v2 v3 M → WP g 10 mX0_passDays 17 [some (.ref (g.1 + v0)), none, some (.int v2), some (.int v3), none] [] M 0 (oI Q noX) := by
  intro n
  induction n with
  | zero => intro v0 v2 v3 M h; exact h.elim
  | succ n hκ17 =>
    intro v0 v2 v3 M h
    unfold T_X0_passDays_17 at h
    refine R_iload_n (pc := 17) d_X0_passDays_17 rfl rfl ?_
    refine R_aload_n (pc := 18) d_X0_passDays_18 rfl rfl ?_
    obtain ⟨k1, h⟩ := h
    refine R_getR (pc := 19) fld_RX0_9 rfl rfl k1 d_X0_passDays_19 ?_
    obtain ⟨k2, h⟩ := h
    refine R_getR (pc := 22) fld_RX0_19 rfl rfl k2 d_X0_passDays_22 ?_
    obtain ⟨k3, h⟩ := h
    refine R_getI (pc := 25) fld_RX0_37 rfl rfl k3 d_X0_passDays_25 ?_
    refine R_icmp_ge (pc := 28) (tgt := 80) d_X0_passDays_28 (by decide) (fun c => ?_) (fun c => ?_)
    · rw [if_pos c] at h
      refine R_aload_n (pc := 80) d_X0_passDays_80 rfl rfl ?_
      refine R_getR (pc := 81) fld_RX0_9 rfl rfl k1 d_X0_passDays_81 ?_
      refine R_getR (pc := 84) fld_RX0_82 rfl rfl k2 d_X0_passDays_84 ?_
      obtain ⟨k4, h⟩ := h
      refine R_getI (pc := 87) fld_RX0_37 rfl rfl k4 d_X0_passDays_87 ?_
      refine R_iconst (pc := 90) (v := 1) d_X0_passDays_90 (by decide) ?_
      refine R_isub (pc := 91) d_X0_passDays_91 ?_
      refine N_i (fun x5 ex5 => ?_)
      have h := h x5 ex5
      refine R_istore_n (pc := 92) (L' := [some (.ref (g.1 + v0)), none, some (.int v2), some (.int x5), none]) d_X0_passDays_92 rfl (by decide) rfl ?_
      obtain ⟨N, h⟩ := h
      exact WP_sub (B_X0_passDays_93 Q N v0 v2 x5 M h) (by decide) (ls_s (ls_n (ls_s (ls_s (ls_n ls_0)))))
    · rw [if_neg c] at h
      refine R_aload_n (pc := 31) d_X0_passDays_31 rfl rfl ?_
      refine R_getR (pc := 32) fld_RX0_9 rfl rfl k1 d_X0_passDays_32 ?_
      refine R_getR (pc := 35) fld_RX0_19 rfl rfl k2 d_X0_passDays_35 ?_
      refine R_getR (pc := 38) fld_RX0_40 rfl rfl k3 d_X0_passDays_38 ?_
      refine R_iload_n (pc := 41) d_X0_passDays_41 rfl rfl ?_
      obtain ⟨k6, h⟩ := h
      obtain ⟨k7, h⟩ := h
      refine R_aald (pc := 42) k6 k7 d_X0_passDays_42 ?_
      refine N_r (fun r8 er8 => ?_)
      have h := h r8 er8
      refine R_astore (pc := 43) (L' := [some (.ref (g.1 + v0)), none, some (.int v2), some (.int v3), some (.ref (g.1 + r8))]) d_X0_passDays_43 (by decide) rfl ?_
      refine R_aload (pc := 45) d_X0_passDays_45 rfl ?_
      refine R_iconst (pc := 47) (v := 5) d_X0_passDays_47 (by decide) ?_
      obtain ⟨k9, h⟩ := h
      obtain ⟨k10, h⟩ := h
      refine R_iald (pc := 48) k9 k10 d_X0_passDays_48 ?_
      refine R_if_ne (pc := 49) (tgt := 74) d_X0_passDays_49 (by decide) (fun c => ?_) (fun c => ?_)
      · rw [if_neg c] at h
        exact WP_sub (B_X0_passDays_74 Q (T_X0_passDays_17 Q n) hκ17 v0 v2 v3 M h) (by decide) (ls_s (ls_n (ls_s (ls_s (ls_n ls_0)))))
      · rw [if_pos c] at h
        refine R_aload (pc := 52) d_X0_passDays_52 rfl ?_
        refine R_iconst (pc := 54) (v := 2) d_X0_passDays_54 (by decide) ?_
        obtain ⟨k11, h⟩ := h
        refine R_iald (pc := 55) k9 k11 d_X0_passDays_55 ?_
        refine R_aload_n (pc := 56) d_X0_passDays_56 rfl rfl ?_
        refine R_getR (pc := 57) fld_RX0_9 rfl rfl k1 d_X0_passDays_57 ?_
        refine R_getI (pc := 60) fld_RX0_85 rfl rfl k2 d_X0_passDays_60 ?_
        refine R_icmp_ge (pc := 63) (tgt := 74) d_X0_passDays_63 (by decide) (fun c => ?_) (fun c => ?_)
        · rw [if_pos c] at h
          exact WP_sub (B_X0_passDays_74 Q (T_X0_passDays_17 Q n) hκ17 v0 v2 v3 M h) (by decide) (ls_s (ls_n (ls_s (ls_s (ls_n ls_0)))))
        · rw [if_neg c] at h
          refine R_aload (pc := 66) d_X0_passDays_66 rfl ?_
          refine R_iconst (pc := 68) (v := 5) d_X0_passDays_68 (by decide) ?_
          refine R_iconst (pc := 69) (v := 1) d_X0_passDays_69 (by decide) ?_
          refine R_iast (pc := 70) k9 k10 d_X0_passDays_70 (N_M (fun M12 eM12 => ?_))
          have h := h M12 eM12
          obtain ⟨x13, ex13⟩ : ∃ z : Int32, z = v2 + 1 := ⟨_, rfl⟩
          have h := h x13 ex13
          refine R_iinc (pc := 71) (v := x13) (L' := [some (.ref (g.1 + v0)), none, some (.int x13), some (.int v3), some (.ref (g.1 + r8))]) d_X0_passDays_71 rfl (by rw [ex13]; rfl) (by decide) rfl ?_
          exact WP_sub (B_X0_passDays_74 Q (T_X0_passDays_17 Q n) hκ17 v0 x13 v3 M12 h) (by decide) (ls_s (ls_n (ls_s (ls_s (ls_n ls_0)))))
def T_X0_passDays (Q : Int32 → Mem → Prop) (v0 : Nat) (v1 : Int32) (M : Mem) : Prop := (kd v0 = 0) ∧ (kd (rf v0 0) = 3) ∧ ∀ M3 : Mem, M3 = mset M (rf v0 0) 0 ((M.1 (rf v0 0) 0) + v1) → (∃ N : Nat, T_X0_passDays_17 Q N v0 0 0 M3)
set_option maxRecDepth 100000 in
set_option maxHeartbeats 4000000 in
theorem c_X0_passDays {g : GG} (v0 : Nat) (v1 : Int32) (M : Mem) (Q : Int32 → Mem → Prop) (h : T_X0_passDays Q v0 v1 M) : CT g 10 mX0_passDays [.ref (g.1 + v0), .int v1] M 0 (oI Q noX) := by
  refine CT_of (L := [some (.ref (g.1 + v0)), some (.int v1), none, none, none]) (by decide) rfl (Nat.le_of_ble_eq_true rfl) (ro_I rfl) rfl ?_
  unfold T_X0_passDays at h
  refine R_aload_n (pc := 0) d_X0_passDays_0 rfl rfl ?_
  obtain ⟨k1, h⟩ := h
  refine R_getR (pc := 1) fld_RX0_9 rfl rfl k1 d_X0_passDays_1 ?_
  refine R_dup (pc := 4) d_X0_passDays_4 rfl ?_
  obtain ⟨k2, h⟩ := h
  refine R_getI (pc := 5) fld_RX0_85 rfl rfl k2 d_X0_passDays_5 ?_
  refine R_iload_n (pc := 8) d_X0_passDays_8 rfl rfl ?_
  refine R_iadd (pc := 9) d_X0_passDays_9 ?_
  refine R_putI (pc := 10) fld_RX0_85 rfl rfl rfl k2 rfl rfl d_X0_passDays_10 (N_M (fun M3 eM3 => ?_))
  have h := h M3 eM3
  refine R_iconst (pc := 13) (v := 0) d_X0_passDays_13 (by decide) ?_
  refine R_istore_n (pc := 14) (L' := [some (.ref (g.1 + v0)), some (.int v1), some (.int 0), none, none]) d_X0_passDays_14 rfl (by decide) rfl ?_
  refine R_iconst (pc := 15) (v := 0) d_X0_passDays_15 (by decide) ?_
  refine R_istore_n (pc := 16) (L' := [some (.ref (g.1 + v0)), some (.int v1), some (.int 0), some (.int 0), none]) d_X0_passDays_16 rfl (by decide) rfl ?_
  obtain ⟨N, h⟩ := h
  exact WP_sub (B_X0_passDays_17 Q N v0 0 0 M3 h) (by decide) (ls_s (ls_n (ls_s (ls_s (ls_n ls_0)))))
/-! X4_copyFrom -/
theorem d_X4_copyFrom_0 : decode mX4_copyFrom.2.1 0 = .ok (.iconst 0, 1) := by decide +kernel
theorem d_X4_copyFrom_1 : decode mX4_copyFrom.2.1 1 = .ok (.istore_n 2, 1) := by decide +kernel
theorem d_X4_copyFrom_2 : decode mX4_copyFrom.2.1 2 = .ok (.iload_n 2, 1) := by decide +kernel
theorem d_X4_copyFrom_3 : decode mX4_copyFrom.2.1 3 = .ok (.aload_n 1, 1) := by decide +kernel
theorem d_X4_copyFrom_4 : decode mX4_copyFrom.2.1 4 = .ok (.getfield 18, 3) := by decide +kernel
theorem d_X4_copyFrom_7 : decode mX4_copyFrom.2.1 7 = .ok (.if_icmp .ge 30, 3) := by decide +kernel
theorem d_X4_copyFrom_10 : decode mX4_copyFrom.2.1 10 = .ok (.aload_n 1, 1) := by decide +kernel
theorem d_X4_copyFrom_11 : decode mX4_copyFrom.2.1 11 = .ok (.getfield 9, 3) := by decide +kernel
theorem d_X4_copyFrom_14 : decode mX4_copyFrom.2.1 14 = .ok (.iload_n 2, 1) := by decide +kernel
theorem d_X4_copyFrom_15 : decode mX4_copyFrom.2.1 15 = .ok (.aaload, 1) := by decide +kernel
theorem d_X4_copyFrom_16 : decode mX4_copyFrom.2.1 16 = .ok (.iconst 0, 1) := by decide +kernel
theorem d_X4_copyFrom_17 : decode mX4_copyFrom.2.1 17 = .ok (.aload_n 0, 1) := by decide +kernel
theorem d_X4_copyFrom_18 : decode mX4_copyFrom.2.1 18 = .ok (.getfield 9, 3) := by decide +kernel
theorem d_X4_copyFrom_21 : decode mX4_copyFrom.2.1 21 = .ok (.iload_n 2, 1) := by decide +kernel
theorem d_X4_copyFrom_22 : decode mX4_copyFrom.2.1 22 = .ok (.aaload, 1) := by decide +kernel
theorem d_X4_copyFrom_23 : decode mX4_copyFrom.2.1 23 = .ok (.iconst 0, 1) := by decide +kernel
theorem d_X4_copyFrom_24 : decode mX4_copyFrom.2.1 24 = .ok (.aload_n 0, 1) := by decide +kernel
theorem d_X4_copyFrom_25 : decode mX4_copyFrom.2.1 25 = .ok (.getfield 14, 3) := by decide +kernel
theorem d_X4_copyFrom_28 : decode mX4_copyFrom.2.1 28 = .ok (.invokestatic 21, 3) := by decide +kernel
theorem d_X4_copyFrom_31 : decode mX4_copyFrom.2.1 31 = .ok (.iinc 2 1, 3) := by decide +kernel
theorem d_X4_copyFrom_34 : decode mX4_copyFrom.2.1 34 = .ok (.goto (-32), 3) := by decide +kernel
theorem d_X4_copyFrom_37 : decode mX4_copyFrom.2.1 37 = .ok (.aload_n 0, 1) := by decide +kernel
theorem d_X4_copyFrom_38 : decode mX4_copyFrom.2.1 38 = .ok (.aload_n 1, 1) := by decide +kernel
theorem d_X4_copyFrom_39 : decode mX4_copyFrom.2.1 39 = .ok (.getfield 18, 3) := by decide +kernel
theorem d_X4_copyFrom_42 : decode mX4_copyFrom.2.1 42 = .ok (.putfield 18, 3) := by decide +kernel
theorem d_X4_copyFrom_45 : decode mX4_copyFrom.2.1 45 = .ok (.return_, 1) := by decide +kernel
def T_X4_copyFrom_2 (Q : Mem → Prop) : Nat → Nat → Nat → Int32 → Mem → Prop
  | 0, _, _, _, _ => False
  | n + 1, v0, v1, v2, M => (kd v1 = 4) ∧ if (M.1 v1 2) ≤ v2 then ((kd v0 = 4) ∧ ∀ M3 : Mem, M3 = mset M v0 2 (M.1 v1 2) → Q M3) else ((kd (rf v1 0) = 10 ∨ kd (rf v1 0) = 11) ∧ (vp_in v2 (ln (rf v1 0))) ∧ (kd v0 = 4) ∧ (kd (rf v0 0) = 10 ∨ kd (rf v0 0) = 11) ∧ (vp_in v2 (ln (rf v0 0))) ∧ (kd (rf (rf v1 0) (Int32.toNatClampNeg v2)) = 9) ∧ (kd (rf (rf v0 0) (Int32.toNatClampNeg v2)) = 9) ∧ (¬ (0 : Int32) < 0) ∧ (¬ (M.1 v0 1) < 0) ∧ ((Int32.toNatClampNeg 0) + (Int32.toNatClampNeg (M.1 v0 1)) ≤ ln (rf (rf v1 0) (Int32.toNatClampNeg v2))) ∧ ((Int32.toNatClampNeg 0) + (Int32.toNatClampNeg (M.1 v0 1)) ≤ ln (rf (rf v0 0) (Int32.toNatClampNeg v2))) ∧ ∀ M15 : Mem, M15 = mcpy M (rf (rf v1 0) (Int32.toNatClampNeg v2)) (rf (rf v0 0) (Int32.toNatClampNeg v2)) (Int32.toNatClampNeg 0) (Int32.toNatClampNeg 0) (Int32.toNatClampNeg (M.1 v0 1)) → ∀ x16 : Int32, x16 = v2 + 1 → (T_X4_copyFrom_2 Q n) v0 v1 x16 M15)
set_option maxRecDepth 100000 in
set_option maxHeartbeats 4000000 in
theorem B_X4_copyFrom_2 {g : GG} (Q : Mem → Prop) : ∀ (n : Nat) (v0 : Nat) (v1 : Nat) (v2 : Int32) (M : Mem), T_X4_copyFrom_2 Q n v0 v1 v2 M → WP g 9 mX4_copyFrom 2 [some (.ref (g.1 + v0)), some (.ref (g.1 + v1)), some (.int v2)] [] M 0 (oV Q noX) := by
  intro n
  induction n with
  | zero => intro v0 v1 v2 M h; exact h.elim
  | succ n hκ2 =>
    intro v0 v1 v2 M h
    unfold T_X4_copyFrom_2 at h
    refine R_iload_n (pc := 2) d_X4_copyFrom_2 rfl rfl ?_
    refine R_aload_n (pc := 3) d_X4_copyFrom_3 rfl rfl ?_
    obtain ⟨k1, h⟩ := h
    refine R_getI (pc := 4) fld_RX4_18 rfl rfl k1 d_X4_copyFrom_4 ?_
    refine R_icmp_ge (pc := 7) (tgt := 37) d_X4_copyFrom_7 (by decide) (fun c => ?_) (fun c => ?_)
    · rw [if_pos c] at h
      refine R_aload_n (pc := 37) d_X4_copyFrom_37 rfl rfl ?_
      refine R_aload_n (pc := 38) d_X4_copyFrom_38 rfl rfl ?_
      refine R_getI (pc := 39) fld_RX4_18 rfl rfl k1 d_X4_copyFrom_39 ?_
      obtain ⟨k2, h⟩ := h
      refine R_putI (pc := 42) fld_RX4_18 rfl rfl rfl k2 rfl rfl d_X4_copyFrom_42 (N_M (fun M3 eM3 => ?_))
      have h := h M3 eM3
      exact R_ret (pc := 45) d_X4_copyFrom_45 h
    · rw [if_neg c] at h
      refine R_aload_n (pc := 10) d_X4_copyFrom_10 rfl rfl ?_
      refine R_getR (pc := 11) fld_RX4_9 rfl rfl k1 d_X4_copyFrom_11 ?_
      refine R_iload_n (pc := 14) d_X4_copyFrom_14 rfl rfl ?_
      obtain ⟨k4, h⟩ := h
      obtain ⟨k5, h⟩ := h
      refine R_aald (pc := 15) k4 k5 d_X4_copyFrom_15 ?_
      refine R_iconst (pc := 16) (v := 0) d_X4_copyFrom_16 (by decide) ?_
      refine R_aload_n (pc := 17) d_X4_copyFrom_17 rfl rfl ?_
      obtain ⟨k6, h⟩ := h
      refine R_getR (pc := 18) fld_RX4_9 rfl rfl k6 d_X4_copyFrom_18 ?_
      refine R_iload_n (pc := 21) d_X4_copyFrom_21 rfl rfl ?_
      obtain ⟨k7, h⟩ := h
      obtain ⟨k8, h⟩ := h
      refine R_aald (pc := 22) k7 k8 d_X4_copyFrom_22 ?_
      refine R_iconst (pc := 23) (v := 0) d_X4_copyFrom_23 (by decide) ?_
      refine R_aload_n (pc := 24) d_X4_copyFrom_24 rfl rfl ?_
      refine R_getI (pc := 25) fld_RX4_14 rfl rfl k6 d_X4_copyFrom_25 ?_
      obtain ⟨k9, h⟩ := h
      obtain ⟨k10, h⟩ := h
      obtain ⟨k11, h⟩ := h
      obtain ⟨k12, h⟩ := h
      obtain ⟨k13, h⟩ := h
      obtain ⟨k14, h⟩ := h
      refine R_copy (pc := 28) rfl ac_RX4_21 k9 k10 k11 k11 k12 k13 k14 (Nat.le_of_ble_eq_true rfl) (by decide) d_X4_copyFrom_28 (N_M (fun M15 eM15 => ?_))
      have h := h M15 eM15
      obtain ⟨x16, ex16⟩ : ∃ z : Int32, z = v2 + 1 := ⟨_, rfl⟩
      have h := h x16 ex16
      refine R_iinc (pc := 31) (v := x16) (L' := [some (.ref (g.1 + v0)), some (.ref (g.1 + v1)), some (.int x16)]) d_X4_copyFrom_31 rfl (by rw [ex16]; rfl) (by decide) rfl ?_
      refine R_goto (pc := 34) (tgt := 2) d_X4_copyFrom_34 (by decide) ?_
      exact WP_sub (hκ2 v0 v1 x16 M15 h) (by decide) (ls_s (ls_s (ls_s ls_0)))
def T_X4_copyFrom (Q : Mem → Prop) (v0 : Nat) (v1 : Nat) (M : Mem) : Prop := (∃ N : Nat, T_X4_copyFrom_2 Q N v0 v1 0 M)
set_option maxRecDepth 100000 in
set_option maxHeartbeats 4000000 in
theorem c_X4_copyFrom {g : GG} (v0 : Nat) (v1 : Nat) (M : Mem) (Q : Mem → Prop) (h : T_X4_copyFrom Q v0 v1 M) : CT g 9 mX4_copyFrom [.ref (g.1 + v0), .ref (g.1 + v1)] M 0 (oV Q noX) := by
  refine CT_of (L := [some (.ref (g.1 + v0)), some (.ref (g.1 + v1)), none]) (by decide) rfl (Nat.le_of_ble_eq_true rfl) (ro_V rfl) rfl ?_
  unfold T_X4_copyFrom at h
  refine R_iconst (pc := 0) (v := 0) d_X4_copyFrom_0 (by decide) ?_
  refine R_istore_n (pc := 1) (L' := [some (.ref (g.1 + v0)), some (.ref (g.1 + v1)), some (.int 0)]) d_X4_copyFrom_1 rfl (by decide) rfl ?_
  obtain ⟨N, h⟩ := h
  exact WP_sub (B_X4_copyFrom_2 Q N v0 v1 0 M h) (by decide) (ls_s (ls_s (ls_s ls_0)))
/-! X3_copyFrom -/
theorem d_X3_copyFrom_0 : decode mX3_copyFrom.2.1 0 = .ok (.aload_n 0, 1) := by decide +kernel
theorem d_X3_copyFrom_1 : decode mX3_copyFrom.2.1 1 = .ok (.aload_n 1, 1) := by decide +kernel
theorem d_X3_copyFrom_2 : decode mX3_copyFrom.2.1 2 = .ok (.getfield 9, 3) := by decide +kernel
theorem d_X3_copyFrom_5 : decode mX3_copyFrom.2.1 5 = .ok (.putfield 9, 3) := by decide +kernel
theorem d_X3_copyFrom_8 : decode mX3_copyFrom.2.1 8 = .ok (.aload_n 1, 1) := by decide +kernel
theorem d_X3_copyFrom_9 : decode mX3_copyFrom.2.1 9 = .ok (.getfield 15, 3) := by decide +kernel
theorem d_X3_copyFrom_12 : decode mX3_copyFrom.2.1 12 = .ok (.iconst 0, 1) := by decide +kernel
theorem d_X3_copyFrom_13 : decode mX3_copyFrom.2.1 13 = .ok (.aload_n 0, 1) := by decide +kernel
theorem d_X3_copyFrom_14 : decode mX3_copyFrom.2.1 14 = .ok (.getfield 15, 3) := by decide +kernel
theorem d_X3_copyFrom_17 : decode mX3_copyFrom.2.1 17 = .ok (.iconst 0, 1) := by decide +kernel
theorem d_X3_copyFrom_18 : decode mX3_copyFrom.2.1 18 = .ok (.iconst 4, 1) := by decide +kernel
theorem d_X3_copyFrom_19 : decode mX3_copyFrom.2.1 19 = .ok (.invokestatic 46, 3) := by decide +kernel
theorem d_X3_copyFrom_22 : decode mX3_copyFrom.2.1 22 = .ok (.aload_n 0, 1) := by decide +kernel
theorem d_X3_copyFrom_23 : decode mX3_copyFrom.2.1 23 = .ok (.getfield 24, 3) := by decide +kernel
theorem d_X3_copyFrom_26 : decode mX3_copyFrom.2.1 26 = .ok (.aload_n 1, 1) := by decide +kernel
theorem d_X3_copyFrom_27 : decode mX3_copyFrom.2.1 27 = .ok (.getfield 24, 3) := by decide +kernel
theorem d_X3_copyFrom_30 : decode mX3_copyFrom.2.1 30 = .ok (.invokevirtual 52, 3) := by decide +kernel
theorem d_X3_copyFrom_33 : decode mX3_copyFrom.2.1 33 = .ok (.aload_n 0, 1) := by decide +kernel
theorem d_X3_copyFrom_34 : decode mX3_copyFrom.2.1 34 = .ok (.getfield 28, 3) := by decide +kernel
theorem d_X3_copyFrom_37 : decode mX3_copyFrom.2.1 37 = .ok (.aload_n 1, 1) := by decide +kernel
theorem d_X3_copyFrom_38 : decode mX3_copyFrom.2.1 38 = .ok (.getfield 28, 3) := by decide +kernel
theorem d_X3_copyFrom_41 : decode mX3_copyFrom.2.1 41 = .ok (.invokevirtual 52, 3) := by decide +kernel
theorem d_X3_copyFrom_44 : decode mX3_copyFrom.2.1 44 = .ok (.aload_n 0, 1) := by decide +kernel
theorem d_X3_copyFrom_45 : decode mX3_copyFrom.2.1 45 = .ok (.getfield 31, 3) := by decide +kernel
theorem d_X3_copyFrom_48 : decode mX3_copyFrom.2.1 48 = .ok (.aload_n 1, 1) := by decide +kernel
theorem d_X3_copyFrom_49 : decode mX3_copyFrom.2.1 49 = .ok (.getfield 31, 3) := by decide +kernel
theorem d_X3_copyFrom_52 : decode mX3_copyFrom.2.1 52 = .ok (.invokevirtual 52, 3) := by decide +kernel
theorem d_X3_copyFrom_55 : decode mX3_copyFrom.2.1 55 = .ok (.aload_n 0, 1) := by decide +kernel
theorem d_X3_copyFrom_56 : decode mX3_copyFrom.2.1 56 = .ok (.getfield 34, 3) := by decide +kernel
theorem d_X3_copyFrom_59 : decode mX3_copyFrom.2.1 59 = .ok (.aload_n 1, 1) := by decide +kernel
theorem d_X3_copyFrom_60 : decode mX3_copyFrom.2.1 60 = .ok (.getfield 34, 3) := by decide +kernel
theorem d_X3_copyFrom_63 : decode mX3_copyFrom.2.1 63 = .ok (.invokevirtual 52, 3) := by decide +kernel
theorem d_X3_copyFrom_66 : decode mX3_copyFrom.2.1 66 = .ok (.aload_n 0, 1) := by decide +kernel
theorem d_X3_copyFrom_67 : decode mX3_copyFrom.2.1 67 = .ok (.getfield 37, 3) := by decide +kernel
theorem d_X3_copyFrom_70 : decode mX3_copyFrom.2.1 70 = .ok (.aload_n 1, 1) := by decide +kernel
theorem d_X3_copyFrom_71 : decode mX3_copyFrom.2.1 71 = .ok (.getfield 37, 3) := by decide +kernel
theorem d_X3_copyFrom_74 : decode mX3_copyFrom.2.1 74 = .ok (.invokevirtual 52, 3) := by decide +kernel
theorem d_X3_copyFrom_77 : decode mX3_copyFrom.2.1 77 = .ok (.aload_n 0, 1) := by decide +kernel
theorem d_X3_copyFrom_78 : decode mX3_copyFrom.2.1 78 = .ok (.getfield 40, 3) := by decide +kernel
theorem d_X3_copyFrom_81 : decode mX3_copyFrom.2.1 81 = .ok (.aload_n 1, 1) := by decide +kernel
theorem d_X3_copyFrom_82 : decode mX3_copyFrom.2.1 82 = .ok (.getfield 40, 3) := by decide +kernel
theorem d_X3_copyFrom_85 : decode mX3_copyFrom.2.1 85 = .ok (.invokevirtual 52, 3) := by decide +kernel
theorem d_X3_copyFrom_88 : decode mX3_copyFrom.2.1 88 = .ok (.aload_n 0, 1) := by decide +kernel
theorem d_X3_copyFrom_89 : decode mX3_copyFrom.2.1 89 = .ok (.getfield 43, 3) := by decide +kernel
theorem d_X3_copyFrom_92 : decode mX3_copyFrom.2.1 92 = .ok (.aload_n 1, 1) := by decide +kernel
theorem d_X3_copyFrom_93 : decode mX3_copyFrom.2.1 93 = .ok (.getfield 43, 3) := by decide +kernel
theorem d_X3_copyFrom_96 : decode mX3_copyFrom.2.1 96 = .ok (.invokevirtual 52, 3) := by decide +kernel
theorem d_X3_copyFrom_99 : decode mX3_copyFrom.2.1 99 = .ok (.return_, 1) := by decide +kernel
def T_X3_copyFrom (Q : Mem → Prop) (v0 : Nat) (v1 : Nat) (M : Mem) : Prop := (kd v1 = 3) ∧ (kd v0 = 3) ∧ ∀ M3 : Mem, M3 = mset M v0 0 (M.1 v1 0) → (kd (rf v1 1) = 9) ∧ (kd (rf v0 1) = 9) ∧ (¬ (0 : Int32) < 0) ∧ (¬ (4 : Int32) < 0) ∧ ((Int32.toNatClampNeg 0) + (Int32.toNatClampNeg 4) ≤ ln (rf v1 1)) ∧ ((Int32.toNatClampNeg 0) + (Int32.toNatClampNeg 4) ≤ ln (rf v0 1)) ∧ ∀ M10 : Mem, M10 = mcpy M3 (rf v1 1) (rf v0 1) (Int32.toNatClampNeg 0) (Int32.toNatClampNeg 0) (Int32.toNatClampNeg 4) → (kd (rf v0 2) = 4) ∧ T_X4_copyFrom (fun M12 => (kd (rf v0 3) = 4) ∧ T_X4_copyFrom (fun M14 => (kd (rf v0 4) = 4) ∧ T_X4_copyFrom (fun M16 => (kd (rf v0 5) = 4) ∧ T_X4_copyFrom (fun M18 => (kd (rf v0 6) = 4) ∧ T_X4_copyFrom (fun M20 => (kd (rf v0 7) = 4) ∧ T_X4_copyFrom (fun M22 => (kd (rf v0 8) = 4) ∧ T_X4_copyFrom (fun M24 => Q M24)  (rf v0 8) (rf v1 8) M22)  (rf v0 7) (rf v1 7) M20)  (rf v0 6) (rf v1 6) M18)  (rf v0 5) (rf v1 5) M16)  (rf v0 4) (rf v1 4) M14)  (rf v0 3) (rf v1 3) M12)  (rf v0 2) (rf v1 2) M10
set_option maxRecDepth 100000 in
set_option maxHeartbeats 4000000 in
theorem c_X3_copyFrom {g : GG} (v0 : Nat) (v1 : Nat) (M : Mem) (Q : Mem → Prop) (h : T_X3_copyFrom Q v0 v1 M) : CT g 10 mX3_copyFrom [.ref (g.1 + v0), .ref (g.1 + v1)] M 0 (oV Q noX) := by
  refine CT_of (L := [some (.ref (g.1 + v0)), some (.ref (g.1 + v1))]) (by decide) rfl (Nat.le_of_ble_eq_true rfl) (ro_V rfl) rfl ?_
  unfold T_X3_copyFrom at h
  refine R_aload_n (pc := 0) d_X3_copyFrom_0 rfl rfl ?_
  refine R_aload_n (pc := 1) d_X3_copyFrom_1 rfl rfl ?_
  obtain ⟨k1, h⟩ := h
  refine R_getI (pc := 2) fld_RX3_9 rfl rfl k1 d_X3_copyFrom_2 ?_
  obtain ⟨k2, h⟩ := h
  refine R_putI (pc := 5) fld_RX3_9 rfl rfl rfl k2 rfl rfl d_X3_copyFrom_5 (N_M (fun M3 eM3 => ?_))
  have h := h M3 eM3
  refine R_aload_n (pc := 8) d_X3_copyFrom_8 rfl rfl ?_
  refine R_getR (pc := 9) fld_RX3_15 rfl rfl k1 d_X3_copyFrom_9 ?_
  refine R_iconst (pc := 12) (v := 0) d_X3_copyFrom_12 (by decide) ?_
  refine R_aload_n (pc := 13) d_X3_copyFrom_13 rfl rfl ?_
  refine R_getR (pc := 14) fld_RX3_15 rfl rfl k2 d_X3_copyFrom_14 ?_
  refine R_iconst (pc := 17) (v := 0) d_X3_copyFrom_17 (by decide) ?_
  refine R_iconst (pc := 18) (v := 4) d_X3_copyFrom_18 (by decide) ?_
  obtain ⟨k4, h⟩ := h
  obtain ⟨k5, h⟩ := h
  obtain ⟨k6, h⟩ := h
  obtain ⟨k7, h⟩ := h
  obtain ⟨k8, h⟩ := h
  obtain ⟨k9, h⟩ := h
  refine R_copy (pc := 19) rfl ac_RX3_46 k4 k5 k6 k6 k7 k8 k9 (Nat.le_of_ble_eq_true rfl) (by decide) d_X3_copyFrom_19 (N_M (fun M10 eM10 => ?_))
  have h := h M10 eM10
  refine R_aload_n (pc := 22) d_X3_copyFrom_22 rfl rfl ?_
  refine R_getR (pc := 23) fld_RX3_24 rfl rfl k2 d_X3_copyFrom_23 ?_
  refine R_aload_n (pc := 26) d_X3_copyFrom_26 rfl rfl ?_
  refine R_getR (pc := 27) fld_RX3_24 rfl rfl k1 d_X3_copyFrom_27 ?_
  obtain ⟨k11, h⟩ := h
  refine R_callV (pc := 30) (As := [.ref (g.1 + (rf v1 2))]) (rest := []) (c_X4_copyFrom (g := g) (rf v0 2) (rf v1 2) M10 _ h) rfl rfl cal_RX3_52 ins_X4_copyFrom sel_X4_copyFrom (cls_at k11 clsOK4) (by decide) (by decide) rfl rfl (Nat.le_of_ble_eq_true rfl) d_X3_copyFrom_30 (k_V (fun M12 h => ?_)) (fun _ _ h9 => False.elim h9)
  try dsimp only at h
  refine R_aload_n (pc := 33) d_X3_copyFrom_33 rfl rfl ?_
  refine R_getR (pc := 34) fld_RX3_28 rfl rfl k2 d_X3_copyFrom_34 ?_
  refine R_aload_n (pc := 37) d_X3_copyFrom_37 rfl rfl ?_
  refine R_getR (pc := 38) fld_RX3_28 rfl rfl k1 d_X3_copyFrom_38 ?_
  obtain ⟨k13, h⟩ := h
  refine R_callV (pc := 41) (As := [.ref (g.1 + (rf v1 3))]) (rest := []) (c_X4_copyFrom (g := g) (rf v0 3) (rf v1 3) M12 _ h) rfl rfl cal_RX3_52 ins_X4_copyFrom sel_X4_copyFrom (cls_at k13 clsOK4) (by decide) (by decide) rfl rfl (Nat.le_of_ble_eq_true rfl) d_X3_copyFrom_41 (k_V (fun M14 h => ?_)) (fun _ _ h9 => False.elim h9)
  try dsimp only at h
  refine R_aload_n (pc := 44) d_X3_copyFrom_44 rfl rfl ?_
  refine R_getR (pc := 45) fld_RX3_31 rfl rfl k2 d_X3_copyFrom_45 ?_
  refine R_aload_n (pc := 48) d_X3_copyFrom_48 rfl rfl ?_
  refine R_getR (pc := 49) fld_RX3_31 rfl rfl k1 d_X3_copyFrom_49 ?_
  obtain ⟨k15, h⟩ := h
  refine R_callV (pc := 52) (As := [.ref (g.1 + (rf v1 4))]) (rest := []) (c_X4_copyFrom (g := g) (rf v0 4) (rf v1 4) M14 _ h) rfl rfl cal_RX3_52 ins_X4_copyFrom sel_X4_copyFrom (cls_at k15 clsOK4) (by decide) (by decide) rfl rfl (Nat.le_of_ble_eq_true rfl) d_X3_copyFrom_52 (k_V (fun M16 h => ?_)) (fun _ _ h9 => False.elim h9)
  try dsimp only at h
  refine R_aload_n (pc := 55) d_X3_copyFrom_55 rfl rfl ?_
  refine R_getR (pc := 56) fld_RX3_34 rfl rfl k2 d_X3_copyFrom_56 ?_
  refine R_aload_n (pc := 59) d_X3_copyFrom_59 rfl rfl ?_
  refine R_getR (pc := 60) fld_RX3_34 rfl rfl k1 d_X3_copyFrom_60 ?_
  obtain ⟨k17, h⟩ := h
  refine R_callV (pc := 63) (As := [.ref (g.1 + (rf v1 5))]) (rest := []) (c_X4_copyFrom (g := g) (rf v0 5) (rf v1 5) M16 _ h) rfl rfl cal_RX3_52 ins_X4_copyFrom sel_X4_copyFrom (cls_at k17 clsOK4) (by decide) (by decide) rfl rfl (Nat.le_of_ble_eq_true rfl) d_X3_copyFrom_63 (k_V (fun M18 h => ?_)) (fun _ _ h9 => False.elim h9)
  try dsimp only at h
  refine R_aload_n (pc := 66) d_X3_copyFrom_66 rfl rfl ?_
  refine R_getR (pc := 67) fld_RX3_37 rfl rfl k2 d_X3_copyFrom_67 ?_
  refine R_aload_n (pc := 70) d_X3_copyFrom_70 rfl rfl ?_
  refine R_getR (pc := 71) fld_RX3_37 rfl rfl k1 d_X3_copyFrom_71 ?_
  obtain ⟨k19, h⟩ := h
  refine R_callV (pc := 74) (As := [.ref (g.1 + (rf v1 6))]) (rest := []) (c_X4_copyFrom (g := g) (rf v0 6) (rf v1 6) M18 _ h) rfl rfl cal_RX3_52 ins_X4_copyFrom sel_X4_copyFrom (cls_at k19 clsOK4) (by decide) (by decide) rfl rfl (Nat.le_of_ble_eq_true rfl) d_X3_copyFrom_74 (k_V (fun M20 h => ?_)) (fun _ _ h9 => False.elim h9)
  try dsimp only at h
  refine R_aload_n (pc := 77) d_X3_copyFrom_77 rfl rfl ?_
  refine R_getR (pc := 78) fld_RX3_40 rfl rfl k2 d_X3_copyFrom_78 ?_
  refine R_aload_n (pc := 81) d_X3_copyFrom_81 rfl rfl ?_
  refine R_getR (pc := 82) fld_RX3_40 rfl rfl k1 d_X3_copyFrom_82 ?_
  obtain ⟨k21, h⟩ := h
  refine R_callV (pc := 85) (As := [.ref (g.1 + (rf v1 7))]) (rest := []) (c_X4_copyFrom (g := g) (rf v0 7) (rf v1 7) M20 _ h) rfl rfl cal_RX3_52 ins_X4_copyFrom sel_X4_copyFrom (cls_at k21 clsOK4) (by decide) (by decide) rfl rfl (Nat.le_of_ble_eq_true rfl) d_X3_copyFrom_85 (k_V (fun M22 h => ?_)) (fun _ _ h9 => False.elim h9)
  try dsimp only at h
  refine R_aload_n (pc := 88) d_X3_copyFrom_88 rfl rfl ?_
  refine R_getR (pc := 89) fld_RX3_43 rfl rfl k2 d_X3_copyFrom_89 ?_
  refine R_aload_n (pc := 92) d_X3_copyFrom_92 rfl rfl ?_
  refine R_getR (pc := 93) fld_RX3_43 rfl rfl k1 d_X3_copyFrom_93 ?_
  obtain ⟨k23, h⟩ := h
  refine R_callV (pc := 96) (As := [.ref (g.1 + (rf v1 8))]) (rest := []) (c_X4_copyFrom (g := g) (rf v0 8) (rf v1 8) M22 _ h) rfl rfl cal_RX3_52 ins_X4_copyFrom sel_X4_copyFrom (cls_at k23 clsOK4) (by decide) (by decide) rfl rfl (Nat.le_of_ble_eq_true rfl) d_X3_copyFrom_96 (k_V (fun M24 h => ?_)) (fun _ _ h9 => False.elim h9)
  try dsimp only at h
  exact R_ret (pc := 99) d_X3_copyFrom_99 h
/-! X1_draft -/
theorem d_X1_draft_0 : decode mX1_draft.2.1 0 = .ok (.aload_n 0, 1) := by decide +kernel
theorem d_X1_draft_1 : decode mX1_draft.2.1 1 = .ok (.getfield 13, 3) := by decide +kernel
theorem d_X1_draft_4 : decode mX1_draft.2.1 4 = .ok (.aload_n 0, 1) := by decide +kernel
theorem d_X1_draft_5 : decode mX1_draft.2.1 5 = .ok (.getfield 18, 3) := by decide +kernel
theorem d_X1_draft_8 : decode mX1_draft.2.1 8 = .ok (.aaload, 1) := by decide +kernel
theorem d_X1_draft_9 : decode mX1_draft.2.1 9 = .ok (.aload_n 1, 1) := by decide +kernel
theorem d_X1_draft_10 : decode mX1_draft.2.1 10 = .ok (.invokevirtual 32, 3) := by decide +kernel
theorem d_X1_draft_13 : decode mX1_draft.2.1 13 = .ok (.return_, 1) := by decide +kernel
def T_X1_draft (Q : Mem → Prop) (v0 : Nat) (v1 : Nat) (M : Mem) : Prop := (kd v0 = 1) ∧ (kd (rf v0 0) = 10 ∨ kd (rf v0 0) = 11) ∧ (vp_in (M.1 v0 1) (ln (rf v0 0))) ∧ (kd (rf (rf v0 0) (Int32.toNatClampNeg (M.1 v0 1))) = 3) ∧ T_X3_copyFrom (fun M5 => Q M5)  (rf (rf v0 0) (Int32.toNatClampNeg (M.1 v0 1))) v1 M
set_option maxRecDepth 100000 in
set_option maxHeartbeats 4000000 in
theorem c_X1_draft {g : GG} (v0 : Nat) (v1 : Nat) (M : Mem) (Q : Mem → Prop) (h : T_X1_draft Q v0 v1 M) : CT g 11 mX1_draft [.ref (g.1 + v0), .ref (g.1 + v1)] M 0 (oV Q noX) := by
  refine CT_of (L := [some (.ref (g.1 + v0)), some (.ref (g.1 + v1))]) (by decide) rfl (Nat.le_of_ble_eq_true rfl) (ro_V rfl) rfl ?_
  unfold T_X1_draft at h
  refine R_aload_n (pc := 0) d_X1_draft_0 rfl rfl ?_
  obtain ⟨k1, h⟩ := h
  refine R_getR (pc := 1) fld_RX1_13 rfl rfl k1 d_X1_draft_1 ?_
  refine R_aload_n (pc := 4) d_X1_draft_4 rfl rfl ?_
  refine R_getI (pc := 5) fld_RX1_18 rfl rfl k1 d_X1_draft_5 ?_
  obtain ⟨k2, h⟩ := h
  obtain ⟨k3, h⟩ := h
  refine R_aald (pc := 8) k2 k3 d_X1_draft_8 ?_
  refine R_aload_n (pc := 9) d_X1_draft_9 rfl rfl ?_
  obtain ⟨k4, h⟩ := h
  refine R_callV (pc := 10) (As := [.ref (g.1 + v1)]) (rest := []) (c_X3_copyFrom (g := g) (rf (rf v0 0) (Int32.toNatClampNeg (M.1 v0 1))) v1 M _ h) rfl rfl cal_RX1_32 ins_X3_copyFrom sel_X3_copyFrom (cls_at k4 clsOK3) (by decide) (by decide) rfl rfl (Nat.le_of_ble_eq_true rfl) d_X1_draft_10 (k_V (fun M5 h => ?_)) (fun _ _ h9 => False.elim h9)
  try dsimp only at h
  exact R_ret (pc := 13) d_X1_draft_13 h
/-! X1_keepDraft -/
theorem d_X1_keepDraft_0 : decode mX1_keepDraft.2.1 0 = .ok (.aload_n 0, 1) := by decide +kernel
theorem d_X1_keepDraft_1 : decode mX1_keepDraft.2.1 1 = .ok (.aload_n 0, 1) := by decide +kernel
theorem d_X1_keepDraft_2 : decode mX1_keepDraft.2.1 2 = .ok (.getfield 18, 3) := by decide +kernel
theorem d_X1_keepDraft_5 : decode mX1_keepDraft.2.1 5 = .ok (.iconst 1, 1) := by decide +kernel
theorem d_X1_keepDraft_6 : decode mX1_keepDraft.2.1 6 = .ok (.iadd, 1) := by decide +kernel
theorem d_X1_keepDraft_7 : decode mX1_keepDraft.2.1 7 = .ok (.bipush 9, 2) := by decide +kernel
theorem d_X1_keepDraft_9 : decode mX1_keepDraft.2.1 9 = .ok (.irem, 1) := by decide +kernel
theorem d_X1_keepDraft_10 : decode mX1_keepDraft.2.1 10 = .ok (.putfield 18, 3) := by decide +kernel
theorem d_X1_keepDraft_13 : decode mX1_keepDraft.2.1 13 = .ok (.aload_n 0, 1) := by decide +kernel
theorem d_X1_keepDraft_14 : decode mX1_keepDraft.2.1 14 = .ok (.getfield 22, 3) := by decide +kernel
theorem d_X1_keepDraft_17 : decode mX1_keepDraft.2.1 17 = .ok (.bipush 8, 2) := by decide +kernel
theorem d_X1_keepDraft_19 : decode mX1_keepDraft.2.1 19 = .ok (.if_icmp .ge 13, 3) := by decide +kernel
theorem d_X1_keepDraft_22 : decode mX1_keepDraft.2.1 22 = .ok (.aload_n 0, 1) := by decide +kernel
theorem d_X1_keepDraft_23 : decode mX1_keepDraft.2.1 23 = .ok (.dup, 1) := by decide +kernel
theorem d_X1_keepDraft_24 : decode mX1_keepDraft.2.1 24 = .ok (.getfield 22, 3) := by decide +kernel
theorem d_X1_keepDraft_27 : decode mX1_keepDraft.2.1 27 = .ok (.iconst 1, 1) := by decide +kernel
theorem d_X1_keepDraft_28 : decode mX1_keepDraft.2.1 28 = .ok (.iadd, 1) := by decide +kernel
theorem d_X1_keepDraft_29 : decode mX1_keepDraft.2.1 29 = .ok (.putfield 22, 3) := by decide +kernel
theorem d_X1_keepDraft_32 : decode mX1_keepDraft.2.1 32 = .ok (.return_, 1) := by decide +kernel
def T_X1_keepDraft_32 (Q : Mem → Prop) (M : Mem) : Prop := Q M
set_option maxRecDepth 100000 in
set_option maxHeartbeats 4000000 in
theorem B_X1_keepDraft_32 {g : GG} (Q : Mem → Prop) (M : Mem) (h : T_X1_keepDraft_32 Q  M) : WP g 9 mX1_keepDraft 32 [none] [] M 0 (oV Q noX) := by
  unfold T_X1_keepDraft_32 at h
  exact R_ret (pc := 32) d_X1_keepDraft_32 h
def T_X1_keepDraft (Q : Mem → Prop) (v0 : Nat) (M : Mem) : Prop := (kd v0 = 1) ∧ ∀ M2 : Mem, M2 = mset M v0 1 (((M.1 v0 1) + 1) - ((M.1 v0 1) + 1) / 9 * 9) → if (8 : Int32) ≤ (M2.1 v0 2) then (T_X1_keepDraft_32 Q M2) else (∀ M3 : Mem, M3 = mset M2 v0 2 ((M2.1 v0 2) + 1) → T_X1_keepDraft_32 Q M3)
set_option maxRecDepth 100000 in
set_option maxHeartbeats 4000000 in
theorem c_X1_keepDraft {g : GG} (v0 : Nat) (M : Mem) (Q : Mem → Prop) (h : T_X1_keepDraft Q v0 M) : CT g 9 mX1_keepDraft [.ref (g.1 + v0)] M 0 (oV Q noX) := by
  refine CT_of (L := [some (.ref (g.1 + v0))]) (by decide) rfl (Nat.le_of_ble_eq_true rfl) (ro_V rfl) rfl ?_
  unfold T_X1_keepDraft at h
  refine R_aload_n (pc := 0) d_X1_keepDraft_0 rfl rfl ?_
  refine R_aload_n (pc := 1) d_X1_keepDraft_1 rfl rfl ?_
  obtain ⟨k1, h⟩ := h
  refine R_getI (pc := 2) fld_RX1_18 rfl rfl k1 d_X1_keepDraft_2 ?_
  refine R_iconst (pc := 5) (v := 1) d_X1_keepDraft_5 (by decide) ?_
  refine R_iadd (pc := 6) d_X1_keepDraft_6 ?_
  refine R_bipush (pc := 7) (v := 9) d_X1_keepDraft_7 (by decide) ?_
  refine R_irem (pc := 9) d_X1_keepDraft_9 (by decide) ?_
  refine R_putI (pc := 10) fld_RX1_18 rfl rfl rfl k1 rfl rfl d_X1_keepDraft_10 (N_M (fun M2 eM2 => ?_))
  have h := h M2 eM2
  refine R_aload_n (pc := 13) d_X1_keepDraft_13 rfl rfl ?_
  refine R_getI (pc := 14) fld_RX1_22 rfl rfl k1 d_X1_keepDraft_14 ?_
  refine R_bipush (pc := 17) (v := 8) d_X1_keepDraft_17 (by decide) ?_
  refine R_icmp_ge (pc := 19) (tgt := 32) d_X1_keepDraft_19 (by decide) (fun c => ?_) (fun c => ?_)
  · rw [if_pos c] at h
    exact WP_sub (B_X1_keepDraft_32 Q M2 h) (by decide) (ls_n ls_0)
  · rw [if_neg c] at h
    refine R_aload_n (pc := 22) d_X1_keepDraft_22 rfl rfl ?_
    refine R_dup (pc := 23) d_X1_keepDraft_23 rfl ?_
    refine R_getI (pc := 24) fld_RX1_22 rfl rfl k1 d_X1_keepDraft_24 ?_
    refine R_iconst (pc := 27) (v := 1) d_X1_keepDraft_27 (by decide) ?_
    refine R_iadd (pc := 28) d_X1_keepDraft_28 ?_
    refine R_putI (pc := 29) fld_RX1_22 rfl rfl rfl k1 rfl rfl d_X1_keepDraft_29 (N_M (fun M3 eM3 => ?_))
    have h := h M3 eM3
    exact WP_sub (B_X1_keepDraft_32 Q M3 h) (by decide) (ls_n ls_0)
/-! X1_keep -/
theorem d_X1_keep_0 : decode mX1_keep.2.1 0 = .ok (.aload_n 0, 1) := by decide +kernel
theorem d_X1_keep_1 : decode mX1_keep.2.1 1 = .ok (.aload_n 1, 1) := by decide +kernel
theorem d_X1_keep_2 : decode mX1_keep.2.1 2 = .ok (.invokevirtual 25, 3) := by decide +kernel
theorem d_X1_keep_5 : decode mX1_keep.2.1 5 = .ok (.aload_n 0, 1) := by decide +kernel
theorem d_X1_keep_6 : decode mX1_keep.2.1 6 = .ok (.invokevirtual 29, 3) := by decide +kernel
theorem d_X1_keep_9 : decode mX1_keep.2.1 9 = .ok (.return_, 1) := by decide +kernel
def T_X1_keep (Q : Mem → Prop) (v0 : Nat) (v1 : Nat) (M : Mem) : Prop := (kd v0 = 1) ∧ T_X1_draft (fun M2 => T_X1_keepDraft (fun M3 => Q M3)  v0 M2)  v0 v1 M
set_option maxRecDepth 100000 in
set_option maxHeartbeats 4000000 in
theorem c_X1_keep {g : GG} (v0 : Nat) (v1 : Nat) (M : Mem) (Q : Mem → Prop) (h : T_X1_keep Q v0 v1 M) : CT g 12 mX1_keep [.ref (g.1 + v0), .ref (g.1 + v1)] M 0 (oV Q noX) := by
  refine CT_of (L := [some (.ref (g.1 + v0)), some (.ref (g.1 + v1))]) (by decide) rfl (Nat.le_of_ble_eq_true rfl) (ro_V rfl) rfl ?_
  unfold T_X1_keep at h
  refine R_aload_n (pc := 0) d_X1_keep_0 rfl rfl ?_
  refine R_aload_n (pc := 1) d_X1_keep_1 rfl rfl ?_
  obtain ⟨k1, h⟩ := h
  refine R_callV (pc := 2) (As := [.ref (g.1 + v1)]) (rest := []) (c_X1_draft (g := g) v0 v1 M _ h) rfl rfl cal_RX1_25 ins_X1_draft sel_X1_draft (cls_at k1 clsOK1) (by decide) (by decide) rfl rfl (Nat.le_of_ble_eq_true rfl) d_X1_keep_2 (k_V (fun M2 h => ?_)) (fun _ _ h9 => False.elim h9)
  try dsimp only at h
  refine R_aload_n (pc := 5) d_X1_keep_5 rfl rfl ?_
  refine R_callV (pc := 6) (As := []) (rest := []) (c_X1_keepDraft (g := g) v0 M2 _ h) rfl rfl cal_RX1_29 ins_X1_keepDraft sel_X1_keepDraft (cls_at k1 clsOK1) (by decide) (by decide) rfl rfl (Nat.le_of_ble_eq_true rfl) d_X1_keep_6 (k_V (fun M3 h => ?_)) (fun _ _ h9 => False.elim h9)
  try dsimp only at h
  exact R_ret (pc := 9) d_X1_keep_9 h
/-! X1_returnToDraft -/
theorem d_X1_returnToDraft_0 : decode mX1_returnToDraft.2.1 0 = .ok (.aload_n 1, 1) := by decide +kernel
theorem d_X1_returnToDraft_1 : decode mX1_returnToDraft.2.1 1 = .ok (.aload_n 0, 1) := by decide +kernel
theorem d_X1_returnToDraft_2 : decode mX1_returnToDraft.2.1 2 = .ok (.getfield 13, 3) := by decide +kernel
theorem d_X1_returnToDraft_5 : decode mX1_returnToDraft.2.1 5 = .ok (.aload_n 0, 1) := by decide +kernel
theorem d_X1_returnToDraft_6 : decode mX1_returnToDraft.2.1 6 = .ok (.getfield 18, 3) := by decide +kernel
theorem d_X1_returnToDraft_9 : decode mX1_returnToDraft.2.1 9 = .ok (.aaload, 1) := by decide +kernel
theorem d_X1_returnToDraft_10 : decode mX1_returnToDraft.2.1 10 = .ok (.invokevirtual 32, 3) := by decide +kernel
theorem d_X1_returnToDraft_13 : decode mX1_returnToDraft.2.1 13 = .ok (.return_, 1) := by decide +kernel
def T_X1_returnToDraft (Q : Mem → Prop) (v0 : Nat) (v1 : Nat) (M : Mem) : Prop := (kd v0 = 1) ∧ (kd (rf v0 0) = 10 ∨ kd (rf v0 0) = 11) ∧ (vp_in (M.1 v0 1) (ln (rf v0 0))) ∧ (kd v1 = 3) ∧ T_X3_copyFrom (fun M5 => Q M5)  v1 (rf (rf v0 0) (Int32.toNatClampNeg (M.1 v0 1))) M
set_option maxRecDepth 100000 in
set_option maxHeartbeats 4000000 in
theorem c_X1_returnToDraft {g : GG} (v0 : Nat) (v1 : Nat) (M : Mem) (Q : Mem → Prop) (h : T_X1_returnToDraft Q v0 v1 M) : CT g 11 mX1_returnToDraft [.ref (g.1 + v0), .ref (g.1 + v1)] M 0 (oV Q noX) := by
  refine CT_of (L := [some (.ref (g.1 + v0)), some (.ref (g.1 + v1))]) (by decide) rfl (Nat.le_of_ble_eq_true rfl) (ro_V rfl) rfl ?_
  unfold T_X1_returnToDraft at h
  refine R_aload_n (pc := 0) d_X1_returnToDraft_0 rfl rfl ?_
  refine R_aload_n (pc := 1) d_X1_returnToDraft_1 rfl rfl ?_
  obtain ⟨k1, h⟩ := h
  refine R_getR (pc := 2) fld_RX1_13 rfl rfl k1 d_X1_returnToDraft_2 ?_
  refine R_aload_n (pc := 5) d_X1_returnToDraft_5 rfl rfl ?_
  refine R_getI (pc := 6) fld_RX1_18 rfl rfl k1 d_X1_returnToDraft_6 ?_
  obtain ⟨k2, h⟩ := h
  obtain ⟨k3, h⟩ := h
  refine R_aald (pc := 9) k2 k3 d_X1_returnToDraft_9 ?_
  obtain ⟨k4, h⟩ := h
  refine R_callV (pc := 10) (As := [.ref (g.1 + (rf (rf v0 0) (Int32.toNatClampNeg (M.1 v0 1))))]) (rest := []) (c_X3_copyFrom (g := g) v1 (rf (rf v0 0) (Int32.toNatClampNeg (M.1 v0 1))) M _ h) rfl rfl cal_RX1_32 ins_X3_copyFrom sel_X3_copyFrom (cls_at k4 clsOK3) (by decide) (by decide) rfl rfl (Nat.le_of_ble_eq_true rfl) d_X1_returnToDraft_10 (k_V (fun M5 h => ?_)) (fun _ _ h9 => False.elim h9)
  try dsimp only at h
  exact R_ret (pc := 13) d_X1_returnToDraft_13 h
/-! X1_takeBack -/
theorem d_X1_takeBack_0 : decode mX1_takeBack.2.1 0 = .ok (.aload_n 0, 1) := by decide +kernel
theorem d_X1_takeBack_1 : decode mX1_takeBack.2.1 1 = .ok (.getfield 22, 3) := by decide +kernel
theorem d_X1_takeBack_4 : decode mX1_takeBack.2.1 4 = .ok (.ifCond .le 34, 3) := by decide +kernel
theorem d_X1_takeBack_7 : decode mX1_takeBack.2.1 7 = .ok (.aload_n 0, 1) := by decide +kernel
theorem d_X1_takeBack_8 : decode mX1_takeBack.2.1 8 = .ok (.aload_n 0, 1) := by decide +kernel
theorem d_X1_takeBack_9 : decode mX1_takeBack.2.1 9 = .ok (.getfield 18, 3) := by decide +kernel
theorem d_X1_takeBack_12 : decode mX1_takeBack.2.1 12 = .ok (.bipush 9, 2) := by decide +kernel
theorem d_X1_takeBack_14 : decode mX1_takeBack.2.1 14 = .ok (.iadd, 1) := by decide +kernel
theorem d_X1_takeBack_15 : decode mX1_takeBack.2.1 15 = .ok (.iconst 1, 1) := by decide +kernel
theorem d_X1_takeBack_16 : decode mX1_takeBack.2.1 16 = .ok (.isub, 1) := by decide +kernel
theorem d_X1_takeBack_17 : decode mX1_takeBack.2.1 17 = .ok (.bipush 9, 2) := by decide +kernel
theorem d_X1_takeBack_19 : decode mX1_takeBack.2.1 19 = .ok (.irem, 1) := by decide +kernel
theorem d_X1_takeBack_20 : decode mX1_takeBack.2.1 20 = .ok (.putfield 18, 3) := by decide +kernel
theorem d_X1_takeBack_23 : decode mX1_takeBack.2.1 23 = .ok (.aload_n 0, 1) := by decide +kernel
theorem d_X1_takeBack_24 : decode mX1_takeBack.2.1 24 = .ok (.dup, 1) := by decide +kernel
theorem d_X1_takeBack_25 : decode mX1_takeBack.2.1 25 = .ok (.getfield 22, 3) := by decide +kernel
theorem d_X1_takeBack_28 : decode mX1_takeBack.2.1 28 = .ok (.iconst 1, 1) := by decide +kernel
theorem d_X1_takeBack_29 : decode mX1_takeBack.2.1 29 = .ok (.isub, 1) := by decide +kernel
theorem d_X1_takeBack_30 : decode mX1_takeBack.2.1 30 = .ok (.putfield 22, 3) := by decide +kernel
theorem d_X1_takeBack_33 : decode mX1_takeBack.2.1 33 = .ok (.aload_n 0, 1) := by decide +kernel
theorem d_X1_takeBack_34 : decode mX1_takeBack.2.1 34 = .ok (.aload_n 1, 1) := by decide +kernel
theorem d_X1_takeBack_35 : decode mX1_takeBack.2.1 35 = .ok (.invokevirtual 35, 3) := by decide +kernel
theorem d_X1_takeBack_38 : decode mX1_takeBack.2.1 38 = .ok (.return_, 1) := by decide +kernel
def T_X1_takeBack_38 (Q : Mem → Prop) (M : Mem) : Prop := Q M
set_option maxRecDepth 100000 in
set_option maxHeartbeats 4000000 in
theorem B_X1_takeBack_38 {g : GG} (Q : Mem → Prop) (M : Mem) (h : T_X1_takeBack_38 Q  M) : WP g 12 mX1_takeBack 38 [none, none] [] M 0 (oV Q noX) := by
  unfold T_X1_takeBack_38 at h
  exact R_ret (pc := 38) d_X1_takeBack_38 h
def T_X1_takeBack (Q : Mem → Prop) (v0 : Nat) (v1 : Nat) (M : Mem) : Prop := (kd v0 = 1) ∧ if (M.1 v0 2) ≤ 0 then (T_X1_takeBack_38 Q M) else (∀ M2 : Mem, M2 = mset M v0 1 ((((M.1 v0 1) + 9) - 1) - (((M.1 v0 1) + 9) - 1) / 9 * 9) → ∀ M3 : Mem, M3 = mset M2 v0 2 ((M2.1 v0 2) - 1) → T_X1_returnToDraft (fun M4 => T_X1_takeBack_38 Q M4)  v0 v1 M3)
set_option maxRecDepth 100000 in
set_option maxHeartbeats 4000000 in
theorem c_X1_takeBack {g : GG} (v0 : Nat) (v1 : Nat) (M : Mem) (Q : Mem → Prop) (h : T_X1_takeBack Q v0 v1 M) : CT g 12 mX1_takeBack [.ref (g.1 + v0), .ref (g.1 + v1)] M 0 (oV Q noX) := by
  refine CT_of (L := [some (.ref (g.1 + v0)), some (.ref (g.1 + v1))]) (by decide) rfl (Nat.le_of_ble_eq_true rfl) (ro_V rfl) rfl ?_
  unfold T_X1_takeBack at h
  refine R_aload_n (pc := 0) d_X1_takeBack_0 rfl rfl ?_
  obtain ⟨k1, h⟩ := h
  refine R_getI (pc := 1) fld_RX1_22 rfl rfl k1 d_X1_takeBack_1 ?_
  refine R_if_le (pc := 4) (tgt := 38) d_X1_takeBack_4 (by decide) (fun c => ?_) (fun c => ?_)
  · rw [if_pos c] at h
    exact WP_sub (B_X1_takeBack_38 Q M h) (by decide) (ls_n (ls_n ls_0))
  · rw [if_neg c] at h
    refine R_aload_n (pc := 7) d_X1_takeBack_7 rfl rfl ?_
    refine R_aload_n (pc := 8) d_X1_takeBack_8 rfl rfl ?_
    refine R_getI (pc := 9) fld_RX1_18 rfl rfl k1 d_X1_takeBack_9 ?_
    refine R_bipush (pc := 12) (v := 9) d_X1_takeBack_12 (by decide) ?_
    refine R_iadd (pc := 14) d_X1_takeBack_14 ?_
    refine R_iconst (pc := 15) (v := 1) d_X1_takeBack_15 (by decide) ?_
    refine R_isub (pc := 16) d_X1_takeBack_16 ?_
    refine R_bipush (pc := 17) (v := 9) d_X1_takeBack_17 (by decide) ?_
    refine R_irem (pc := 19) d_X1_takeBack_19 (by decide) ?_
    refine R_putI (pc := 20) fld_RX1_18 rfl rfl rfl k1 rfl rfl d_X1_takeBack_20 (N_M (fun M2 eM2 => ?_))
    have h := h M2 eM2
    refine R_aload_n (pc := 23) d_X1_takeBack_23 rfl rfl ?_
    refine R_dup (pc := 24) d_X1_takeBack_24 rfl ?_
    refine R_getI (pc := 25) fld_RX1_22 rfl rfl k1 d_X1_takeBack_25 ?_
    refine R_iconst (pc := 28) (v := 1) d_X1_takeBack_28 (by decide) ?_
    refine R_isub (pc := 29) d_X1_takeBack_29 ?_
    refine R_putI (pc := 30) fld_RX1_22 rfl rfl rfl k1 rfl rfl d_X1_takeBack_30 (N_M (fun M3 eM3 => ?_))
    have h := h M3 eM3
    refine R_aload_n (pc := 33) d_X1_takeBack_33 rfl rfl ?_
    refine R_aload_n (pc := 34) d_X1_takeBack_34 rfl rfl ?_
    refine R_callV (pc := 35) (As := [.ref (g.1 + v1)]) (rest := []) (c_X1_returnToDraft (g := g) v0 v1 M3 _ h) rfl rfl cal_RX1_35 ins_X1_returnToDraft sel_X1_returnToDraft (cls_at k1 clsOK1) (by decide) (by decide) rfl rfl (Nat.le_of_ble_eq_true rfl) d_X1_takeBack_35 (k_V (fun M4 h => ?_)) (fun _ _ h9 => False.elim h9)
    try dsimp only at h
    exact WP_sub (B_X1_takeBack_38 Q M4 h) (by decide) (ls_n (ls_n ls_0))
/-! X1_forget -/
theorem d_X1_forget_0 : decode mX1_forget.2.1 0 = .ok (.aload_n 0, 1) := by decide +kernel
theorem d_X1_forget_1 : decode mX1_forget.2.1 1 = .ok (.iconst 0, 1) := by decide +kernel
theorem d_X1_forget_2 : decode mX1_forget.2.1 2 = .ok (.putfield 22, 3) := by decide +kernel
theorem d_X1_forget_5 : decode mX1_forget.2.1 5 = .ok (.return_, 1) := by decide +kernel
def T_X1_forget (Q : Mem → Prop) (v0 : Nat) (M : Mem) : Prop := (kd v0 = 1) ∧ ∀ M2 : Mem, M2 = mset M v0 2 0 → Q M2
set_option maxRecDepth 100000 in
set_option maxHeartbeats 4000000 in
theorem c_X1_forget {g : GG} (v0 : Nat) (M : Mem) (Q : Mem → Prop) (h : T_X1_forget Q v0 M) : CT g 9 mX1_forget [.ref (g.1 + v0)] M 0 (oV Q noX) := by
  refine CT_of (L := [some (.ref (g.1 + v0))]) (by decide) rfl (Nat.le_of_ble_eq_true rfl) (ro_V rfl) rfl ?_
  unfold T_X1_forget at h
  refine R_aload_n (pc := 0) d_X1_forget_0 rfl rfl ?_
  refine R_iconst (pc := 1) (v := 0) d_X1_forget_1 (by decide) ?_
  obtain ⟨k1, h⟩ := h
  refine R_putI (pc := 2) fld_RX1_22 rfl rfl rfl k1 rfl rfl d_X1_forget_2 (N_M (fun M2 eM2 => ?_))
  have h := h M2 eM2
  exact R_ret (pc := 5) d_X1_forget_5 h
/-! X2_reasonFor -/
theorem d_X2_reasonFor_0 : decode mX2_reasonFor.2.1 0 = .ok (.aload_n 0, 1) := by decide +kernel
theorem d_X2_reasonFor_1 : decode mX2_reasonFor.2.1 1 = .ok (.iload_n 1, 1) := by decide +kernel
theorem d_X2_reasonFor_2 : decode mX2_reasonFor.2.1 2 = .ok (.iload_n 2, 1) := by decide +kernel
theorem d_X2_reasonFor_3 : decode mX2_reasonFor.2.1 3 = .ok (.iload_n 3, 1) := by decide +kernel
theorem d_X2_reasonFor_4 : decode mX2_reasonFor.2.1 4 = .ok (.invokevirtual 35, 3) := by decide +kernel
theorem d_X2_reasonFor_7 : decode mX2_reasonFor.2.1 7 = .ok (.istore 5, 2) := by decide +kernel
theorem d_X2_reasonFor_9 : decode mX2_reasonFor.2.1 9 = .ok (.iload 5, 2) := by decide +kernel
theorem d_X2_reasonFor_11 : decode mX2_reasonFor.2.1 11 = .ok (.ifCond .eq 8, 3) := by decide +kernel
theorem d_X2_reasonFor_14 : decode mX2_reasonFor.2.1 14 = .ok (.iload 5, 2) := by decide +kernel
theorem d_X2_reasonFor_16 : decode mX2_reasonFor.2.1 16 = .ok (.goto 12, 3) := by decide +kernel
theorem d_X2_reasonFor_19 : decode mX2_reasonFor.2.1 19 = .ok (.aload_n 0, 1) := by decide +kernel
theorem d_X2_reasonFor_20 : decode mX2_reasonFor.2.1 20 = .ok (.iload_n 1, 1) := by decide +kernel
theorem d_X2_reasonFor_21 : decode mX2_reasonFor.2.1 21 = .ok (.iload_n 2, 1) := by decide +kernel
theorem d_X2_reasonFor_22 : decode mX2_reasonFor.2.1 22 = .ok (.iload_n 3, 1) := by decide +kernel
theorem d_X2_reasonFor_23 : decode mX2_reasonFor.2.1 23 = .ok (.iload 4, 2) := by decide +kernel
theorem d_X2_reasonFor_25 : decode mX2_reasonFor.2.1 25 = .ok (.invokevirtual 39, 3) := by decide +kernel
theorem d_X2_reasonFor_28 : decode mX2_reasonFor.2.1 28 = .ok (.ireturn, 1) := by decide +kernel
def T_X2_reasonFor_28 (Q : Int32 → Mem → Prop) (s0 : Int32) (M : Mem) : Prop := Q s0 M
set_option maxRecDepth 100000 in
set_option maxHeartbeats 4000000 in
theorem B_X2_reasonFor_28 {g : GG} (Q : Int32 → Mem → Prop) (s0 : Int32) (M : Mem) (h : T_X2_reasonFor_28 Q s0 M) : WP g 13 mX2_reasonFor 28 [none, none, none, none, none, none] [.int s0] M 0 (oI Q noX) := by
  unfold T_X2_reasonFor_28 at h
  exact R_retv (pc := 28) d_X2_reasonFor_28 h
def T_X2_reasonFor (Q : Int32 → Mem → Prop) (v0 : Nat) (v1 : Int32) (v2 : Int32) (v3 : Int32) (v4 : Int32) (M : Mem) : Prop := (kd v0 = 2) ∧ T_X2_reasonOfDay (fun y3 M2 => if y3 = 0 then (T_X2_reasonOfSlot (fun y5 M4 => T_X2_reasonFor_28 Q y5 M4)  v0 v1 v2 v3 v4 M2) else (T_X2_reasonFor_28 Q y3 M2))  v0 v1 v2 v3 M
set_option maxRecDepth 100000 in
set_option maxHeartbeats 4000000 in
theorem c_X2_reasonFor {g : GG} (v0 : Nat) (v1 : Int32) (v2 : Int32) (v3 : Int32) (v4 : Int32) (M : Mem) (Q : Int32 → Mem → Prop) (h : T_X2_reasonFor Q v0 v1 v2 v3 v4 M) : CT g 13 mX2_reasonFor [.ref (g.1 + v0), .int v1, .int v2, .int v3, .int v4] M 0 (oI Q noX) := by
  refine CT_of (L := [some (.ref (g.1 + v0)), some (.int v1), some (.int v2), some (.int v3), some (.int v4), none]) (by decide) rfl (Nat.le_of_ble_eq_true rfl) (ro_I rfl) rfl ?_
  unfold T_X2_reasonFor at h
  refine R_aload_n (pc := 0) d_X2_reasonFor_0 rfl rfl ?_
  refine R_iload_n (pc := 1) d_X2_reasonFor_1 rfl rfl ?_
  refine R_iload_n (pc := 2) d_X2_reasonFor_2 rfl rfl ?_
  refine R_iload_n (pc := 3) d_X2_reasonFor_3 rfl rfl ?_
  obtain ⟨k1, h⟩ := h
  refine R_callV (pc := 4) (As := [.int v1, .int v2, .int v3]) (rest := []) (c_X2_reasonOfDay (g := g) v0 v1 v2 v3 M _ h) rfl rfl cal_RX2_35 ins_X2_reasonOfDay sel_X2_reasonOfDay (cls_at k1 clsOK2) (by decide) (by decide) rfl rfl (Nat.le_of_ble_eq_true rfl) d_X2_reasonFor_4 (k_I (fun y3 M2 h => ?_)) (fun _ _ h9 => False.elim h9)
  try dsimp only at h
  refine R_istore (pc := 7) (L' := [some (.ref (g.1 + v0)), some (.int v1), some (.int v2), some (.int v3), some (.int v4), some (.int y3)]) d_X2_reasonFor_7 (by decide) rfl ?_
  refine R_iload (pc := 9) d_X2_reasonFor_9 rfl ?_
  refine R_if_eq (pc := 11) (tgt := 19) d_X2_reasonFor_11 (by decide) (fun c => ?_) (fun c => ?_)
  · rw [if_pos c] at h
    refine R_aload_n (pc := 19) d_X2_reasonFor_19 rfl rfl ?_
    refine R_iload_n (pc := 20) d_X2_reasonFor_20 rfl rfl ?_
    refine R_iload_n (pc := 21) d_X2_reasonFor_21 rfl rfl ?_
    refine R_iload_n (pc := 22) d_X2_reasonFor_22 rfl rfl ?_
    refine R_iload (pc := 23) d_X2_reasonFor_23 rfl ?_
    refine R_callV (pc := 25) (As := [.int v1, .int v2, .int v3, .int v4]) (rest := []) (c_X2_reasonOfSlot (g := g) v0 v1 v2 v3 v4 M2 _ h) rfl rfl cal_RX2_39 ins_X2_reasonOfSlot sel_X2_reasonOfSlot (cls_at k1 clsOK2) (by decide) (by decide) rfl rfl (Nat.le_of_ble_eq_true rfl) d_X2_reasonFor_25 (k_I (fun y5 M4 h => ?_)) (fun _ _ h9 => False.elim h9)
    try dsimp only at h
    exact WP_sub (B_X2_reasonFor_28 Q y5 M4 h) (by decide) (ls_n (ls_n (ls_n (ls_n (ls_n (ls_n ls_0))))))
  · rw [if_neg c] at h
    refine R_iload (pc := 14) d_X2_reasonFor_14 rfl ?_
    refine R_goto (pc := 16) (tgt := 28) d_X2_reasonFor_16 (by decide) ?_
    exact WP_sub (B_X2_reasonFor_28 Q y3 M2 h) (by decide) (ls_n (ls_n (ls_n (ls_n (ls_n (ls_n ls_0))))))
/-! X3_isParty -/
theorem d_X3_isParty_0 : decode mX3_isParty.2.1 0 = .ok (.iload_n 1, 1) := by decide +kernel
theorem d_X3_isParty_1 : decode mX3_isParty.2.1 1 = .ok (.invokestatic 68, 3) := by decide +kernel
theorem d_X3_isParty_4 : decode mX3_isParty.2.1 4 = .ok (.istore_n 2, 1) := by decide +kernel
theorem d_X3_isParty_5 : decode mX3_isParty.2.1 5 = .ok (.iload_n 2, 1) := by decide +kernel
theorem d_X3_isParty_6 : decode mX3_isParty.2.1 6 = .ok (.iconst 1, 1) := by decide +kernel
theorem d_X3_isParty_7 : decode mX3_isParty.2.1 7 = .ok (.if_icmp .lt 24, 3) := by decide +kernel
theorem d_X3_isParty_10 : decode mX3_isParty.2.1 10 = .ok (.iload_n 2, 1) := by decide +kernel
theorem d_X3_isParty_11 : decode mX3_isParty.2.1 11 = .ok (.iconst 3, 1) := by decide +kernel
theorem d_X3_isParty_12 : decode mX3_isParty.2.1 12 = .ok (.if_icmp .gt 19, 3) := by decide +kernel
theorem d_X3_isParty_15 : decode mX3_isParty.2.1 15 = .ok (.iload_n 1, 1) := by decide +kernel
theorem d_X3_isParty_16 : decode mX3_isParty.2.1 16 = .ok (.aload_n 0, 1) := by decide +kernel
theorem d_X3_isParty_17 : decode mX3_isParty.2.1 17 = .ok (.getfield 28, 3) := by decide +kernel
theorem d_X3_isParty_20 : decode mX3_isParty.2.1 20 = .ok (.getfield 74, 3) := by decide +kernel
theorem d_X3_isParty_23 : decode mX3_isParty.2.1 23 = .ok (.iushr, 1) := by decide +kernel
theorem d_X3_isParty_24 : decode mX3_isParty.2.1 24 = .ok (.ifCond .ne 7, 3) := by decide +kernel
theorem d_X3_isParty_27 : decode mX3_isParty.2.1 27 = .ok (.iconst 1, 1) := by decide +kernel
theorem d_X3_isParty_28 : decode mX3_isParty.2.1 28 = .ok (.goto 4, 3) := by decide +kernel
theorem d_X3_isParty_31 : decode mX3_isParty.2.1 31 = .ok (.iconst 0, 1) := by decide +kernel
theorem d_X3_isParty_32 : decode mX3_isParty.2.1 32 = .ok (.ireturn, 1) := by decide +kernel
def T_X3_isParty_32 (Q : Int32 → Mem → Prop) (s0 : Int32) (M : Mem) : Prop := ((s0 : Int32) = 0 ∨ (s0 : Int32) = 1) ∧ Q s0 M
set_option maxRecDepth 100000 in
set_option maxHeartbeats 4000000 in
theorem B_X3_isParty_32 {g : GG} (Q : Int32 → Mem → Prop) (s0 : Int32) (M : Mem) (h : T_X3_isParty_32 Q s0 M) : WP g 10 mX3_isParty 32 [none, none, none] [.int s0] M 0 (oZ Q noX) := by
  unfold T_X3_isParty_32 at h
  exact R_retv (pc := 32) d_X3_isParty_32 h
def T_X3_isParty_31 (Q : Int32 → Mem → Prop) (M : Mem) : Prop := T_X3_isParty_32 Q 0 M
set_option maxRecDepth 100000 in
set_option maxHeartbeats 4000000 in
theorem B_X3_isParty_31 {g : GG} (Q : Int32 → Mem → Prop) (M : Mem) (h : T_X3_isParty_31 Q  M) : WP g 10 mX3_isParty 31 [none, none, none] [] M 0 (oZ Q noX) := by
  unfold T_X3_isParty_31 at h
  refine R_iconst (pc := 31) (v := 0) d_X3_isParty_31 (by decide) ?_
  exact WP_sub (B_X3_isParty_32 Q 0 M h) (by decide) (ls_n (ls_n (ls_n ls_0)))
def T_X3_isParty (Q : Int32 → Mem → Prop) (v0 : Nat) (v1 : Int32) (M : Mem) : Prop := T_J6_bitCount_0f7a4 (fun y2 M1 => if y2 < (1 : Int32) then (T_X3_isParty_31 Q M1) else (if (3 : Int32) < y2 then (T_X3_isParty_31 Q M1) else ((kd v0 = 3) ∧ (kd (rf v0 3) = 4) ∧ if ((Int32.toUInt32 v1 >>> (Int32.toUInt32 (M1.1 (rf v0 3) 2) &&& Int32.toUInt32 31)).toInt32) = 0 then (T_X3_isParty_32 Q 1 M1) else (T_X3_isParty_31 Q M1))))  v1 M
set_option maxRecDepth 100000 in
set_option maxHeartbeats 4000000 in
theorem c_X3_isParty {g : GG} (v0 : Nat) (v1 : Int32) (M : Mem) (Q : Int32 → Mem → Prop) (h : T_X3_isParty Q v0 v1 M) : CT g 10 mX3_isParty [.ref (g.1 + v0), .int v1] M 0 (oZ Q noX) := by
  refine CT_of (L := [some (.ref (g.1 + v0)), some (.int v1), none]) (by decide) rfl (Nat.le_of_ble_eq_true rfl) (ro_Z rfl) rfl ?_
  unfold T_X3_isParty at h
  refine R_iload_n (pc := 0) d_X3_isParty_0 rfl rfl ?_
  refine R_callS (pc := 1) (As := [.int v1]) (rest := []) (c_J6_bitCount_0f7a4 (g := g) v1 M _ h) rfl rfl cal_RX3_68 sta_J6_bitCount_0f7a4 (by decide) (by decide) rfl rfl (Nat.le_of_ble_eq_true rfl) d_X3_isParty_1 (k_I (fun y2 M1 h => ?_)) (fun _ _ h9 => False.elim h9)
  try dsimp only at h
  refine R_istore_n (pc := 4) (L' := [some (.ref (g.1 + v0)), some (.int v1), some (.int y2)]) d_X3_isParty_4 rfl (by decide) rfl ?_
  refine R_iload_n (pc := 5) d_X3_isParty_5 rfl rfl ?_
  refine R_iconst (pc := 6) (v := 1) d_X3_isParty_6 (by decide) ?_
  refine R_icmp_lt (pc := 7) (tgt := 31) d_X3_isParty_7 (by decide) (fun c => ?_) (fun c => ?_)
  · rw [if_pos c] at h
    exact WP_sub (B_X3_isParty_31 Q M1 h) (by decide) (ls_n (ls_n (ls_n ls_0)))
  · rw [if_neg c] at h
    refine R_iload_n (pc := 10) d_X3_isParty_10 rfl rfl ?_
    refine R_iconst (pc := 11) (v := 3) d_X3_isParty_11 (by decide) ?_
    refine R_icmp_gt (pc := 12) (tgt := 31) d_X3_isParty_12 (by decide) (fun c => ?_) (fun c => ?_)
    · rw [if_pos c] at h
      exact WP_sub (B_X3_isParty_31 Q M1 h) (by decide) (ls_n (ls_n (ls_n ls_0)))
    · rw [if_neg c] at h
      refine R_iload_n (pc := 15) d_X3_isParty_15 rfl rfl ?_
      refine R_aload_n (pc := 16) d_X3_isParty_16 rfl rfl ?_
      obtain ⟨k3, h⟩ := h
      refine R_getR (pc := 17) fld_RX3_28 rfl rfl k3 d_X3_isParty_17 ?_
      obtain ⟨k4, h⟩ := h
      refine R_getI (pc := 20) fld_RX3_74 rfl rfl k4 d_X3_isParty_20 ?_
      refine R_iushr (pc := 23) d_X3_isParty_23 ?_
      refine R_if_ne (pc := 24) (tgt := 31) d_X3_isParty_24 (by decide) (fun c => ?_) (fun c => ?_)
      · rw [if_neg c] at h
        exact WP_sub (B_X3_isParty_31 Q M1 h) (by decide) (ls_n (ls_n (ls_n ls_0)))
      · rw [if_pos c] at h
        refine R_iconst (pc := 27) (v := 1) d_X3_isParty_27 (by decide) ?_
        refine R_goto (pc := 28) (tgt := 32) d_X3_isParty_28 (by decide) ?_
        exact WP_sub (B_X3_isParty_32 Q 1 M1 h) (by decide) (ls_n (ls_n (ls_n ls_0)))
/-! X3_countStatus -/
theorem d_X3_countStatus_0 : decode mX3_countStatus.2.1 0 = .ok (.iconst 0, 1) := by decide +kernel
theorem d_X3_countStatus_1 : decode mX3_countStatus.2.1 1 = .ok (.istore_n 2, 1) := by decide +kernel
theorem d_X3_countStatus_2 : decode mX3_countStatus.2.1 2 = .ok (.iconst 0, 1) := by decide +kernel
theorem d_X3_countStatus_3 : decode mX3_countStatus.2.1 3 = .ok (.istore_n 3, 1) := by decide +kernel
theorem d_X3_countStatus_4 : decode mX3_countStatus.2.1 4 = .ok (.iload_n 3, 1) := by decide +kernel
theorem d_X3_countStatus_5 : decode mX3_countStatus.2.1 5 = .ok (.aload_n 0, 1) := by decide +kernel
theorem d_X3_countStatus_6 : decode mX3_countStatus.2.1 6 = .ok (.getfield 34, 3) := by decide +kernel
theorem d_X3_countStatus_9 : decode mX3_countStatus.2.1 9 = .ok (.getfield 74, 3) := by decide +kernel
theorem d_X3_countStatus_12 : decode mX3_countStatus.2.1 12 = .ok (.if_icmp .ge 27, 3) := by decide +kernel
theorem d_X3_countStatus_15 : decode mX3_countStatus.2.1 15 = .ok (.aload_n 0, 1) := by decide +kernel
theorem d_X3_countStatus_16 : decode mX3_countStatus.2.1 16 = .ok (.getfield 34, 3) := by decide +kernel
theorem d_X3_countStatus_19 : decode mX3_countStatus.2.1 19 = .ok (.getfield 77, 3) := by decide +kernel
theorem d_X3_countStatus_22 : decode mX3_countStatus.2.1 22 = .ok (.iload_n 3, 1) := by decide +kernel
theorem d_X3_countStatus_23 : decode mX3_countStatus.2.1 23 = .ok (.aaload, 1) := by decide +kernel
theorem d_X3_countStatus_24 : decode mX3_countStatus.2.1 24 = .ok (.iconst 5, 1) := by decide +kernel
theorem d_X3_countStatus_25 : decode mX3_countStatus.2.1 25 = .ok (.iaload, 1) := by decide +kernel
theorem d_X3_countStatus_26 : decode mX3_countStatus.2.1 26 = .ok (.iload_n 1, 1) := by decide +kernel
theorem d_X3_countStatus_27 : decode mX3_countStatus.2.1 27 = .ok (.if_icmp .ne 6, 3) := by decide +kernel
theorem d_X3_countStatus_30 : decode mX3_countStatus.2.1 30 = .ok (.iinc 2 1, 3) := by decide +kernel
theorem d_X3_countStatus_33 : decode mX3_countStatus.2.1 33 = .ok (.iinc 3 1, 3) := by decide +kernel
theorem d_X3_countStatus_36 : decode mX3_countStatus.2.1 36 = .ok (.goto (-32), 3) := by decide +kernel
theorem d_X3_countStatus_39 : decode mX3_countStatus.2.1 39 = .ok (.iload_n 2, 1) := by decide +kernel
theorem d_X3_countStatus_40 : decode mX3_countStatus.2.1 40 = .ok (.ireturn, 1) := by decide +kernel
def T_X3_countStatus_33 (κ4 : Nat → Int32 → Int32 → Int32 → Mem → Prop) (Q : Int32 → Mem → Prop) (v0 : Nat) (v1 : Int32) (v2 : Int32) (v3 : Int32) (M : Mem) : Prop := ∀ x1 : Int32, x1 = v3 + 1 → κ4 v0 v1 v2 x1 M
set_option maxRecDepth 100000 in
set_option maxHeartbeats 4000000 in
theorem B_X3_countStatus_33 {g : GG} (Q : Int32 → Mem → Prop) (κ4 : Nat → Int32 → Int32 → Int32 → Mem → Prop) (hκ4 : ∀ (v0 : Nat) (v1 : Int32) (v2 : Int32) (v3 : Int32) (M : Mem), κ4 v0 v1 v2 v3 M → WP g 9 mX3_countStatus 4 [some (.ref (g.1 + v0)), some (.int v1), some (.int v2), some (.int v3)] [] M 0 (oI Q noX)) (v0 : Nat) (v1 : Int32) (v2 : Int32) (v3 : Int32) (M : Mem) (h : T_X3_countStatus_33 κ4 Q v0 v1 v2 v3 M) : WP g 9 mX3_countStatus 33 [some (.ref (g.1 + v0)), some (.int v1), some (.int v2), some (.int v3)] [] M 0 (oI Q noX) := by
  unfold T_X3_countStatus_33 at h
  obtain ⟨x1, ex1⟩ : ∃ z : Int32, z = v3 + 1 := ⟨_, rfl⟩
  have h := h x1 ex1
  refine R_iinc (pc := 33) (v := x1) (L' := [some (.ref (g.1 + v0)), some (.int v1), some (.int v2), some (.int x1)]) d_X3_countStatus_33 rfl (by rw [ex1]; rfl) (by decide) rfl ?_
  refine R_goto (pc := 36) (tgt := 4) d_X3_countStatus_36 (by decide) ?_
  exact WP_sub (hκ4 v0 v1 v2 x1 M h) (by decide) (ls_s (ls_s (ls_s (ls_s ls_0))))
def T_X3_countStatus_4 (Q : Int32 → Mem → Prop) : Nat → Nat → Int32 → Int32 → Int32 → Mem → Prop
  | 0, _, _, _, _, _ => False
  | n + 1, v0, v1, v2, v3, M => (kd v0 = 3) ∧ (kd (rf v0 5) = 4) ∧ if (M.1 (rf v0 5) 2) ≤ v3 then (Q v2 M) else ((kd (rf (rf v0 5) 0) = 10 ∨ kd (rf (rf v0 5) 0) = 11) ∧ (vp_in v3 (ln (rf (rf v0 5) 0))) ∧ (kd (rf (rf (rf v0 5) 0) (Int32.toNatClampNeg v3)) = 9) ∧ (vp_in 5 (ln (rf (rf (rf v0 5) 0) (Int32.toNatClampNeg v3)))) ∧ if (M.1 (rf (rf (rf v0 5) 0) (Int32.toNatClampNeg v3)) (Int32.toNatClampNeg 5)) = v1 then (∀ x7 : Int32, x7 = v2 + 1 → T_X3_countStatus_33 (T_X3_countStatus_4 Q n) Q v0 v1 x7 v3 M) else (T_X3_countStatus_33 (T_X3_countStatus_4 Q n) Q v0 v1 v2 v3 M))
set_option maxRecDepth 100000 in
set_option maxHeartbeats 4000000 in
theorem B_X3_countStatus_4 {g : GG} (Q : Int32 → Mem → Prop) : ∀ (n : Nat) (v0 : Nat) (v1 : Int32) (v2 : Int32) (v3 : Int32) (M : Mem), T_X3_countStatus_4 Q n v0 v1 v2 v3 M → WP g 9 mX3_countStatus 4 [some (.ref (g.1 + v0)), some (.int v1), some (.int v2), some (.int v3)] [] M 0 (oI Q noX) := by
  intro n
  induction n with
  | zero => intro v0 v1 v2 v3 M h; exact h.elim
  | succ n hκ4 =>
    intro v0 v1 v2 v3 M h
    unfold T_X3_countStatus_4 at h
    refine R_iload_n (pc := 4) d_X3_countStatus_4 rfl rfl ?_
    refine R_aload_n (pc := 5) d_X3_countStatus_5 rfl rfl ?_
    obtain ⟨k1, h⟩ := h
    refine R_getR (pc := 6) fld_RX3_34 rfl rfl k1 d_X3_countStatus_6 ?_
    obtain ⟨k2, h⟩ := h
    refine R_getI (pc := 9) fld_RX3_74 rfl rfl k2 d_X3_countStatus_9 ?_
    refine R_icmp_ge (pc := 12) (tgt := 39) d_X3_countStatus_12 (by decide) (fun c => ?_) (fun c => ?_)
    · rw [if_pos c] at h
      refine R_iload_n (pc := 39) d_X3_countStatus_39 rfl rfl ?_
      exact R_retv (pc := 40) d_X3_countStatus_40 h
    · rw [if_neg c] at h
      refine R_aload_n (pc := 15) d_X3_countStatus_15 rfl rfl ?_
      refine R_getR (pc := 16) fld_RX3_34 rfl rfl k1 d_X3_countStatus_16 ?_
      refine R_getR (pc := 19) fld_RX3_77 rfl rfl k2 d_X3_countStatus_19 ?_
      refine R_iload_n (pc := 22) d_X3_countStatus_22 rfl rfl ?_
      obtain ⟨k3, h⟩ := h
      obtain ⟨k4, h⟩ := h
      refine R_aald (pc := 23) k3 k4 d_X3_countStatus_23 ?_
      refine R_iconst (pc := 24) (v := 5) d_X3_countStatus_24 (by decide) ?_
      obtain ⟨k5, h⟩ := h
      obtain ⟨k6, h⟩ := h
      refine R_iald (pc := 25) k5 k6 d_X3_countStatus_25 ?_
      refine R_iload_n (pc := 26) d_X3_countStatus_26 rfl rfl ?_
      refine R_icmp_ne (pc := 27) (tgt := 33) d_X3_countStatus_27 (by decide) (fun c => ?_) (fun c => ?_)
      · rw [if_neg c] at h
        exact WP_sub (B_X3_countStatus_33 Q (T_X3_countStatus_4 Q n) hκ4 v0 v1 v2 v3 M h) (by decide) (ls_s (ls_s (ls_s (ls_s ls_0))))
      · rw [if_pos c] at h
        obtain ⟨x7, ex7⟩ : ∃ z : Int32, z = v2 + 1 := ⟨_, rfl⟩
        have h := h x7 ex7
        refine R_iinc (pc := 30) (v := x7) (L' := [some (.ref (g.1 + v0)), some (.int v1), some (.int x7), some (.int v3)]) d_X3_countStatus_30 rfl (by rw [ex7]; rfl) (by decide) rfl ?_
        exact WP_sub (B_X3_countStatus_33 Q (T_X3_countStatus_4 Q n) hκ4 v0 v1 x7 v3 M h) (by decide) (ls_s (ls_s (ls_s (ls_s ls_0))))
def T_X3_countStatus (Q : Int32 → Mem → Prop) (v0 : Nat) (v1 : Int32) (M : Mem) : Prop := (∃ N : Nat, T_X3_countStatus_4 Q N v0 v1 0 0 M)
set_option maxRecDepth 100000 in
set_option maxHeartbeats 4000000 in
theorem c_X3_countStatus {g : GG} (v0 : Nat) (v1 : Int32) (M : Mem) (Q : Int32 → Mem → Prop) (h : T_X3_countStatus Q v0 v1 M) : CT g 9 mX3_countStatus [.ref (g.1 + v0), .int v1] M 0 (oI Q noX) := by
  refine CT_of (L := [some (.ref (g.1 + v0)), some (.int v1), none, none]) (by decide) rfl (Nat.le_of_ble_eq_true rfl) (ro_I rfl) rfl ?_
  unfold T_X3_countStatus at h
  refine R_iconst (pc := 0) (v := 0) d_X3_countStatus_0 (by decide) ?_
  refine R_istore_n (pc := 1) (L' := [some (.ref (g.1 + v0)), some (.int v1), some (.int 0), none]) d_X3_countStatus_1 rfl (by decide) rfl ?_
  refine R_iconst (pc := 2) (v := 0) d_X3_countStatus_2 (by decide) ?_
  refine R_istore_n (pc := 3) (L' := [some (.ref (g.1 + v0)), some (.int v1), some (.int 0), some (.int 0)]) d_X3_countStatus_3 rfl (by decide) rfl ?_
  obtain ⟨N, h⟩ := h
  exact WP_sub (B_X3_countStatus_4 Q N v0 v1 0 0 M h) (by decide) (ls_s (ls_s (ls_s (ls_s ls_0))))
/-! X3_bookedVisits -/
theorem d_X3_bookedVisits_0 : decode mX3_bookedVisits.2.1 0 = .ok (.lconst 0, 1) := by decide +kernel
theorem d_X3_bookedVisits_1 : decode mX3_bookedVisits.2.1 1 = .ok (.lstore_n 1, 1) := by decide +kernel
theorem d_X3_bookedVisits_2 : decode mX3_bookedVisits.2.1 2 = .ok (.iconst 0, 1) := by decide +kernel
theorem d_X3_bookedVisits_3 : decode mX3_bookedVisits.2.1 3 = .ok (.istore_n 3, 1) := by decide +kernel
theorem d_X3_bookedVisits_4 : decode mX3_bookedVisits.2.1 4 = .ok (.iload_n 3, 1) := by decide +kernel
theorem d_X3_bookedVisits_5 : decode mX3_bookedVisits.2.1 5 = .ok (.aload_n 0, 1) := by decide +kernel
theorem d_X3_bookedVisits_6 : decode mX3_bookedVisits.2.1 6 = .ok (.getfield 34, 3) := by decide +kernel
theorem d_X3_bookedVisits_9 : decode mX3_bookedVisits.2.1 9 = .ok (.getfield 74, 3) := by decide +kernel
theorem d_X3_bookedVisits_12 : decode mX3_bookedVisits.2.1 12 = .ok (.if_icmp .ge 29, 3) := by decide +kernel
theorem d_X3_bookedVisits_15 : decode mX3_bookedVisits.2.1 15 = .ok (.aload_n 0, 1) := by decide +kernel
theorem d_X3_bookedVisits_16 : decode mX3_bookedVisits.2.1 16 = .ok (.getfield 34, 3) := by decide +kernel
theorem d_X3_bookedVisits_19 : decode mX3_bookedVisits.2.1 19 = .ok (.getfield 77, 3) := by decide +kernel
theorem d_X3_bookedVisits_22 : decode mX3_bookedVisits.2.1 22 = .ok (.iload_n 3, 1) := by decide +kernel
theorem d_X3_bookedVisits_23 : decode mX3_bookedVisits.2.1 23 = .ok (.aaload, 1) := by decide +kernel
theorem d_X3_bookedVisits_24 : decode mX3_bookedVisits.2.1 24 = .ok (.iconst 5, 1) := by decide +kernel
theorem d_X3_bookedVisits_25 : decode mX3_bookedVisits.2.1 25 = .ok (.iaload, 1) := by decide +kernel
theorem d_X3_bookedVisits_26 : decode mX3_bookedVisits.2.1 26 = .ok (.ifCond .ne 9, 3) := by decide +kernel
theorem d_X3_bookedVisits_29 : decode mX3_bookedVisits.2.1 29 = .ok (.lload_n 1, 1) := by decide +kernel
theorem d_X3_bookedVisits_30 : decode mX3_bookedVisits.2.1 30 = .ok (.lconst 1, 1) := by decide +kernel
theorem d_X3_bookedVisits_31 : decode mX3_bookedVisits.2.1 31 = .ok (.iload_n 3, 1) := by decide +kernel
theorem d_X3_bookedVisits_32 : decode mX3_bookedVisits.2.1 32 = .ok (.lshl, 1) := by decide +kernel
theorem d_X3_bookedVisits_33 : decode mX3_bookedVisits.2.1 33 = .ok (.lor, 1) := by decide +kernel
theorem d_X3_bookedVisits_34 : decode mX3_bookedVisits.2.1 34 = .ok (.lstore_n 1, 1) := by decide +kernel
theorem d_X3_bookedVisits_35 : decode mX3_bookedVisits.2.1 35 = .ok (.iinc 3 1, 3) := by decide +kernel
theorem d_X3_bookedVisits_38 : decode mX3_bookedVisits.2.1 38 = .ok (.goto (-34), 3) := by decide +kernel
theorem d_X3_bookedVisits_41 : decode mX3_bookedVisits.2.1 41 = .ok (.lload_n 1, 1) := by decide +kernel
theorem d_X3_bookedVisits_42 : decode mX3_bookedVisits.2.1 42 = .ok (.lreturn, 1) := by decide +kernel
def T_X3_bookedVisits_35 (κ4 : Nat → Int64 → Int32 → Mem → Prop) (Q : Int64 → Mem → Prop) (v0 : Nat) (v1 : Int64) (v3 : Int32) (M : Mem) : Prop := ∀ x1 : Int32, x1 = v3 + 1 → κ4 v0 v1 x1 M
set_option maxRecDepth 100000 in
set_option maxHeartbeats 4000000 in
theorem B_X3_bookedVisits_35 {g : GG} (Q : Int64 → Mem → Prop) (κ4 : Nat → Int64 → Int32 → Mem → Prop) (hκ4 : ∀ (v0 : Nat) (v1 : Int64) (v3 : Int32) (M : Mem), κ4 v0 v1 v3 M → WP g 9 mX3_bookedVisits 4 [some (.ref (g.1 + v0)), some (.long v1), none, some (.int v3)] [] M 0 (oL Q noX)) (v0 : Nat) (v1 : Int64) (v3 : Int32) (M : Mem) (h : T_X3_bookedVisits_35 κ4 Q v0 v1 v3 M) : WP g 9 mX3_bookedVisits 35 [some (.ref (g.1 + v0)), some (.long v1), none, some (.int v3)] [] M 0 (oL Q noX) := by
  unfold T_X3_bookedVisits_35 at h
  obtain ⟨x1, ex1⟩ : ∃ z : Int32, z = v3 + 1 := ⟨_, rfl⟩
  have h := h x1 ex1
  refine R_iinc (pc := 35) (v := x1) (L' := [some (.ref (g.1 + v0)), some (.long v1), none, some (.int x1)]) d_X3_bookedVisits_35 rfl (by rw [ex1]; rfl) (by decide) rfl ?_
  refine R_goto (pc := 38) (tgt := 4) d_X3_bookedVisits_38 (by decide) ?_
  exact WP_sub (hκ4 v0 v1 x1 M h) (by decide) (ls_s (ls_s (ls_n (ls_s ls_0))))
def T_X3_bookedVisits_4 (Q : Int64 → Mem → Prop) : Nat → Nat → Int64 → Int32 → Mem → Prop
  | 0, _, _, _, _ => False
  | n + 1, v0, v1, v3, M => (kd v0 = 3) ∧ (kd (rf v0 5) = 4) ∧ if (M.1 (rf v0 5) 2) ≤ v3 then (Q v1 M) else ((kd (rf (rf v0 5) 0) = 10 ∨ kd (rf (rf v0 5) 0) = 11) ∧ (vp_in v3 (ln (rf (rf v0 5) 0))) ∧ (kd (rf (rf (rf v0 5) 0) (Int32.toNatClampNeg v3)) = 9) ∧ (vp_in 5 (ln (rf (rf (rf v0 5) 0) (Int32.toNatClampNeg v3)))) ∧ if (M.1 (rf (rf (rf v0 5) 0) (Int32.toNatClampNeg v3)) (Int32.toNatClampNeg 5)) = 0 then (∀ l7 : Int64, l7 = v1 ||| (1 <<< (Int32.toInt64 v3 &&& 63)) → T_X3_bookedVisits_35 (T_X3_bookedVisits_4 Q n) Q v0 l7 v3 M) else (T_X3_bookedVisits_35 (T_X3_bookedVisits_4 Q n) Q v0 v1 v3 M))
set_option maxRecDepth 100000 in
set_option maxHeartbeats 4000000 in
theorem B_X3_bookedVisits_4 {g : GG} (Q : Int64 → Mem → Prop) : ∀ (n : Nat) (v0 : Nat) (v1 : Int64) (v3 : Int32) (M : Mem), T_X3_bookedVisits_4 Q n v0 v1 v3 M → WP g 9 mX3_bookedVisits 4 [some (.ref (g.1 + v0)), some (.long v1), none, some (.int v3)] [] M 0 (oL Q noX) := by
  intro n
  induction n with
  | zero => intro v0 v1 v3 M h; exact h.elim
  | succ n hκ4 =>
    intro v0 v1 v3 M h
    unfold T_X3_bookedVisits_4 at h
    refine R_iload_n (pc := 4) d_X3_bookedVisits_4 rfl rfl ?_
    refine R_aload_n (pc := 5) d_X3_bookedVisits_5 rfl rfl ?_
    obtain ⟨k1, h⟩ := h
    refine R_getR (pc := 6) fld_RX3_34 rfl rfl k1 d_X3_bookedVisits_6 ?_
    obtain ⟨k2, h⟩ := h
    refine R_getI (pc := 9) fld_RX3_74 rfl rfl k2 d_X3_bookedVisits_9 ?_
    refine R_icmp_ge (pc := 12) (tgt := 41) d_X3_bookedVisits_12 (by decide) (fun c => ?_) (fun c => ?_)
    · rw [if_pos c] at h
      refine R_lload_n (pc := 41) d_X3_bookedVisits_41 rfl rfl ?_
      exact R_retv (pc := 42) d_X3_bookedVisits_42 h
    · rw [if_neg c] at h
      refine R_aload_n (pc := 15) d_X3_bookedVisits_15 rfl rfl ?_
      refine R_getR (pc := 16) fld_RX3_34 rfl rfl k1 d_X3_bookedVisits_16 ?_
      refine R_getR (pc := 19) fld_RX3_77 rfl rfl k2 d_X3_bookedVisits_19 ?_
      refine R_iload_n (pc := 22) d_X3_bookedVisits_22 rfl rfl ?_
      obtain ⟨k3, h⟩ := h
      obtain ⟨k4, h⟩ := h
      refine R_aald (pc := 23) k3 k4 d_X3_bookedVisits_23 ?_
      refine R_iconst (pc := 24) (v := 5) d_X3_bookedVisits_24 (by decide) ?_
      obtain ⟨k5, h⟩ := h
      obtain ⟨k6, h⟩ := h
      refine R_iald (pc := 25) k5 k6 d_X3_bookedVisits_25 ?_
      refine R_if_ne (pc := 26) (tgt := 35) d_X3_bookedVisits_26 (by decide) (fun c => ?_) (fun c => ?_)
      · rw [if_neg c] at h
        exact WP_sub (B_X3_bookedVisits_35 Q (T_X3_bookedVisits_4 Q n) hκ4 v0 v1 v3 M h) (by decide) (ls_s (ls_s (ls_n (ls_s ls_0))))
      · rw [if_pos c] at h
        refine R_lload_n (pc := 29) d_X3_bookedVisits_29 rfl rfl ?_
        refine R_lconst (pc := 30) (v := 1) d_X3_bookedVisits_30 (by decide) ?_
        refine R_iload_n (pc := 31) d_X3_bookedVisits_31 rfl rfl ?_
        refine R_lshl (pc := 32) d_X3_bookedVisits_32 ?_
        refine R_lor (pc := 33) d_X3_bookedVisits_33 ?_
        refine N_l (fun l7 el7 => ?_)
        have h := h l7 el7
        refine R_lstore_n (pc := 34) (L' := [some (.ref (g.1 + v0)), some (.long l7), none, some (.int v3)]) d_X3_bookedVisits_34 rfl (by decide) rfl ?_
        exact WP_sub (B_X3_bookedVisits_35 Q (T_X3_bookedVisits_4 Q n) hκ4 v0 l7 v3 M h) (by decide) (ls_s (ls_s (ls_n (ls_s ls_0))))
def T_X3_bookedVisits (Q : Int64 → Mem → Prop) (v0 : Nat) (M : Mem) : Prop := (∃ N : Nat, T_X3_bookedVisits_4 Q N v0 0 0 M)
set_option maxRecDepth 100000 in
set_option maxHeartbeats 4000000 in
theorem c_X3_bookedVisits {g : GG} (v0 : Nat) (M : Mem) (Q : Int64 → Mem → Prop) (h : T_X3_bookedVisits Q v0 M) : CT g 9 mX3_bookedVisits [.ref (g.1 + v0)] M 0 (oL Q noX) := by
  refine CT_of (L := [some (.ref (g.1 + v0)), none, none, none]) (by decide) rfl (Nat.le_of_ble_eq_true rfl) (ro_L rfl) rfl ?_
  unfold T_X3_bookedVisits at h
  refine R_lconst (pc := 0) (v := 0) d_X3_bookedVisits_0 (by decide) ?_
  refine R_lstore_n (pc := 1) (L' := [some (.ref (g.1 + v0)), some (.long 0), none, none]) d_X3_bookedVisits_1 rfl (by decide) rfl ?_
  refine R_iconst (pc := 2) (v := 0) d_X3_bookedVisits_2 (by decide) ?_
  refine R_istore_n (pc := 3) (L' := [some (.ref (g.1 + v0)), some (.long 0), none, some (.int 0)]) d_X3_bookedVisits_3 rfl (by decide) rfl ?_
  obtain ⟨N, h⟩ := h
  exact WP_sub (B_X3_bookedVisits_4 Q N v0 0 0 M h) (by decide) (ls_s (ls_s (ls_n (ls_s ls_0))))
/-! X3_sumOfSearches -/
theorem d_X3_sumOfSearches_0 : decode mX3_sumOfSearches.2.1 0 = .ok (.iconst 0, 1) := by decide +kernel
theorem d_X3_sumOfSearches_1 : decode mX3_sumOfSearches.2.1 1 = .ok (.istore_n 1, 1) := by decide +kernel
theorem d_X3_sumOfSearches_2 : decode mX3_sumOfSearches.2.1 2 = .ok (.iconst 0, 1) := by decide +kernel
theorem d_X3_sumOfSearches_3 : decode mX3_sumOfSearches.2.1 3 = .ok (.istore_n 2, 1) := by decide +kernel
theorem d_X3_sumOfSearches_4 : decode mX3_sumOfSearches.2.1 4 = .ok (.iload_n 2, 1) := by decide +kernel
theorem d_X3_sumOfSearches_5 : decode mX3_sumOfSearches.2.1 5 = .ok (.aload_n 0, 1) := by decide +kernel
theorem d_X3_sumOfSearches_6 : decode mX3_sumOfSearches.2.1 6 = .ok (.getfield 34, 3) := by decide +kernel
theorem d_X3_sumOfSearches_9 : decode mX3_sumOfSearches.2.1 9 = .ok (.getfield 74, 3) := by decide +kernel
theorem d_X3_sumOfSearches_12 : decode mX3_sumOfSearches.2.1 12 = .ok (.if_icmp .ge 31, 3) := by decide +kernel
theorem d_X3_sumOfSearches_15 : decode mX3_sumOfSearches.2.1 15 = .ok (.aload_n 0, 1) := by decide +kernel
theorem d_X3_sumOfSearches_16 : decode mX3_sumOfSearches.2.1 16 = .ok (.getfield 34, 3) := by decide +kernel
theorem d_X3_sumOfSearches_19 : decode mX3_sumOfSearches.2.1 19 = .ok (.getfield 77, 3) := by decide +kernel
theorem d_X3_sumOfSearches_22 : decode mX3_sumOfSearches.2.1 22 = .ok (.iload_n 2, 1) := by decide +kernel
theorem d_X3_sumOfSearches_23 : decode mX3_sumOfSearches.2.1 23 = .ok (.aaload, 1) := by decide +kernel
theorem d_X3_sumOfSearches_24 : decode mX3_sumOfSearches.2.1 24 = .ok (.iconst 5, 1) := by decide +kernel
theorem d_X3_sumOfSearches_25 : decode mX3_sumOfSearches.2.1 25 = .ok (.iaload, 1) := by decide +kernel
theorem d_X3_sumOfSearches_26 : decode mX3_sumOfSearches.2.1 26 = .ok (.ifCond .ne 11, 3) := by decide +kernel
theorem d_X3_sumOfSearches_29 : decode mX3_sumOfSearches.2.1 29 = .ok (.iload_n 1, 1) := by decide +kernel
theorem d_X3_sumOfSearches_30 : decode mX3_sumOfSearches.2.1 30 = .ok (.aload_n 0, 1) := by decide +kernel
theorem d_X3_sumOfSearches_31 : decode mX3_sumOfSearches.2.1 31 = .ok (.iload_n 2, 1) := by decide +kernel
theorem d_X3_sumOfSearches_32 : decode mX3_sumOfSearches.2.1 32 = .ok (.invokevirtual 89, 3) := by decide +kernel
theorem d_X3_sumOfSearches_35 : decode mX3_sumOfSearches.2.1 35 = .ok (.iadd, 1) := by decide +kernel
theorem d_X3_sumOfSearches_36 : decode mX3_sumOfSearches.2.1 36 = .ok (.istore_n 1, 1) := by decide +kernel
theorem d_X3_sumOfSearches_37 : decode mX3_sumOfSearches.2.1 37 = .ok (.iinc 2 1, 3) := by decide +kernel
theorem d_X3_sumOfSearches_40 : decode mX3_sumOfSearches.2.1 40 = .ok (.goto (-36), 3) := by decide +kernel
theorem d_X3_sumOfSearches_43 : decode mX3_sumOfSearches.2.1 43 = .ok (.iload_n 1, 1) := by decide +kernel
theorem d_X3_sumOfSearches_44 : decode mX3_sumOfSearches.2.1 44 = .ok (.ireturn, 1) := by decide +kernel
def T_X3_sumOfSearches_37 (κ4 : Nat → Int32 → Int32 → Mem → Prop) (Q : Int32 → Mem → Prop) (v0 : Nat) (v1 : Int32) (v2 : Int32) (M : Mem) : Prop := ∀ x1 : Int32, x1 = v2 + 1 → κ4 v0 v1 x1 M
set_option maxRecDepth 100000 in
set_option maxHeartbeats 4000000 in
theorem B_X3_sumOfSearches_37 {g : GG} (Q : Int32 → Mem → Prop) (κ4 : Nat → Int32 → Int32 → Mem → Prop) (hκ4 : ∀ (v0 : Nat) (v1 : Int32) (v2 : Int32) (M : Mem), κ4 v0 v1 v2 M → WP g 11 mX3_sumOfSearches 4 [some (.ref (g.1 + v0)), some (.int v1), some (.int v2)] [] M 0 (oI Q noX)) (v0 : Nat) (v1 : Int32) (v2 : Int32) (M : Mem) (h : T_X3_sumOfSearches_37 κ4 Q v0 v1 v2 M) : WP g 11 mX3_sumOfSearches 37 [some (.ref (g.1 + v0)), some (.int v1), some (.int v2)] [] M 0 (oI Q noX) := by
  unfold T_X3_sumOfSearches_37 at h
  obtain ⟨x1, ex1⟩ : ∃ z : Int32, z = v2 + 1 := ⟨_, rfl⟩
  have h := h x1 ex1
  refine R_iinc (pc := 37) (v := x1) (L' := [some (.ref (g.1 + v0)), some (.int v1), some (.int x1)]) d_X3_sumOfSearches_37 rfl (by rw [ex1]; rfl) (by decide) rfl ?_
  refine R_goto (pc := 40) (tgt := 4) d_X3_sumOfSearches_40 (by decide) ?_
  exact WP_sub (hκ4 v0 v1 x1 M h) (by decide) (ls_s (ls_s (ls_s ls_0)))
def T_X3_sumOfSearches_4 (Q : Int32 → Mem → Prop) : Nat → Nat → Int32 → Int32 → Mem → Prop
  | 0, _, _, _, _ => False
  | n + 1, v0, v1, v2, M => (kd v0 = 3) ∧ (kd (rf v0 5) = 4) ∧ if (M.1 (rf v0 5) 2) ≤ v2 then (Q v1 M) else ((kd (rf (rf v0 5) 0) = 10 ∨ kd (rf (rf v0 5) 0) = 11) ∧ (vp_in v2 (ln (rf (rf v0 5) 0))) ∧ (kd (rf (rf (rf v0 5) 0) (Int32.toNatClampNeg v2)) = 9) ∧ (vp_in 5 (ln (rf (rf (rf v0 5) 0) (Int32.toNatClampNeg v2)))) ∧ if (M.1 (rf (rf (rf v0 5) 0) (Int32.toNatClampNeg v2)) (Int32.toNatClampNeg 5)) = 0 then (T_X3_searchesOf (fun y8 M7 => ∀ x9 : Int32, x9 = v1 + y8 → T_X3_sumOfSearches_37 (T_X3_sumOfSearches_4 Q n) Q v0 x9 v2 M7)  v0 v2 M) else (T_X3_sumOfSearches_37 (T_X3_sumOfSearches_4 Q n) Q v0 v1 v2 M))
set_option maxRecDepth 100000 in
set_option maxHeartbeats 4000000 in
theorem B_X3_sumOfSearches_4 {g : GG} (Q : Int32 → Mem → Prop) : ∀ (n : Nat) (v0 : Nat) (v1 : Int32) (v2 : Int32) (M : Mem), T_X3_sumOfSearches_4 Q n v0 v1 v2 M → WP g 11 mX3_sumOfSearches 4 [some (.ref (g.1 + v0)), some (.int v1), some (.int v2)] [] M 0 (oI Q noX) := by
  intro n
  induction n with
  | zero => intro v0 v1 v2 M h; exact h.elim
  | succ n hκ4 =>
    intro v0 v1 v2 M h
    unfold T_X3_sumOfSearches_4 at h
    refine R_iload_n (pc := 4) d_X3_sumOfSearches_4 rfl rfl ?_
    refine R_aload_n (pc := 5) d_X3_sumOfSearches_5 rfl rfl ?_
    obtain ⟨k1, h⟩ := h
    refine R_getR (pc := 6) fld_RX3_34 rfl rfl k1 d_X3_sumOfSearches_6 ?_
    obtain ⟨k2, h⟩ := h
    refine R_getI (pc := 9) fld_RX3_74 rfl rfl k2 d_X3_sumOfSearches_9 ?_
    refine R_icmp_ge (pc := 12) (tgt := 43) d_X3_sumOfSearches_12 (by decide) (fun c => ?_) (fun c => ?_)
    · rw [if_pos c] at h
      refine R_iload_n (pc := 43) d_X3_sumOfSearches_43 rfl rfl ?_
      exact R_retv (pc := 44) d_X3_sumOfSearches_44 h
    · rw [if_neg c] at h
      refine R_aload_n (pc := 15) d_X3_sumOfSearches_15 rfl rfl ?_
      refine R_getR (pc := 16) fld_RX3_34 rfl rfl k1 d_X3_sumOfSearches_16 ?_
      refine R_getR (pc := 19) fld_RX3_77 rfl rfl k2 d_X3_sumOfSearches_19 ?_
      refine R_iload_n (pc := 22) d_X3_sumOfSearches_22 rfl rfl ?_
      obtain ⟨k3, h⟩ := h
      obtain ⟨k4, h⟩ := h
      refine R_aald (pc := 23) k3 k4 d_X3_sumOfSearches_23 ?_
      refine R_iconst (pc := 24) (v := 5) d_X3_sumOfSearches_24 (by decide) ?_
      obtain ⟨k5, h⟩ := h
      obtain ⟨k6, h⟩ := h
      refine R_iald (pc := 25) k5 k6 d_X3_sumOfSearches_25 ?_
      refine R_if_ne (pc := 26) (tgt := 37) d_X3_sumOfSearches_26 (by decide) (fun c => ?_) (fun c => ?_)
      · rw [if_neg c] at h
        exact WP_sub (B_X3_sumOfSearches_37 Q (T_X3_sumOfSearches_4 Q n) hκ4 v0 v1 v2 M h) (by decide) (ls_s (ls_s (ls_s ls_0)))
      · rw [if_pos c] at h
        refine R_iload_n (pc := 29) d_X3_sumOfSearches_29 rfl rfl ?_
        refine R_aload_n (pc := 30) d_X3_sumOfSearches_30 rfl rfl ?_
        refine R_iload_n (pc := 31) d_X3_sumOfSearches_31 rfl rfl ?_
        refine R_callV (pc := 32) (As := [.int v2]) (rest := [.int v1]) (c_X3_searchesOf (g := g) v0 v2 M _ h) rfl rfl cal_RX3_89 ins_X3_searchesOf sel_X3_searchesOf (cls_at k1 clsOK3) (by decide) (by decide) rfl rfl (Nat.le_of_ble_eq_true rfl) d_X3_sumOfSearches_32 (k_I (fun y8 M7 h => ?_)) (fun _ _ h9 => False.elim h9)
        try dsimp only at h
        refine R_iadd (pc := 35) d_X3_sumOfSearches_35 ?_
        refine N_i (fun x9 ex9 => ?_)
        have h := h x9 ex9
        refine R_istore_n (pc := 36) (L' := [some (.ref (g.1 + v0)), some (.int x9), some (.int v2)]) d_X3_sumOfSearches_36 rfl (by decide) rfl ?_
        exact WP_sub (B_X3_sumOfSearches_37 Q (T_X3_sumOfSearches_4 Q n) hκ4 v0 x9 v2 M7 h) (by decide) (ls_s (ls_s (ls_s ls_0)))
def T_X3_sumOfSearches (Q : Int32 → Mem → Prop) (v0 : Nat) (M : Mem) : Prop := (∃ N : Nat, T_X3_sumOfSearches_4 Q N v0 0 0 M)
set_option maxRecDepth 100000 in
set_option maxHeartbeats 4000000 in
theorem c_X3_sumOfSearches {g : GG} (v0 : Nat) (M : Mem) (Q : Int32 → Mem → Prop) (h : T_X3_sumOfSearches Q v0 M) : CT g 11 mX3_sumOfSearches [.ref (g.1 + v0)] M 0 (oI Q noX) := by
  refine CT_of (L := [some (.ref (g.1 + v0)), none, none]) (by decide) rfl (Nat.le_of_ble_eq_true rfl) (ro_I rfl) rfl ?_
  unfold T_X3_sumOfSearches at h
  refine R_iconst (pc := 0) (v := 0) d_X3_sumOfSearches_0 (by decide) ?_
  refine R_istore_n (pc := 1) (L' := [some (.ref (g.1 + v0)), some (.int 0), none]) d_X3_sumOfSearches_1 rfl (by decide) rfl ?_
  refine R_iconst (pc := 2) (v := 0) d_X3_sumOfSearches_2 (by decide) ?_
  refine R_istore_n (pc := 3) (L' := [some (.ref (g.1 + v0)), some (.int 0), some (.int 0)]) d_X3_sumOfSearches_3 rfl (by decide) rfl ?_
  obtain ⟨N, h⟩ := h
  exact WP_sub (B_X3_sumOfSearches_4 Q N v0 0 0 M h) (by decide) (ls_s (ls_s (ls_s ls_0)))
/-! X3_sumOfDistances -/
theorem d_X3_sumOfDistances_0 : decode mX3_sumOfDistances.2.1 0 = .ok (.iconst 0, 1) := by decide +kernel
theorem d_X3_sumOfDistances_1 : decode mX3_sumOfDistances.2.1 1 = .ok (.istore_n 1, 1) := by decide +kernel
theorem d_X3_sumOfDistances_2 : decode mX3_sumOfDistances.2.1 2 = .ok (.iconst 0, 1) := by decide +kernel
theorem d_X3_sumOfDistances_3 : decode mX3_sumOfDistances.2.1 3 = .ok (.istore_n 2, 1) := by decide +kernel
theorem d_X3_sumOfDistances_4 : decode mX3_sumOfDistances.2.1 4 = .ok (.iload_n 2, 1) := by decide +kernel
theorem d_X3_sumOfDistances_5 : decode mX3_sumOfDistances.2.1 5 = .ok (.aload_n 0, 1) := by decide +kernel
theorem d_X3_sumOfDistances_6 : decode mX3_sumOfDistances.2.1 6 = .ok (.getfield 34, 3) := by decide +kernel
theorem d_X3_sumOfDistances_9 : decode mX3_sumOfDistances.2.1 9 = .ok (.getfield 74, 3) := by decide +kernel
theorem d_X3_sumOfDistances_12 : decode mX3_sumOfDistances.2.1 12 = .ok (.if_icmp .ge 38, 3) := by decide +kernel
theorem d_X3_sumOfDistances_15 : decode mX3_sumOfDistances.2.1 15 = .ok (.aload_n 0, 1) := by decide +kernel
theorem d_X3_sumOfDistances_16 : decode mX3_sumOfDistances.2.1 16 = .ok (.getfield 34, 3) := by decide +kernel
theorem d_X3_sumOfDistances_19 : decode mX3_sumOfDistances.2.1 19 = .ok (.getfield 77, 3) := by decide +kernel
theorem d_X3_sumOfDistances_22 : decode mX3_sumOfDistances.2.1 22 = .ok (.iload_n 2, 1) := by decide +kernel
theorem d_X3_sumOfDistances_23 : decode mX3_sumOfDistances.2.1 23 = .ok (.aaload, 1) := by decide +kernel
theorem d_X3_sumOfDistances_24 : decode mX3_sumOfDistances.2.1 24 = .ok (.astore_n 3, 1) := by decide +kernel
theorem d_X3_sumOfDistances_25 : decode mX3_sumOfDistances.2.1 25 = .ok (.aload_n 3, 1) := by decide +kernel
theorem d_X3_sumOfDistances_26 : decode mX3_sumOfDistances.2.1 26 = .ok (.iconst 5, 1) := by decide +kernel
theorem d_X3_sumOfDistances_27 : decode mX3_sumOfDistances.2.1 27 = .ok (.iaload, 1) := by decide +kernel
theorem d_X3_sumOfDistances_28 : decode mX3_sumOfDistances.2.1 28 = .ok (.ifCond .ne 16, 3) := by decide +kernel
theorem d_X3_sumOfDistances_31 : decode mX3_sumOfDistances.2.1 31 = .ok (.iload_n 1, 1) := by decide +kernel
theorem d_X3_sumOfDistances_32 : decode mX3_sumOfDistances.2.1 32 = .ok (.aload_n 0, 1) := by decide +kernel
theorem d_X3_sumOfDistances_33 : decode mX3_sumOfDistances.2.1 33 = .ok (.aload_n 3, 1) := by decide +kernel
theorem d_X3_sumOfDistances_34 : decode mX3_sumOfDistances.2.1 34 = .ok (.iconst 0, 1) := by decide +kernel
theorem d_X3_sumOfDistances_35 : decode mX3_sumOfDistances.2.1 35 = .ok (.iaload, 1) := by decide +kernel
theorem d_X3_sumOfDistances_36 : decode mX3_sumOfDistances.2.1 36 = .ok (.aload_n 3, 1) := by decide +kernel
theorem d_X3_sumOfDistances_37 : decode mX3_sumOfDistances.2.1 37 = .ok (.iconst 4, 1) := by decide +kernel
theorem d_X3_sumOfDistances_38 : decode mX3_sumOfDistances.2.1 38 = .ok (.iaload, 1) := by decide +kernel
theorem d_X3_sumOfDistances_39 : decode mX3_sumOfDistances.2.1 39 = .ok (.invokevirtual 85, 3) := by decide +kernel
theorem d_X3_sumOfDistances_42 : decode mX3_sumOfDistances.2.1 42 = .ok (.iadd, 1) := by decide +kernel
theorem d_X3_sumOfDistances_43 : decode mX3_sumOfDistances.2.1 43 = .ok (.istore_n 1, 1) := by decide +kernel
theorem d_X3_sumOfDistances_44 : decode mX3_sumOfDistances.2.1 44 = .ok (.iinc 2 1, 3) := by decide +kernel
theorem d_X3_sumOfDistances_47 : decode mX3_sumOfDistances.2.1 47 = .ok (.goto (-43), 3) := by decide +kernel
theorem d_X3_sumOfDistances_50 : decode mX3_sumOfDistances.2.1 50 = .ok (.iload_n 1, 1) := by decide +kernel
theorem d_X3_sumOfDistances_51 : decode mX3_sumOfDistances.2.1 51 = .ok (.ireturn, 1) := by decide +kernel
def T_X3_sumOfDistances_44 (κ4 : Nat → Int32 → Int32 → Mem → Prop) (Q : Int32 → Mem → Prop) (v0 : Nat) (v1 : Int32) (v2 : Int32) (M : Mem) : Prop := ∀ x1 : Int32, x1 = v2 + 1 → κ4 v0 v1 x1 M
set_option maxRecDepth 100000 in
set_option maxHeartbeats 4000000 in
theorem B_X3_sumOfDistances_44 {g : GG} (Q : Int32 → Mem → Prop) (κ4 : Nat → Int32 → Int32 → Mem → Prop) (hκ4 : ∀ (v0 : Nat) (v1 : Int32) (v2 : Int32) (M : Mem), κ4 v0 v1 v2 M → WP g 10 mX3_sumOfDistances 4 [some (.ref (g.1 + v0)), some (.int v1), some (.int v2), none] [] M 0 (oI Q noX)) (v0 : Nat) (v1 : Int32) (v2 : Int32) (M : Mem) (h : T_X3_sumOfDistances_44 κ4 Q v0 v1 v2 M) : WP g 10 mX3_sumOfDistances 44 [some (.ref (g.1 + v0)), some (.int v1), some (.int v2), none] [] M 0 (oI Q noX) := by
  unfold T_X3_sumOfDistances_44 at h
  obtain ⟨x1, ex1⟩ : ∃ z : Int32, z = v2 + 1 := ⟨_, rfl⟩
  have h := h x1 ex1
  refine R_iinc (pc := 44) (v := x1) (L' := [some (.ref (g.1 + v0)), some (.int v1), some (.int x1), none]) d_X3_sumOfDistances_44 rfl (by rw [ex1]; rfl) (by decide) rfl ?_
  refine R_goto (pc := 47) (tgt := 4) d_X3_sumOfDistances_47 (by decide) ?_
  exact WP_sub (hκ4 v0 v1 x1 M h) (by decide) (ls_s (ls_s (ls_s (ls_n ls_0))))
def T_X3_sumOfDistances_4 (Q : Int32 → Mem → Prop) : Nat → Nat → Int32 → Int32 → Mem → Prop
  | 0, _, _, _, _ => False
  | n + 1, v0, v1, v2, M => (kd v0 = 3) ∧ (kd (rf v0 5) = 4) ∧ if (M.1 (rf v0 5) 2) ≤ v2 then (Q v1 M) else ((kd (rf (rf v0 5) 0) = 10 ∨ kd (rf (rf v0 5) 0) = 11) ∧ (vp_in v2 (ln (rf (rf v0 5) 0))) ∧ ∀ r5 : Nat, r5 = rf (rf (rf v0 5) 0) (Int32.toNatClampNeg v2) → (kd r5 = 9) ∧ (vp_in 5 (ln r5)) ∧ if (M.1 r5 (Int32.toNatClampNeg 5)) = 0 then ((vp_in 0 (ln r5)) ∧ (vp_in 4 (ln r5)) ∧ T_X3_distance (fun y11 M10 => ∀ x12 : Int32, x12 = v1 + y11 → T_X3_sumOfDistances_44 (T_X3_sumOfDistances_4 Q n) Q v0 x12 v2 M10)  v0 (M.1 r5 (Int32.toNatClampNeg 0)) (M.1 r5 (Int32.toNatClampNeg 4)) M) else (T_X3_sumOfDistances_44 (T_X3_sumOfDistances_4 Q n) Q v0 v1 v2 M))
set_option maxRecDepth 100000 in
set_option maxHeartbeats 4000000 in
theorem B_X3_sumOfDistances_4 {g : GG} (Q : Int32 → Mem → Prop) : ∀ (n : Nat) (v0 : Nat) (v1 : Int32) (v2 : Int32) (M : Mem), T_X3_sumOfDistances_4 Q n v0 v1 v2 M → WP g 10 mX3_sumOfDistances 4 [some (.ref (g.1 + v0)), some (.int v1), some (.int v2), none] [] M 0 (oI Q noX) := by
  intro n
  induction n with
  | zero => intro v0 v1 v2 M h; exact h.elim
  | succ n hκ4 =>
    intro v0 v1 v2 M h
    unfold T_X3_sumOfDistances_4 at h
    refine R_iload_n (pc := 4) d_X3_sumOfDistances_4 rfl rfl ?_
    refine R_aload_n (pc := 5) d_X3_sumOfDistances_5 rfl rfl ?_
    obtain ⟨k1, h⟩ := h
    refine R_getR (pc := 6) fld_RX3_34 rfl rfl k1 d_X3_sumOfDistances_6 ?_
    obtain ⟨k2, h⟩ := h
    refine R_getI (pc := 9) fld_RX3_74 rfl rfl k2 d_X3_sumOfDistances_9 ?_
    refine R_icmp_ge (pc := 12) (tgt := 50) d_X3_sumOfDistances_12 (by decide) (fun c => ?_) (fun c => ?_)
    · rw [if_pos c] at h
      refine R_iload_n (pc := 50) d_X3_sumOfDistances_50 rfl rfl ?_
      exact R_retv (pc := 51) d_X3_sumOfDistances_51 h
    · rw [if_neg c] at h
      refine R_aload_n (pc := 15) d_X3_sumOfDistances_15 rfl rfl ?_
      refine R_getR (pc := 16) fld_RX3_34 rfl rfl k1 d_X3_sumOfDistances_16 ?_
      refine R_getR (pc := 19) fld_RX3_77 rfl rfl k2 d_X3_sumOfDistances_19 ?_
      refine R_iload_n (pc := 22) d_X3_sumOfDistances_22 rfl rfl ?_
      obtain ⟨k3, h⟩ := h
      obtain ⟨k4, h⟩ := h
      refine R_aald (pc := 23) k3 k4 d_X3_sumOfDistances_23 ?_
      refine N_r (fun r5 er5 => ?_)
      have h := h r5 er5
      refine R_astore_n (pc := 24) (L' := [some (.ref (g.1 + v0)), some (.int v1), some (.int v2), some (.ref (g.1 + r5))]) d_X3_sumOfDistances_24 rfl (by decide) rfl ?_
      refine R_aload_n (pc := 25) d_X3_sumOfDistances_25 rfl rfl ?_
      refine R_iconst (pc := 26) (v := 5) d_X3_sumOfDistances_26 (by decide) ?_
      obtain ⟨k6, h⟩ := h
      obtain ⟨k7, h⟩ := h
      refine R_iald (pc := 27) k6 k7 d_X3_sumOfDistances_27 ?_
      refine R_if_ne (pc := 28) (tgt := 44) d_X3_sumOfDistances_28 (by decide) (fun c => ?_) (fun c => ?_)
      · rw [if_neg c] at h
        exact WP_sub (B_X3_sumOfDistances_44 Q (T_X3_sumOfDistances_4 Q n) hκ4 v0 v1 v2 M h) (by decide) (ls_s (ls_s (ls_s (ls_n ls_0))))
      · rw [if_pos c] at h
        refine R_iload_n (pc := 31) d_X3_sumOfDistances_31 rfl rfl ?_
        refine R_aload_n (pc := 32) d_X3_sumOfDistances_32 rfl rfl ?_
        refine R_aload_n (pc := 33) d_X3_sumOfDistances_33 rfl rfl ?_
        refine R_iconst (pc := 34) (v := 0) d_X3_sumOfDistances_34 (by decide) ?_
        obtain ⟨k8, h⟩ := h
        refine R_iald (pc := 35) k6 k8 d_X3_sumOfDistances_35 ?_
        refine R_aload_n (pc := 36) d_X3_sumOfDistances_36 rfl rfl ?_
        refine R_iconst (pc := 37) (v := 4) d_X3_sumOfDistances_37 (by decide) ?_
        obtain ⟨k9, h⟩ := h
        refine R_iald (pc := 38) k6 k9 d_X3_sumOfDistances_38 ?_
        refine R_callV (pc := 39) (As := [.int (M.1 r5 (Int32.toNatClampNeg 0)), .int (M.1 r5 (Int32.toNatClampNeg 4))]) (rest := [.int v1]) (c_X3_distance (g := g) v0 (M.1 r5 (Int32.toNatClampNeg 0)) (M.1 r5 (Int32.toNatClampNeg 4)) M _ h) rfl rfl cal_RX3_85 ins_X3_distance sel_X3_distance (cls_at k1 clsOK3) (by decide) (by decide) rfl rfl (Nat.le_of_ble_eq_true rfl) d_X3_sumOfDistances_39 (k_I (fun y11 M10 h => ?_)) (fun _ _ h9 => False.elim h9)
        try dsimp only at h
        refine R_iadd (pc := 42) d_X3_sumOfDistances_42 ?_
        refine N_i (fun x12 ex12 => ?_)
        have h := h x12 ex12
        refine R_istore_n (pc := 43) (L' := [some (.ref (g.1 + v0)), some (.int x12), some (.int v2), some (.ref (g.1 + r5))]) d_X3_sumOfDistances_43 rfl (by decide) rfl ?_
        exact WP_sub (B_X3_sumOfDistances_44 Q (T_X3_sumOfDistances_4 Q n) hκ4 v0 x12 v2 M10 h) (by decide) (ls_s (ls_s (ls_s (ls_n ls_0))))
def T_X3_sumOfDistances (Q : Int32 → Mem → Prop) (v0 : Nat) (M : Mem) : Prop := (∃ N : Nat, T_X3_sumOfDistances_4 Q N v0 0 0 M)
set_option maxRecDepth 100000 in
set_option maxHeartbeats 4000000 in
theorem c_X3_sumOfDistances {g : GG} (v0 : Nat) (M : Mem) (Q : Int32 → Mem → Prop) (h : T_X3_sumOfDistances Q v0 M) : CT g 10 mX3_sumOfDistances [.ref (g.1 + v0)] M 0 (oI Q noX) := by
  refine CT_of (L := [some (.ref (g.1 + v0)), none, none, none]) (by decide) rfl (Nat.le_of_ble_eq_true rfl) (ro_I rfl) rfl ?_
  unfold T_X3_sumOfDistances at h
  refine R_iconst (pc := 0) (v := 0) d_X3_sumOfDistances_0 (by decide) ?_
  refine R_istore_n (pc := 1) (L' := [some (.ref (g.1 + v0)), some (.int 0), none, none]) d_X3_sumOfDistances_1 rfl (by decide) rfl ?_
  refine R_iconst (pc := 2) (v := 0) d_X3_sumOfDistances_2 (by decide) ?_
  refine R_istore_n (pc := 3) (L' := [some (.ref (g.1 + v0)), some (.int 0), some (.int 0), none]) d_X3_sumOfDistances_3 rfl (by decide) rfl ?_
  obtain ⟨N, h⟩ := h
  exact WP_sub (B_X3_sumOfDistances_4 Q N v0 0 0 M h) (by decide) (ls_s (ls_s (ls_s (ls_n ls_0))))
/-! X4_clear -/
theorem d_X4_clear_0 : decode mX4_clear.2.1 0 = .ok (.aload_n 0, 1) := by decide +kernel
theorem d_X4_clear_1 : decode mX4_clear.2.1 1 = .ok (.iconst 0, 1) := by decide +kernel
theorem d_X4_clear_2 : decode mX4_clear.2.1 2 = .ok (.putfield 18, 3) := by decide +kernel
theorem d_X4_clear_5 : decode mX4_clear.2.1 5 = .ok (.return_, 1) := by decide +kernel
def T_X4_clear (Q : Mem → Prop) (v0 : Nat) (M : Mem) : Prop := (kd v0 = 4) ∧ ∀ M2 : Mem, M2 = mset M v0 2 0 → Q M2
set_option maxRecDepth 100000 in
set_option maxHeartbeats 4000000 in
theorem c_X4_clear {g : GG} (v0 : Nat) (M : Mem) (Q : Mem → Prop) (h : T_X4_clear Q v0 M) : CT g 9 mX4_clear [.ref (g.1 + v0)] M 0 (oV Q noX) := by
  refine CT_of (L := [some (.ref (g.1 + v0))]) (by decide) rfl (Nat.le_of_ble_eq_true rfl) (ro_V rfl) rfl ?_
  unfold T_X4_clear at h
  refine R_aload_n (pc := 0) d_X4_clear_0 rfl rfl ?_
  refine R_iconst (pc := 1) (v := 0) d_X4_clear_1 (by decide) ?_
  obtain ⟨k1, h⟩ := h
  refine R_putI (pc := 2) fld_RX4_18 rfl rfl rfl k1 rfl rfl d_X4_clear_2 (N_M (fun M2 eM2 => ?_))
  have h := h M2 eM2
  exact R_ret (pc := 5) d_X4_clear_5 h
/-! X5_isFull -/
theorem d_X5_isFull_0 : decode mX5_isFull.2.1 0 = .ok (.aload_n 0, 1) := by decide +kernel
theorem d_X5_isFull_1 : decode mX5_isFull.2.1 1 = .ok (.getfield 15, 3) := by decide +kernel
theorem d_X5_isFull_4 : decode mX5_isFull.2.1 4 = .ok (.bipush 80, 2) := by decide +kernel
theorem d_X5_isFull_6 : decode mX5_isFull.2.1 6 = .ok (.if_icmp .lt 7, 3) := by decide +kernel
theorem d_X5_isFull_9 : decode mX5_isFull.2.1 9 = .ok (.iconst 1, 1) := by decide +kernel
theorem d_X5_isFull_10 : decode mX5_isFull.2.1 10 = .ok (.goto 4, 3) := by decide +kernel
theorem d_X5_isFull_13 : decode mX5_isFull.2.1 13 = .ok (.iconst 0, 1) := by decide +kernel
theorem d_X5_isFull_14 : decode mX5_isFull.2.1 14 = .ok (.ireturn, 1) := by decide +kernel
def T_X5_isFull_14 (Q : Int32 → Mem → Prop) (s0 : Int32) (M : Mem) : Prop := ((s0 : Int32) = 0 ∨ (s0 : Int32) = 1) ∧ Q s0 M
set_option maxRecDepth 100000 in
set_option maxHeartbeats 4000000 in
theorem B_X5_isFull_14 {g : GG} (Q : Int32 → Mem → Prop) (s0 : Int32) (M : Mem) (h : T_X5_isFull_14 Q s0 M) : WP g 9 mX5_isFull 14 [none] [.int s0] M 0 (oZ Q noX) := by
  unfold T_X5_isFull_14 at h
  exact R_retv (pc := 14) d_X5_isFull_14 h
def T_X5_isFull (Q : Int32 → Mem → Prop) (v0 : Nat) (M : Mem) : Prop := (kd v0 = 5) ∧ if (M.1 v0 1) < (80 : Int32) then (T_X5_isFull_14 Q 0 M) else (T_X5_isFull_14 Q 1 M)
set_option maxRecDepth 100000 in
set_option maxHeartbeats 4000000 in
theorem c_X5_isFull {g : GG} (v0 : Nat) (M : Mem) (Q : Int32 → Mem → Prop) (h : T_X5_isFull Q v0 M) : CT g 9 mX5_isFull [.ref (g.1 + v0)] M 0 (oZ Q noX) := by
  refine CT_of (L := [some (.ref (g.1 + v0))]) (by decide) rfl (Nat.le_of_ble_eq_true rfl) (ro_Z rfl) rfl ?_
  unfold T_X5_isFull at h
  refine R_aload_n (pc := 0) d_X5_isFull_0 rfl rfl ?_
  obtain ⟨k1, h⟩ := h
  refine R_getI (pc := 1) fld_RX5_15 rfl rfl k1 d_X5_isFull_1 ?_
  refine R_bipush (pc := 4) (v := 80) d_X5_isFull_4 (by decide) ?_
  refine R_icmp_lt (pc := 6) (tgt := 13) d_X5_isFull_6 (by decide) (fun c => ?_) (fun c => ?_)
  · rw [if_pos c] at h
    refine R_iconst (pc := 13) (v := 0) d_X5_isFull_13 (by decide) ?_
    exact WP_sub (B_X5_isFull_14 Q 0 M h) (by decide) (ls_n ls_0)
  · rw [if_neg c] at h
    refine R_iconst (pc := 9) (v := 1) d_X5_isFull_9 (by decide) ?_
    refine R_goto (pc := 10) (tgt := 14) d_X5_isFull_10 (by decide) ?_
    exact WP_sub (B_X5_isFull_14 Q 1 M h) (by decide) (ls_n ls_0)
/-! X5_append -/
theorem d_X5_append_0 : decode mX5_append.2.1 0 = .ok (.aload_n 0, 1) := by decide +kernel
theorem d_X5_append_1 : decode mX5_append.2.1 1 = .ok (.getfield 15, 3) := by decide +kernel
theorem d_X5_append_4 : decode mX5_append.2.1 4 = .ok (.bipush 80, 2) := by decide +kernel
theorem d_X5_append_6 : decode mX5_append.2.1 6 = .ok (.if_icmp .ge 23, 3) := by decide +kernel
theorem d_X5_append_9 : decode mX5_append.2.1 9 = .ok (.aload_n 0, 1) := by decide +kernel
theorem d_X5_append_10 : decode mX5_append.2.1 10 = .ok (.getfield 9, 3) := by decide +kernel
theorem d_X5_append_13 : decode mX5_append.2.1 13 = .ok (.aload_n 0, 1) := by decide +kernel
theorem d_X5_append_14 : decode mX5_append.2.1 14 = .ok (.getfield 15, 3) := by decide +kernel
theorem d_X5_append_17 : decode mX5_append.2.1 17 = .ok (.iload_n 1, 1) := by decide +kernel
theorem d_X5_append_18 : decode mX5_append.2.1 18 = .ok (.castore, 1) := by decide +kernel
theorem d_X5_append_19 : decode mX5_append.2.1 19 = .ok (.aload_n 0, 1) := by decide +kernel
theorem d_X5_append_20 : decode mX5_append.2.1 20 = .ok (.dup, 1) := by decide +kernel
theorem d_X5_append_21 : decode mX5_append.2.1 21 = .ok (.getfield 15, 3) := by decide +kernel
theorem d_X5_append_24 : decode mX5_append.2.1 24 = .ok (.iconst 1, 1) := by decide +kernel
theorem d_X5_append_25 : decode mX5_append.2.1 25 = .ok (.iadd, 1) := by decide +kernel
theorem d_X5_append_26 : decode mX5_append.2.1 26 = .ok (.putfield 15, 3) := by decide +kernel
theorem d_X5_append_29 : decode mX5_append.2.1 29 = .ok (.aload_n 0, 1) := by decide +kernel
theorem d_X5_append_30 : decode mX5_append.2.1 30 = .ok (.getfield 15, 3) := by decide +kernel
theorem d_X5_append_33 : decode mX5_append.2.1 33 = .ok (.ireturn, 1) := by decide +kernel
def T_X5_append_29 (Q : Int32 → Mem → Prop) (v0 : Nat) (M : Mem) : Prop := (kd v0 = 5) ∧ Q (M.1 v0 1) M
set_option maxRecDepth 100000 in
set_option maxHeartbeats 4000000 in
theorem B_X5_append_29 {g : GG} (Q : Int32 → Mem → Prop) (v0 : Nat) (M : Mem) (h : T_X5_append_29 Q v0 M) : WP g 9 mX5_append 29 [some (.ref (g.1 + v0)), none] [] M 0 (oI Q noX) := by
  unfold T_X5_append_29 at h
  refine R_aload_n (pc := 29) d_X5_append_29 rfl rfl ?_
  obtain ⟨k1, h⟩ := h
  refine R_getI (pc := 30) fld_RX5_15 rfl rfl k1 d_X5_append_30 ?_
  exact R_retv (pc := 33) d_X5_append_33 h
def T_X5_append (Q : Int32 → Mem → Prop) (v0 : Nat) (v1 : Int32) (M : Mem) : Prop := (kd v0 = 5) ∧ if (80 : Int32) ≤ (M.1 v0 1) then (T_X5_append_29 Q v0 M) else ((kd (rf v0 0) = 8) ∧ (vp_in (M.1 v0 1) (ln (rf v0 0))) ∧ ∀ M4 : Mem, M4 = mset M (rf v0 0) (Int32.toNatClampNeg (M.1 v0 1)) (vp_nar .char v1) → ∀ M5 : Mem, M5 = mset M4 v0 1 ((M4.1 v0 1) + 1) → T_X5_append_29 Q v0 M5)
set_option maxRecDepth 100000 in
set_option maxHeartbeats 4000000 in
theorem c_X5_append {g : GG} (v0 : Nat) (v1 : Int32) (M : Mem) (Q : Int32 → Mem → Prop) (h : T_X5_append Q v0 v1 M) : CT g 9 mX5_append [.ref (g.1 + v0), .int v1] M 0 (oI Q noX) := by
  refine CT_of (L := [some (.ref (g.1 + v0)), some (.int v1)]) (by decide) rfl (Nat.le_of_ble_eq_true rfl) (ro_I rfl) rfl ?_
  unfold T_X5_append at h
  refine R_aload_n (pc := 0) d_X5_append_0 rfl rfl ?_
  obtain ⟨k1, h⟩ := h
  refine R_getI (pc := 1) fld_RX5_15 rfl rfl k1 d_X5_append_1 ?_
  refine R_bipush (pc := 4) (v := 80) d_X5_append_4 (by decide) ?_
  refine R_icmp_ge (pc := 6) (tgt := 29) d_X5_append_6 (by decide) (fun c => ?_) (fun c => ?_)
  · rw [if_pos c] at h
    exact WP_sub (B_X5_append_29 Q v0 M h) (by decide) (ls_s (ls_n ls_0))
  · rw [if_neg c] at h
    refine R_aload_n (pc := 9) d_X5_append_9 rfl rfl ?_
    refine R_getR (pc := 10) fld_RX5_9 rfl rfl k1 d_X5_append_10 ?_
    refine R_aload_n (pc := 13) d_X5_append_13 rfl rfl ?_
    refine R_getI (pc := 14) fld_RX5_15 rfl rfl k1 d_X5_append_14 ?_
    refine R_iload_n (pc := 17) d_X5_append_17 rfl rfl ?_
    obtain ⟨k2, h⟩ := h
    obtain ⟨k3, h⟩ := h
    refine R_cast (pc := 18) k2 k3 d_X5_append_18 (N_M (fun M4 eM4 => ?_))
    have h := h M4 eM4
    refine R_aload_n (pc := 19) d_X5_append_19 rfl rfl ?_
    refine R_dup (pc := 20) d_X5_append_20 rfl ?_
    refine R_getI (pc := 21) fld_RX5_15 rfl rfl k1 d_X5_append_21 ?_
    refine R_iconst (pc := 24) (v := 1) d_X5_append_24 (by decide) ?_
    refine R_iadd (pc := 25) d_X5_append_25 ?_
    refine R_putI (pc := 26) fld_RX5_15 rfl rfl rfl k1 rfl rfl d_X5_append_26 (N_M (fun M5 eM5 => ?_))
    have h := h M5 eM5
    exact WP_sub (B_X5_append_29 Q v0 M5 h) (by decide) (ls_s (ls_n ls_0))
/-! X5_empty -/
theorem d_X5_empty_0 : decode mX5_empty.2.1 0 = .ok (.aload_n 0, 1) := by decide +kernel
theorem d_X5_empty_1 : decode mX5_empty.2.1 1 = .ok (.iconst 0, 1) := by decide +kernel
theorem d_X5_empty_2 : decode mX5_empty.2.1 2 = .ok (.putfield 15, 3) := by decide +kernel
theorem d_X5_empty_5 : decode mX5_empty.2.1 5 = .ok (.return_, 1) := by decide +kernel
def T_X5_empty (Q : Mem → Prop) (v0 : Nat) (M : Mem) : Prop := (kd v0 = 5) ∧ ∀ M2 : Mem, M2 = mset M v0 1 0 → Q M2
set_option maxRecDepth 100000 in
set_option maxHeartbeats 4000000 in
theorem c_X5_empty {g : GG} (v0 : Nat) (M : Mem) (Q : Mem → Prop) (h : T_X5_empty Q v0 M) : CT g 9 mX5_empty [.ref (g.1 + v0)] M 0 (oV Q noX) := by
  refine CT_of (L := [some (.ref (g.1 + v0))]) (by decide) rfl (Nat.le_of_ble_eq_true rfl) (ro_V rfl) rfl ?_
  unfold T_X5_empty at h
  refine R_aload_n (pc := 0) d_X5_empty_0 rfl rfl ?_
  refine R_iconst (pc := 1) (v := 0) d_X5_empty_1 (by decide) ?_
  obtain ⟨k1, h⟩ := h
  refine R_putI (pc := 2) fld_RX5_15 rfl rfl rfl k1 rfl rfl d_X5_empty_2 (N_M (fun M2 eM2 => ?_))
  have h := h M2 eM2
  exact R_ret (pc := 5) d_X5_empty_5 h
/-! X5_hasSign -/
theorem d_X5_hasSign_0 : decode mX5_hasSign.2.1 0 = .ok (.aload_n 0, 1) := by decide +kernel
theorem d_X5_hasSign_1 : decode mX5_hasSign.2.1 1 = .ok (.getfield 19, 3) := by decide +kernel
theorem d_X5_hasSign_4 : decode mX5_hasSign.2.1 4 = .ok (.aload_n 0, 1) := by decide +kernel
theorem d_X5_hasSign_5 : decode mX5_hasSign.2.1 5 = .ok (.getfield 15, 3) := by decide +kernel
theorem d_X5_hasSign_8 : decode mX5_hasSign.2.1 8 = .ok (.if_icmp .ge 16, 3) := by decide +kernel
theorem d_X5_hasSign_11 : decode mX5_hasSign.2.1 11 = .ok (.aload_n 0, 1) := by decide +kernel
theorem d_X5_hasSign_12 : decode mX5_hasSign.2.1 12 = .ok (.getfield 9, 3) := by decide +kernel
theorem d_X5_hasSign_15 : decode mX5_hasSign.2.1 15 = .ok (.aload_n 0, 1) := by decide +kernel
theorem d_X5_hasSign_16 : decode mX5_hasSign.2.1 16 = .ok (.getfield 19, 3) := by decide +kernel
theorem d_X5_hasSign_19 : decode mX5_hasSign.2.1 19 = .ok (.caload, 1) := by decide +kernel
theorem d_X5_hasSign_20 : decode mX5_hasSign.2.1 20 = .ok (.iload_n 1, 1) := by decide +kernel
theorem d_X5_hasSign_21 : decode mX5_hasSign.2.1 21 = .ok (.if_icmp .eq 5, 3) := by decide +kernel
theorem d_X5_hasSign_24 : decode mX5_hasSign.2.1 24 = .ok (.iconst 0, 1) := by decide +kernel
theorem d_X5_hasSign_25 : decode mX5_hasSign.2.1 25 = .ok (.ireturn, 1) := by decide +kernel
theorem d_X5_hasSign_26 : decode mX5_hasSign.2.1 26 = .ok (.aload_n 0, 1) := by decide +kernel
theorem d_X5_hasSign_27 : decode mX5_hasSign.2.1 27 = .ok (.dup, 1) := by decide +kernel
theorem d_X5_hasSign_28 : decode mX5_hasSign.2.1 28 = .ok (.getfield 19, 3) := by decide +kernel
theorem d_X5_hasSign_31 : decode mX5_hasSign.2.1 31 = .ok (.iconst 1, 1) := by decide +kernel
theorem d_X5_hasSign_32 : decode mX5_hasSign.2.1 32 = .ok (.iadd, 1) := by decide +kernel
theorem d_X5_hasSign_33 : decode mX5_hasSign.2.1 33 = .ok (.putfield 19, 3) := by decide +kernel
theorem d_X5_hasSign_36 : decode mX5_hasSign.2.1 36 = .ok (.iconst 1, 1) := by decide +kernel
theorem d_X5_hasSign_37 : decode mX5_hasSign.2.1 37 = .ok (.ireturn, 1) := by decide +kernel
def T_X5_hasSign_24 (Q : Int32 → Mem → Prop) (M : Mem) : Prop := ((0 : Int32) = 0 ∨ (0 : Int32) = 1) ∧ Q 0 M
set_option maxRecDepth 100000 in
set_option maxHeartbeats 4000000 in
theorem B_X5_hasSign_24 {g : GG} (Q : Int32 → Mem → Prop) (M : Mem) (h : T_X5_hasSign_24 Q  M) : WP g 9 mX5_hasSign 24 [none, none] [] M 0 (oZ Q noX) := by
  unfold T_X5_hasSign_24 at h
  refine R_iconst (pc := 24) (v := 0) d_X5_hasSign_24 (by decide) ?_
  exact R_retv (pc := 25) d_X5_hasSign_25 h
def T_X5_hasSign (Q : Int32 → Mem → Prop) (v0 : Nat) (v1 : Int32) (M : Mem) : Prop := (kd v0 = 5) ∧ if (M.1 v0 1) ≤ (M.1 v0 2) then (T_X5_hasSign_24 Q M) else ((kd (rf v0 0) = 8) ∧ (vp_in (M.1 v0 2) (ln (rf v0 0))) ∧ if (M.1 (rf v0 0) (Int32.toNatClampNeg (M.1 v0 2))) = v1 then (∀ M4 : Mem, M4 = mset M v0 2 ((M.1 v0 2) + 1) → ((1 : Int32) = 0 ∨ (1 : Int32) = 1) ∧ Q 1 M4) else (T_X5_hasSign_24 Q M))
set_option maxRecDepth 100000 in
set_option maxHeartbeats 4000000 in
theorem c_X5_hasSign {g : GG} (v0 : Nat) (v1 : Int32) (M : Mem) (Q : Int32 → Mem → Prop) (h : T_X5_hasSign Q v0 v1 M) : CT g 9 mX5_hasSign [.ref (g.1 + v0), .int v1] M 0 (oZ Q noX) := by
  refine CT_of (L := [some (.ref (g.1 + v0)), some (.int v1)]) (by decide) rfl (Nat.le_of_ble_eq_true rfl) (ro_Z rfl) rfl ?_
  unfold T_X5_hasSign at h
  refine R_aload_n (pc := 0) d_X5_hasSign_0 rfl rfl ?_
  obtain ⟨k1, h⟩ := h
  refine R_getI (pc := 1) fld_RX5_19 rfl rfl k1 d_X5_hasSign_1 ?_
  refine R_aload_n (pc := 4) d_X5_hasSign_4 rfl rfl ?_
  refine R_getI (pc := 5) fld_RX5_15 rfl rfl k1 d_X5_hasSign_5 ?_
  refine R_icmp_ge (pc := 8) (tgt := 24) d_X5_hasSign_8 (by decide) (fun c => ?_) (fun c => ?_)
  · rw [if_pos c] at h
    exact WP_sub (B_X5_hasSign_24 Q M h) (by decide) (ls_n (ls_n ls_0))
  · rw [if_neg c] at h
    refine R_aload_n (pc := 11) d_X5_hasSign_11 rfl rfl ?_
    refine R_getR (pc := 12) fld_RX5_9 rfl rfl k1 d_X5_hasSign_12 ?_
    refine R_aload_n (pc := 15) d_X5_hasSign_15 rfl rfl ?_
    refine R_getI (pc := 16) fld_RX5_19 rfl rfl k1 d_X5_hasSign_16 ?_
    obtain ⟨k2, h⟩ := h
    obtain ⟨k3, h⟩ := h
    refine R_cald (pc := 19) k2 k3 d_X5_hasSign_19 ?_
    refine R_iload_n (pc := 20) d_X5_hasSign_20 rfl rfl ?_
    refine R_icmp_eq (pc := 21) (tgt := 26) d_X5_hasSign_21 (by decide) (fun c => ?_) (fun c => ?_)
    · rw [if_pos c] at h
      refine R_aload_n (pc := 26) d_X5_hasSign_26 rfl rfl ?_
      refine R_dup (pc := 27) d_X5_hasSign_27 rfl ?_
      refine R_getI (pc := 28) fld_RX5_19 rfl rfl k1 d_X5_hasSign_28 ?_
      refine R_iconst (pc := 31) (v := 1) d_X5_hasSign_31 (by decide) ?_
      refine R_iadd (pc := 32) d_X5_hasSign_32 ?_
      refine R_putI (pc := 33) fld_RX5_19 rfl rfl rfl k1 rfl rfl d_X5_hasSign_33 (N_M (fun M4 eM4 => ?_))
      have h := h M4 eM4
      refine R_iconst (pc := 36) (v := 1) d_X5_hasSign_36 (by decide) ?_
      exact R_retv (pc := 37) d_X5_hasSign_37 h
    · rw [if_neg c] at h
      exact WP_sub (B_X5_hasSign_24 Q M h) (by decide) (ls_n (ls_n ls_0))
