/-! X2_lookAt -/
theorem d_X2_lookAt_0 : decode mX2_lookAt.2.1 0 = .ok (.aload_n 0, 1) := by decide +kernel
theorem d_X2_lookAt_1 : decode mX2_lookAt.2.1 1 = .ok (.getfield 15, 3) := by decide +kernel
theorem d_X2_lookAt_4 : decode mX2_lookAt.2.1 4 = .ok (.iconst (-1), 1) := by decide +kernel
theorem d_X2_lookAt_5 : decode mX2_lookAt.2.1 5 = .ok (.invokestatic 99, 3) := by decide +kernel
theorem d_X2_lookAt_8 : decode mX2_lookAt.2.1 8 = .ok (.aload_n 0, 1) := by decide +kernel
theorem d_X2_lookAt_9 : decode mX2_lookAt.2.1 9 = .ok (.iconst 0, 1) := by decide +kernel
theorem d_X2_lookAt_10 : decode mX2_lookAt.2.1 10 = .ok (.putfield 19, 3) := by decide +kernel
theorem d_X2_lookAt_13 : decode mX2_lookAt.2.1 13 = .ok (.aload_n 0, 1) := by decide +kernel
theorem d_X2_lookAt_14 : decode mX2_lookAt.2.1 14 = .ok (.iconst 0, 1) := by decide +kernel
theorem d_X2_lookAt_15 : decode mX2_lookAt.2.1 15 = .ok (.putfield 23, 3) := by decide +kernel
theorem d_X2_lookAt_18 : decode mX2_lookAt.2.1 18 = .ok (.aload_n 0, 1) := by decide +kernel
theorem d_X2_lookAt_19 : decode mX2_lookAt.2.1 19 = .ok (.aload_n 0, 1) := by decide +kernel
theorem d_X2_lookAt_20 : decode mX2_lookAt.2.1 20 = .ok (.getfield 9, 3) := by decide +kernel
theorem d_X2_lookAt_23 : decode mX2_lookAt.2.1 23 = .ok (.getfield 105, 3) := by decide +kernel
theorem d_X2_lookAt_26 : decode mX2_lookAt.2.1 26 = .ok (.iconst 3, 1) := by decide +kernel
theorem d_X2_lookAt_27 : decode mX2_lookAt.2.1 27 = .ok (.iaload, 1) := by decide +kernel
theorem d_X2_lookAt_28 : decode mX2_lookAt.2.1 28 = .ok (.putfield 26, 3) := by decide +kernel
theorem d_X2_lookAt_31 : decode mX2_lookAt.2.1 31 = .ok (.iconst 0, 1) := by decide +kernel
theorem d_X2_lookAt_32 : decode mX2_lookAt.2.1 32 = .ok (.istore_n 3, 1) := by decide +kernel
theorem d_X2_lookAt_33 : decode mX2_lookAt.2.1 33 = .ok (.iload_n 3, 1) := by decide +kernel
theorem d_X2_lookAt_34 : decode mX2_lookAt.2.1 34 = .ok (.aload_n 0, 1) := by decide +kernel
theorem d_X2_lookAt_35 : decode mX2_lookAt.2.1 35 = .ok (.getfield 9, 3) := by decide +kernel
theorem d_X2_lookAt_38 : decode mX2_lookAt.2.1 38 = .ok (.getfield 92, 3) := by decide +kernel
theorem d_X2_lookAt_41 : decode mX2_lookAt.2.1 41 = .ok (.getfield 56, 3) := by decide +kernel
theorem d_X2_lookAt_44 : decode mX2_lookAt.2.1 44 = .ok (.if_icmp .ge 101, 3) := by decide +kernel
theorem d_X2_lookAt_47 : decode mX2_lookAt.2.1 47 = .ok (.aload_n 0, 1) := by decide +kernel
theorem d_X2_lookAt_48 : decode mX2_lookAt.2.1 48 = .ok (.getfield 9, 3) := by decide +kernel
theorem d_X2_lookAt_51 : decode mX2_lookAt.2.1 51 = .ok (.getfield 92, 3) := by decide +kernel
theorem d_X2_lookAt_54 : decode mX2_lookAt.2.1 54 = .ok (.getfield 61, 3) := by decide +kernel
theorem d_X2_lookAt_57 : decode mX2_lookAt.2.1 57 = .ok (.iload_n 3, 1) := by decide +kernel
theorem d_X2_lookAt_58 : decode mX2_lookAt.2.1 58 = .ok (.aaload, 1) := by decide +kernel
theorem d_X2_lookAt_59 : decode mX2_lookAt.2.1 59 = .ok (.astore 4, 2) := by decide +kernel
theorem d_X2_lookAt_61 : decode mX2_lookAt.2.1 61 = .ok (.aload 4, 2) := by decide +kernel
theorem d_X2_lookAt_63 : decode mX2_lookAt.2.1 63 = .ok (.iconst 2, 1) := by decide +kernel
theorem d_X2_lookAt_64 : decode mX2_lookAt.2.1 64 = .ok (.iaload, 1) := by decide +kernel
theorem d_X2_lookAt_65 : decode mX2_lookAt.2.1 65 = .ok (.iload_n 1, 1) := by decide +kernel
theorem d_X2_lookAt_66 : decode mX2_lookAt.2.1 66 = .ok (.if_icmp .ne 73, 3) := by decide +kernel
theorem d_X2_lookAt_69 : decode mX2_lookAt.2.1 69 = .ok (.aload 4, 2) := by decide +kernel
theorem d_X2_lookAt_71 : decode mX2_lookAt.2.1 71 = .ok (.iconst 3, 1) := by decide +kernel
theorem d_X2_lookAt_72 : decode mX2_lookAt.2.1 72 = .ok (.iaload, 1) := by decide +kernel
theorem d_X2_lookAt_73 : decode mX2_lookAt.2.1 73 = .ok (.iload_n 2, 1) := by decide +kernel
theorem d_X2_lookAt_74 : decode mX2_lookAt.2.1 74 = .ok (.if_icmp .ne 65, 3) := by decide +kernel
theorem d_X2_lookAt_77 : decode mX2_lookAt.2.1 77 = .ok (.aload 4, 2) := by decide +kernel
theorem d_X2_lookAt_79 : decode mX2_lookAt.2.1 79 = .ok (.iconst 5, 1) := by decide +kernel
theorem d_X2_lookAt_80 : decode mX2_lookAt.2.1 80 = .ok (.iaload, 1) := by decide +kernel
theorem d_X2_lookAt_81 : decode mX2_lookAt.2.1 81 = .ok (.ifCond .ne 58, 3) := by decide +kernel
theorem d_X2_lookAt_84 : decode mX2_lookAt.2.1 84 = .ok (.aload_n 0, 1) := by decide +kernel
theorem d_X2_lookAt_85 : decode mX2_lookAt.2.1 85 = .ok (.getfield 15, 3) := by decide +kernel
theorem d_X2_lookAt_88 : decode mX2_lookAt.2.1 88 = .ok (.aload 4, 2) := by decide +kernel
theorem d_X2_lookAt_90 : decode mX2_lookAt.2.1 90 = .ok (.iconst 0, 1) := by decide +kernel
theorem d_X2_lookAt_91 : decode mX2_lookAt.2.1 91 = .ok (.iaload, 1) := by decide +kernel
theorem d_X2_lookAt_92 : decode mX2_lookAt.2.1 92 = .ok (.iload_n 3, 1) := by decide +kernel
theorem d_X2_lookAt_93 : decode mX2_lookAt.2.1 93 = .ok (.iastore, 1) := by decide +kernel
theorem d_X2_lookAt_94 : decode mX2_lookAt.2.1 94 = .ok (.aload_n 0, 1) := by decide +kernel
theorem d_X2_lookAt_95 : decode mX2_lookAt.2.1 95 = .ok (.dup, 1) := by decide +kernel
theorem d_X2_lookAt_96 : decode mX2_lookAt.2.1 96 = .ok (.getfield 19, 3) := by decide +kernel
theorem d_X2_lookAt_99 : decode mX2_lookAt.2.1 99 = .ok (.aload 4, 2) := by decide +kernel
theorem d_X2_lookAt_101 : decode mX2_lookAt.2.1 101 = .ok (.iconst 1, 1) := by decide +kernel
theorem d_X2_lookAt_102 : decode mX2_lookAt.2.1 102 = .ok (.iaload, 1) := by decide +kernel
theorem d_X2_lookAt_103 : decode mX2_lookAt.2.1 103 = .ok (.ior, 1) := by decide +kernel
theorem d_X2_lookAt_104 : decode mX2_lookAt.2.1 104 = .ok (.putfield 19, 3) := by decide +kernel
theorem d_X2_lookAt_107 : decode mX2_lookAt.2.1 107 = .ok (.aload_n 0, 1) := by decide +kernel
theorem d_X2_lookAt_108 : decode mX2_lookAt.2.1 108 = .ok (.dup, 1) := by decide +kernel
theorem d_X2_lookAt_109 : decode mX2_lookAt.2.1 109 = .ok (.getfield 23, 3) := by decide +kernel
theorem d_X2_lookAt_112 : decode mX2_lookAt.2.1 112 = .ok (.iconst 1, 1) := by decide +kernel
theorem d_X2_lookAt_113 : decode mX2_lookAt.2.1 113 = .ok (.aload 4, 2) := by decide +kernel
theorem d_X2_lookAt_115 : decode mX2_lookAt.2.1 115 = .ok (.iconst 4, 1) := by decide +kernel
theorem d_X2_lookAt_116 : decode mX2_lookAt.2.1 116 = .ok (.iaload, 1) := by decide +kernel
theorem d_X2_lookAt_117 : decode mX2_lookAt.2.1 117 = .ok (.ishl, 1) := by decide +kernel
theorem d_X2_lookAt_118 : decode mX2_lookAt.2.1 118 = .ok (.ior, 1) := by decide +kernel
theorem d_X2_lookAt_119 : decode mX2_lookAt.2.1 119 = .ok (.putfield 23, 3) := by decide +kernel
theorem d_X2_lookAt_122 : decode mX2_lookAt.2.1 122 = .ok (.aload_n 0, 1) := by decide +kernel
theorem d_X2_lookAt_123 : decode mX2_lookAt.2.1 123 = .ok (.dup, 1) := by decide +kernel
theorem d_X2_lookAt_124 : decode mX2_lookAt.2.1 124 = .ok (.getfield 26, 3) := by decide +kernel
theorem d_X2_lookAt_127 : decode mX2_lookAt.2.1 127 = .ok (.aload_n 0, 1) := by decide +kernel
theorem d_X2_lookAt_128 : decode mX2_lookAt.2.1 128 = .ok (.getfield 9, 3) := by decide +kernel
theorem d_X2_lookAt_131 : decode mX2_lookAt.2.1 131 = .ok (.iload_n 3, 1) := by decide +kernel
theorem d_X2_lookAt_132 : decode mX2_lookAt.2.1 132 = .ok (.invokevirtual 108, 3) := by decide +kernel
theorem d_X2_lookAt_135 : decode mX2_lookAt.2.1 135 = .ok (.isub, 1) := by decide +kernel
theorem d_X2_lookAt_136 : decode mX2_lookAt.2.1 136 = .ok (.putfield 26, 3) := by decide +kernel
theorem d_X2_lookAt_139 : decode mX2_lookAt.2.1 139 = .ok (.iinc 3 1, 3) := by decide +kernel
theorem d_X2_lookAt_142 : decode mX2_lookAt.2.1 142 = .ok (.goto (-109), 3) := by decide +kernel
theorem d_X2_lookAt_145 : decode mX2_lookAt.2.1 145 = .ok (.return_, 1) := by decide +kernel
def T_X2_lookAt_139 (κ33 : Nat → Int32 → Int32 → Int32 → Mem → Prop) (Q : Mem → Prop) (v0 : Nat) (v1 : Int32) (v2 : Int32) (v3 : Int32) (M : Mem) : Prop := ∀ x1 : Int32, x1 = v3 + 1 → κ33 v0 v1 v2 x1 M
set_option maxRecDepth 100000 in
set_option maxHeartbeats 4000000 in
theorem B_X2_lookAt_139 {g : GG} (Q : Mem → Prop) (κ33 : Nat → Int32 → Int32 → Int32 → Mem → Prop) (hκ33 : ∀ (v0 : Nat) (v1 : Int32) (v2 : Int32) (v3 : Int32) (M : Mem), κ33 v0 v1 v2 v3 M → WP g 11 mX2_lookAt 33 [some (.ref (g.1 + v0)), some (.int v1), some (.int v2), some (.int v3), none] [] M 0 (oV Q noX)) (v0 : Nat) (v1 : Int32) (v2 : Int32) (v3 : Int32) (M : Mem) (h : T_X2_lookAt_139 κ33 Q v0 v1 v2 v3 M) : WP g 11 mX2_lookAt 139 [some (.ref (g.1 + v0)), some (.int v1), some (.int v2), some (.int v3), none] [] M 0 (oV Q noX) := by
  unfold T_X2_lookAt_139 at h
  obtain ⟨x1, ex1⟩ : ∃ z : Int32, z = v3 + 1 := ⟨_, rfl⟩
  have h := h x1 ex1
  refine R_iinc (pc := 139) (v := x1) (L' := [some (.ref (g.1 + v0)), some (.int v1), some (.int v2), some (.int x1), none]) d_X2_lookAt_139 rfl (by rw [ex1]; rfl) (by decide) rfl ?_
  refine R_goto (pc := 142) (tgt := 33) d_X2_lookAt_142 (by decide) ?_
  exact WP_sub (hκ33 v0 v1 v2 x1 M h) (by decide) (ls_s (ls_s (ls_s (ls_s (ls_n ls_0)))))
def T_X2_lookAt_33 (Q : Mem → Prop) : Nat → Nat → Int32 → Int32 → Int32 → Mem → Prop
  | 0, _, _, _, _, _ => False
  | n + 1, v0, v1, v2, v3, M => (kd v0 = 2) ∧ (kd (rf v0 0) = 3) ∧ (kd (rf (rf v0 0) 5) = 4) ∧ if (M.1 (rf (rf v0 0) 5) 2) ≤ v3 then (Q M) else ((kd (rf (rf (rf v0 0) 5) 0) = 10 ∨ kd (rf (rf (rf v0 0) 5) 0) = 11) ∧ (vp_in v3 (ln (rf (rf (rf v0 0) 5) 0))) ∧ ∀ r6 : Nat, r6 = rf (rf (rf (rf v0 0) 5) 0) (Int32.toNatClampNeg v3) → (kd r6 = 9) ∧ (vp_in 2 (ln r6)) ∧ if (M.1 r6 (Int32.toNatClampNeg 2)) = v1 then ((vp_in 3 (ln r6)) ∧ if (M.1 r6 (Int32.toNatClampNeg 3)) = v2 then ((vp_in 5 (ln r6)) ∧ if (M.1 r6 (Int32.toNatClampNeg 5)) = 0 then ((vp_in 0 (ln r6)) ∧ (kd (rf v0 1) = 9) ∧ (vp_in (M.1 r6 (Int32.toNatClampNeg 0)) (ln (rf v0 1))) ∧ ∀ M14 : Mem, M14 = mset M (rf v0 1) (Int32.toNatClampNeg (M.1 r6 (Int32.toNatClampNeg 0))) v3 → (vp_in 1 (ln r6)) ∧ ∀ M16 : Mem, M16 = mset M14 v0 2 ((M14.1 v0 2) ||| (M14.1 r6 (Int32.toNatClampNeg 1))) → (vp_in 4 (ln r6)) ∧ ∀ M18 : Mem, M18 = mset M16 v0 3 ((M16.1 v0 3) ||| (1 <<< ((M16.1 r6 (Int32.toNatClampNeg 4)) &&& 31))) → T_X3_searchesOf (fun y20 M19 => ∀ M21 : Mem, M21 = mset M19 v0 4 ((M18.1 v0 4) - y20) → T_X2_lookAt_139 (T_X2_lookAt_33 Q n) Q v0 v1 v2 v3 M21)  (rf v0 0) v3 M18) else (T_X2_lookAt_139 (T_X2_lookAt_33 Q n) Q v0 v1 v2 v3 M)) else (T_X2_lookAt_139 (T_X2_lookAt_33 Q n) Q v0 v1 v2 v3 M)) else (T_X2_lookAt_139 (T_X2_lookAt_33 Q n) Q v0 v1 v2 v3 M))
set_option maxRecDepth 100000 in
set_option maxHeartbeats 4000000 in
theorem B_X2_lookAt_33 {g : GG} (Q : Mem → Prop) : ∀ (n : Nat) (v0 : Nat) (v1 : Int32) (v2 : Int32) (v3 : Int32) (M : Mem), T_X2_lookAt_33 Q n v0 v1 v2 v3 M → WP g 11 mX2_lookAt 33 [some (.ref (g.1 + v0)), some (.int v1), some (.int v2), some (.int v3), none] [] M 0 (oV Q noX) := by
  intro n
  induction n with
  | zero => intro v0 v1 v2 v3 M h; exact h.elim
  | succ n hκ33 =>
    intro v0 v1 v2 v3 M h
    unfold T_X2_lookAt_33 at h
    refine R_iload_n (pc := 33) d_X2_lookAt_33 rfl rfl ?_
    refine R_aload_n (pc := 34) d_X2_lookAt_34 rfl rfl ?_
    obtain ⟨k1, h⟩ := h
    refine R_getR (pc := 35) fld_RX2_9 rfl rfl k1 d_X2_lookAt_35 ?_
    obtain ⟨k2, h⟩ := h
    refine R_getR (pc := 38) fld_RX2_92 rfl rfl k2 d_X2_lookAt_38 ?_
    obtain ⟨k3, h⟩ := h
    refine R_getI (pc := 41) fld_RX2_56 rfl rfl k3 d_X2_lookAt_41 ?_
    refine R_icmp_ge (pc := 44) (tgt := 145) d_X2_lookAt_44 (by decide) (fun c => ?_) (fun c => ?_)
    · rw [if_pos c] at h
      exact R_ret (pc := 145) d_X2_lookAt_145 h
    · rw [if_neg c] at h
      refine R_aload_n (pc := 47) d_X2_lookAt_47 rfl rfl ?_
      refine R_getR (pc := 48) fld_RX2_9 rfl rfl k1 d_X2_lookAt_48 ?_
      refine R_getR (pc := 51) fld_RX2_92 rfl rfl k2 d_X2_lookAt_51 ?_
      refine R_getR (pc := 54) fld_RX2_61 rfl rfl k3 d_X2_lookAt_54 ?_
      refine R_iload_n (pc := 57) d_X2_lookAt_57 rfl rfl ?_
      obtain ⟨k4, h⟩ := h
      obtain ⟨k5, h⟩ := h
      refine R_aald (pc := 58) k4 k5 d_X2_lookAt_58 ?_
      refine N_r (fun r6 er6 => ?_)
      have h := h r6 er6
      refine R_astore (pc := 59) (L' := [some (.ref (g.1 + v0)), some (.int v1), some (.int v2), some (.int v3), some (.ref (g.1 + r6))]) d_X2_lookAt_59 (by decide) rfl ?_
      refine R_aload (pc := 61) d_X2_lookAt_61 rfl ?_
      refine R_iconst (pc := 63) (v := 2) d_X2_lookAt_63 (by decide) ?_
      obtain ⟨k7, h⟩ := h
      obtain ⟨k8, h⟩ := h
      refine R_iald (pc := 64) k7 k8 d_X2_lookAt_64 ?_
      refine R_iload_n (pc := 65) d_X2_lookAt_65 rfl rfl ?_
      refine R_icmp_ne (pc := 66) (tgt := 139) d_X2_lookAt_66 (by decide) (fun c => ?_) (fun c => ?_)
      · rw [if_neg c] at h
        exact WP_sub (B_X2_lookAt_139 Q (T_X2_lookAt_33 Q n) hκ33 v0 v1 v2 v3 M h) (by decide) (ls_s (ls_s (ls_s (ls_s (ls_n ls_0)))))
      · rw [if_pos c] at h
        refine R_aload (pc := 69) d_X2_lookAt_69 rfl ?_
        refine R_iconst (pc := 71) (v := 3) d_X2_lookAt_71 (by decide) ?_
        obtain ⟨k9, h⟩ := h
        refine R_iald (pc := 72) k7 k9 d_X2_lookAt_72 ?_
        refine R_iload_n (pc := 73) d_X2_lookAt_73 rfl rfl ?_
        refine R_icmp_ne (pc := 74) (tgt := 139) d_X2_lookAt_74 (by decide) (fun c => ?_) (fun c => ?_)
        · rw [if_neg c] at h
          exact WP_sub (B_X2_lookAt_139 Q (T_X2_lookAt_33 Q n) hκ33 v0 v1 v2 v3 M h) (by decide) (ls_s (ls_s (ls_s (ls_s (ls_n ls_0)))))
        · rw [if_pos c] at h
          refine R_aload (pc := 77) d_X2_lookAt_77 rfl ?_
          refine R_iconst (pc := 79) (v := 5) d_X2_lookAt_79 (by decide) ?_
          obtain ⟨k10, h⟩ := h
          refine R_iald (pc := 80) k7 k10 d_X2_lookAt_80 ?_
          refine R_if_ne (pc := 81) (tgt := 139) d_X2_lookAt_81 (by decide) (fun c => ?_) (fun c => ?_)
          · rw [if_neg c] at h
            exact WP_sub (B_X2_lookAt_139 Q (T_X2_lookAt_33 Q n) hκ33 v0 v1 v2 v3 M h) (by decide) (ls_s (ls_s (ls_s (ls_s (ls_n ls_0)))))
          · rw [if_pos c] at h
            refine R_aload_n (pc := 84) d_X2_lookAt_84 rfl rfl ?_
            refine R_getR (pc := 85) fld_RX2_15 rfl rfl k1 d_X2_lookAt_85 ?_
            refine R_aload (pc := 88) d_X2_lookAt_88 rfl ?_
            refine R_iconst (pc := 90) (v := 0) d_X2_lookAt_90 (by decide) ?_
            obtain ⟨k11, h⟩ := h
            refine R_iald (pc := 91) k7 k11 d_X2_lookAt_91 ?_
            refine R_iload_n (pc := 92) d_X2_lookAt_92 rfl rfl ?_
            obtain ⟨k12, h⟩ := h
            obtain ⟨k13, h⟩ := h
            refine R_iast (pc := 93) k12 k13 d_X2_lookAt_93 (N_M (fun M14 eM14 => ?_))
            have h := h M14 eM14
            refine R_aload_n (pc := 94) d_X2_lookAt_94 rfl rfl ?_
            refine R_dup (pc := 95) d_X2_lookAt_95 rfl ?_
            refine R_getI (pc := 96) fld_RX2_19 rfl rfl k1 d_X2_lookAt_96 ?_
            refine R_aload (pc := 99) d_X2_lookAt_99 rfl ?_
            refine R_iconst (pc := 101) (v := 1) d_X2_lookAt_101 (by decide) ?_
            obtain ⟨k15, h⟩ := h
            refine R_iald (pc := 102) k7 k15 d_X2_lookAt_102 ?_
            refine R_ior (pc := 103) d_X2_lookAt_103 ?_
            refine R_putI (pc := 104) fld_RX2_19 rfl rfl rfl k1 rfl rfl d_X2_lookAt_104 (N_M (fun M16 eM16 => ?_))
            have h := h M16 eM16
            refine R_aload_n (pc := 107) d_X2_lookAt_107 rfl rfl ?_
            refine R_dup (pc := 108) d_X2_lookAt_108 rfl ?_
            refine R_getI (pc := 109) fld_RX2_23 rfl rfl k1 d_X2_lookAt_109 ?_
            refine R_iconst (pc := 112) (v := 1) d_X2_lookAt_112 (by decide) ?_
            refine R_aload (pc := 113) d_X2_lookAt_113 rfl ?_
            refine R_iconst (pc := 115) (v := 4) d_X2_lookAt_115 (by decide) ?_
            obtain ⟨k17, h⟩ := h
            refine R_iald (pc := 116) k7 k17 d_X2_lookAt_116 ?_
            refine R_ishl (pc := 117) d_X2_lookAt_117 ?_
            refine R_ior (pc := 118) d_X2_lookAt_118 ?_
            refine R_putI (pc := 119) fld_RX2_23 rfl rfl rfl k1 rfl rfl d_X2_lookAt_119 (N_M (fun M18 eM18 => ?_))
            have h := h M18 eM18
            refine R_aload_n (pc := 122) d_X2_lookAt_122 rfl rfl ?_
            refine R_dup (pc := 123) d_X2_lookAt_123 rfl ?_
            refine R_getI (pc := 124) fld_RX2_26 rfl rfl k1 d_X2_lookAt_124 ?_
            refine R_aload_n (pc := 127) d_X2_lookAt_127 rfl rfl ?_
            refine R_getR (pc := 128) fld_RX2_9 rfl rfl k1 d_X2_lookAt_128 ?_
            refine R_iload_n (pc := 131) d_X2_lookAt_131 rfl rfl ?_
            refine R_callV (pc := 132) (As := [.int v3]) (rest := [.int (M18.1 v0 4), .ref (g.1 + v0)]) (c_X3_searchesOf (g := g) (rf v0 0) v3 M18 _ h) rfl rfl cal_RX2_108 ins_X3_searchesOf sel_X3_searchesOf (cls_at k2 clsOK3) (by decide) (by decide) rfl rfl (Nat.le_of_ble_eq_true rfl) d_X2_lookAt_132 (k_I (fun y20 M19 h => ?_)) (fun _ _ h9 => False.elim h9)
            try dsimp only at h
            refine R_isub (pc := 135) d_X2_lookAt_135 ?_
            refine R_putI (pc := 136) fld_RX2_26 rfl rfl rfl k1 rfl rfl d_X2_lookAt_136 (N_M (fun M21 eM21 => ?_))
            have h := h M21 eM21
            exact WP_sub (B_X2_lookAt_139 Q (T_X2_lookAt_33 Q n) hκ33 v0 v1 v2 v3 M21 h) (by decide) (ls_s (ls_s (ls_s (ls_s (ls_n ls_0)))))
def T_X2_lookAt (Q : Mem → Prop) (v0 : Nat) (v1 : Int32) (v2 : Int32) (M : Mem) : Prop := (kd v0 = 2) ∧ T_J7_fill_53178 (fun M2 => ∀ M3 : Mem, M3 = mset M2 v0 2 0 → ∀ M4 : Mem, M4 = mset M3 v0 3 0 → (kd (rf v0 0) = 3) ∧ (kd (rf (rf v0 0) 1) = 9) ∧ (vp_in 3 (ln (rf (rf v0 0) 1))) ∧ ∀ M8 : Mem, M8 = mset M4 v0 4 (M4.1 (rf (rf v0 0) 1) (Int32.toNatClampNeg 3)) → (∃ N : Nat, T_X2_lookAt_33 Q N v0 v1 v2 0 M8))  (rf v0 1) (-1) M
set_option maxRecDepth 100000 in
set_option maxHeartbeats 4000000 in
theorem c_X2_lookAt {g : GG} (v0 : Nat) (v1 : Int32) (v2 : Int32) (M : Mem) (Q : Mem → Prop) (h : T_X2_lookAt Q v0 v1 v2 M) : CT g 11 mX2_lookAt [.ref (g.1 + v0), .int v1, .int v2] M 0 (oV Q noX) := by
  refine CT_of (L := [some (.ref (g.1 + v0)), some (.int v1), some (.int v2), none, none]) (by decide) rfl (Nat.le_of_ble_eq_true rfl) (ro_V rfl) rfl ?_
  unfold T_X2_lookAt at h
  refine R_aload_n (pc := 0) d_X2_lookAt_0 rfl rfl ?_
  obtain ⟨k1, h⟩ := h
  refine R_getR (pc := 1) fld_RX2_15 rfl rfl k1 d_X2_lookAt_1 ?_
  refine R_iconst (pc := 4) (v := (-1)) d_X2_lookAt_4 (by decide) ?_
  refine R_callS (pc := 5) (As := [.ref (g.1 + (rf v0 1)), .int (-1)]) (rest := []) (c_J7_fill_53178 (g := g) (rf v0 1) (-1) M _ h) rfl rfl cal_RX2_99 sta_J7_fill_53178 (by decide) (by decide) rfl rfl (Nat.le_of_ble_eq_true rfl) d_X2_lookAt_5 (k_V (fun M2 h => ?_)) (fun _ _ h9 => False.elim h9)
  try dsimp only at h
  refine R_aload_n (pc := 8) d_X2_lookAt_8 rfl rfl ?_
  refine R_iconst (pc := 9) (v := 0) d_X2_lookAt_9 (by decide) ?_
  refine R_putI (pc := 10) fld_RX2_19 rfl rfl rfl k1 rfl rfl d_X2_lookAt_10 (N_M (fun M3 eM3 => ?_))
  have h := h M3 eM3
  refine R_aload_n (pc := 13) d_X2_lookAt_13 rfl rfl ?_
  refine R_iconst (pc := 14) (v := 0) d_X2_lookAt_14 (by decide) ?_
  refine R_putI (pc := 15) fld_RX2_23 rfl rfl rfl k1 rfl rfl d_X2_lookAt_15 (N_M (fun M4 eM4 => ?_))
  have h := h M4 eM4
  refine R_aload_n (pc := 18) d_X2_lookAt_18 rfl rfl ?_
  refine R_aload_n (pc := 19) d_X2_lookAt_19 rfl rfl ?_
  refine R_getR (pc := 20) fld_RX2_9 rfl rfl k1 d_X2_lookAt_20 ?_
  obtain ⟨k5, h⟩ := h
  refine R_getR (pc := 23) fld_RX2_105 rfl rfl k5 d_X2_lookAt_23 ?_
  refine R_iconst (pc := 26) (v := 3) d_X2_lookAt_26 (by decide) ?_
  obtain ⟨k6, h⟩ := h
  obtain ⟨k7, h⟩ := h
  refine R_iald (pc := 27) k6 k7 d_X2_lookAt_27 ?_
  refine R_putI (pc := 28) fld_RX2_26 rfl rfl rfl k1 rfl rfl d_X2_lookAt_28 (N_M (fun M8 eM8 => ?_))
  have h := h M8 eM8
  refine R_iconst (pc := 31) (v := 0) d_X2_lookAt_31 (by decide) ?_
  refine R_istore_n (pc := 32) (L' := [some (.ref (g.1 + v0)), some (.int v1), some (.int v2), some (.int 0), none]) d_X2_lookAt_32 rfl (by decide) rfl ?_
  obtain ⟨N, h⟩ := h
  exact WP_sub (B_X2_lookAt_33 Q N v0 v1 v2 0 M8 h) (by decide) (ls_s (ls_s (ls_s (ls_s (ls_n ls_0)))))
/-! X2_freeRooms -/
theorem d_X2_freeRooms_0 : decode mX2_freeRooms.2.1 0 = .ok (.iconst 0, 1) := by decide +kernel
theorem d_X2_freeRooms_1 : decode mX2_freeRooms.2.1 1 = .ok (.istore_n 1, 1) := by decide +kernel
theorem d_X2_freeRooms_2 : decode mX2_freeRooms.2.1 2 = .ok (.iconst 0, 1) := by decide +kernel
theorem d_X2_freeRooms_3 : decode mX2_freeRooms.2.1 3 = .ok (.istore_n 2, 1) := by decide +kernel
theorem d_X2_freeRooms_4 : decode mX2_freeRooms.2.1 4 = .ok (.iload_n 2, 1) := by decide +kernel
theorem d_X2_freeRooms_5 : decode mX2_freeRooms.2.1 5 = .ok (.aload_n 0, 1) := by decide +kernel
theorem d_X2_freeRooms_6 : decode mX2_freeRooms.2.1 6 = .ok (.getfield 9, 3) := by decide +kernel
theorem d_X2_freeRooms_9 : decode mX2_freeRooms.2.1 9 = .ok (.getfield 127, 3) := by decide +kernel
theorem d_X2_freeRooms_12 : decode mX2_freeRooms.2.1 12 = .ok (.getfield 56, 3) := by decide +kernel
theorem d_X2_freeRooms_15 : decode mX2_freeRooms.2.1 15 = .ok (.if_icmp .ge 33, 3) := by decide +kernel
theorem d_X2_freeRooms_18 : decode mX2_freeRooms.2.1 18 = .ok (.aload_n 0, 1) := by decide +kernel
theorem d_X2_freeRooms_19 : decode mX2_freeRooms.2.1 19 = .ok (.getfield 9, 3) := by decide +kernel
theorem d_X2_freeRooms_22 : decode mX2_freeRooms.2.1 22 = .ok (.getfield 127, 3) := by decide +kernel
theorem d_X2_freeRooms_25 : decode mX2_freeRooms.2.1 25 = .ok (.getfield 61, 3) := by decide +kernel
theorem d_X2_freeRooms_28 : decode mX2_freeRooms.2.1 28 = .ok (.iload_n 2, 1) := by decide +kernel
theorem d_X2_freeRooms_29 : decode mX2_freeRooms.2.1 29 = .ok (.aaload, 1) := by decide +kernel
theorem d_X2_freeRooms_30 : decode mX2_freeRooms.2.1 30 = .ok (.iconst 3, 1) := by decide +kernel
theorem d_X2_freeRooms_31 : decode mX2_freeRooms.2.1 31 = .ok (.iaload, 1) := by decide +kernel
theorem d_X2_freeRooms_32 : decode mX2_freeRooms.2.1 32 = .ok (.iconst 1, 1) := by decide +kernel
theorem d_X2_freeRooms_33 : decode mX2_freeRooms.2.1 33 = .ok (.if_icmp .ne 9, 3) := by decide +kernel
theorem d_X2_freeRooms_36 : decode mX2_freeRooms.2.1 36 = .ok (.iload_n 1, 1) := by decide +kernel
theorem d_X2_freeRooms_37 : decode mX2_freeRooms.2.1 37 = .ok (.iconst 1, 1) := by decide +kernel
theorem d_X2_freeRooms_38 : decode mX2_freeRooms.2.1 38 = .ok (.iload_n 2, 1) := by decide +kernel
theorem d_X2_freeRooms_39 : decode mX2_freeRooms.2.1 39 = .ok (.ishl, 1) := by decide +kernel
theorem d_X2_freeRooms_40 : decode mX2_freeRooms.2.1 40 = .ok (.ior, 1) := by decide +kernel
theorem d_X2_freeRooms_41 : decode mX2_freeRooms.2.1 41 = .ok (.istore_n 1, 1) := by decide +kernel
theorem d_X2_freeRooms_42 : decode mX2_freeRooms.2.1 42 = .ok (.iinc 2 1, 3) := by decide +kernel
theorem d_X2_freeRooms_45 : decode mX2_freeRooms.2.1 45 = .ok (.goto (-41), 3) := by decide +kernel
theorem d_X2_freeRooms_48 : decode mX2_freeRooms.2.1 48 = .ok (.iload_n 1, 1) := by decide +kernel
theorem d_X2_freeRooms_49 : decode mX2_freeRooms.2.1 49 = .ok (.aload_n 0, 1) := by decide +kernel
theorem d_X2_freeRooms_50 : decode mX2_freeRooms.2.1 50 = .ok (.getfield 23, 3) := by decide +kernel
theorem d_X2_freeRooms_53 : decode mX2_freeRooms.2.1 53 = .ok (.iconst (-1), 1) := by decide +kernel
theorem d_X2_freeRooms_54 : decode mX2_freeRooms.2.1 54 = .ok (.ixor, 1) := by decide +kernel
theorem d_X2_freeRooms_55 : decode mX2_freeRooms.2.1 55 = .ok (.iand, 1) := by decide +kernel
theorem d_X2_freeRooms_56 : decode mX2_freeRooms.2.1 56 = .ok (.ireturn, 1) := by decide +kernel
def T_X2_freeRooms_42 (κ4 : Nat → Int32 → Int32 → Mem → Prop) (Q : Int32 → Mem → Prop) (v0 : Nat) (v1 : Int32) (v2 : Int32) (M : Mem) : Prop := ∀ x1 : Int32, x1 = v2 + 1 → κ4 v0 v1 x1 M
set_option maxRecDepth 100000 in
set_option maxHeartbeats 4000000 in
theorem B_X2_freeRooms_42 {g : GG} (Q : Int32 → Mem → Prop) (κ4 : Nat → Int32 → Int32 → Mem → Prop) (hκ4 : ∀ (v0 : Nat) (v1 : Int32) (v2 : Int32) (M : Mem), κ4 v0 v1 v2 M → WP g 9 mX2_freeRooms 4 [some (.ref (g.1 + v0)), some (.int v1), some (.int v2)] [] M 0 (oI Q noX)) (v0 : Nat) (v1 : Int32) (v2 : Int32) (M : Mem) (h : T_X2_freeRooms_42 κ4 Q v0 v1 v2 M) : WP g 9 mX2_freeRooms 42 [some (.ref (g.1 + v0)), some (.int v1), some (.int v2)] [] M 0 (oI Q noX) := by
  unfold T_X2_freeRooms_42 at h
  obtain ⟨x1, ex1⟩ : ∃ z : Int32, z = v2 + 1 := ⟨_, rfl⟩
  have h := h x1 ex1
  refine R_iinc (pc := 42) (v := x1) (L' := [some (.ref (g.1 + v0)), some (.int v1), some (.int x1)]) d_X2_freeRooms_42 rfl (by rw [ex1]; rfl) (by decide) rfl ?_
  refine R_goto (pc := 45) (tgt := 4) d_X2_freeRooms_45 (by decide) ?_
  exact WP_sub (hκ4 v0 v1 x1 M h) (by decide) (ls_s (ls_s (ls_s ls_0)))
def T_X2_freeRooms_4 (Q : Int32 → Mem → Prop) : Nat → Nat → Int32 → Int32 → Mem → Prop
  | 0, _, _, _, _ => False
  | n + 1, v0, v1, v2, M => (kd v0 = 2) ∧ (kd (rf v0 0) = 3) ∧ (kd (rf (rf v0 0) 4) = 4) ∧ if (M.1 (rf (rf v0 0) 4) 2) ≤ v2 then (Q (v1 &&& ((M.1 v0 3) ^^^ (-1))) M) else ((kd (rf (rf (rf v0 0) 4) 0) = 10 ∨ kd (rf (rf (rf v0 0) 4) 0) = 11) ∧ (vp_in v2 (ln (rf (rf (rf v0 0) 4) 0))) ∧ (kd (rf (rf (rf (rf v0 0) 4) 0) (Int32.toNatClampNeg v2)) = 9) ∧ (vp_in 3 (ln (rf (rf (rf (rf v0 0) 4) 0) (Int32.toNatClampNeg v2)))) ∧ if (M.1 (rf (rf (rf (rf v0 0) 4) 0) (Int32.toNatClampNeg v2)) (Int32.toNatClampNeg 3)) = (1 : Int32) then (∀ x8 : Int32, x8 = v1 ||| (1 <<< (v2 &&& 31)) → T_X2_freeRooms_42 (T_X2_freeRooms_4 Q n) Q v0 x8 v2 M) else (T_X2_freeRooms_42 (T_X2_freeRooms_4 Q n) Q v0 v1 v2 M))
set_option maxRecDepth 100000 in
set_option maxHeartbeats 4000000 in
theorem B_X2_freeRooms_4 {g : GG} (Q : Int32 → Mem → Prop) : ∀ (n : Nat) (v0 : Nat) (v1 : Int32) (v2 : Int32) (M : Mem), T_X2_freeRooms_4 Q n v0 v1 v2 M → WP g 9 mX2_freeRooms 4 [some (.ref (g.1 + v0)), some (.int v1), some (.int v2)] [] M 0 (oI Q noX) := by
  intro n
  induction n with
  | zero => intro v0 v1 v2 M h; exact h.elim
  | succ n hκ4 =>
    intro v0 v1 v2 M h
    unfold T_X2_freeRooms_4 at h
    refine R_iload_n (pc := 4) d_X2_freeRooms_4 rfl rfl ?_
    refine R_aload_n (pc := 5) d_X2_freeRooms_5 rfl rfl ?_
    obtain ⟨k1, h⟩ := h
    refine R_getR (pc := 6) fld_RX2_9 rfl rfl k1 d_X2_freeRooms_6 ?_
    obtain ⟨k2, h⟩ := h
    refine R_getR (pc := 9) fld_RX2_127 rfl rfl k2 d_X2_freeRooms_9 ?_
    obtain ⟨k3, h⟩ := h
    refine R_getI (pc := 12) fld_RX2_56 rfl rfl k3 d_X2_freeRooms_12 ?_
    refine R_icmp_ge (pc := 15) (tgt := 48) d_X2_freeRooms_15 (by decide) (fun c => ?_) (fun c => ?_)
    · rw [if_pos c] at h
      refine R_iload_n (pc := 48) d_X2_freeRooms_48 rfl rfl ?_
      refine R_aload_n (pc := 49) d_X2_freeRooms_49 rfl rfl ?_
      refine R_getI (pc := 50) fld_RX2_23 rfl rfl k1 d_X2_freeRooms_50 ?_
      refine R_iconst (pc := 53) (v := (-1)) d_X2_freeRooms_53 (by decide) ?_
      refine R_ixor (pc := 54) d_X2_freeRooms_54 ?_
      refine R_iand (pc := 55) d_X2_freeRooms_55 ?_
      exact R_retv (pc := 56) d_X2_freeRooms_56 h
    · rw [if_neg c] at h
      refine R_aload_n (pc := 18) d_X2_freeRooms_18 rfl rfl ?_
      refine R_getR (pc := 19) fld_RX2_9 rfl rfl k1 d_X2_freeRooms_19 ?_
      refine R_getR (pc := 22) fld_RX2_127 rfl rfl k2 d_X2_freeRooms_22 ?_
      refine R_getR (pc := 25) fld_RX2_61 rfl rfl k3 d_X2_freeRooms_25 ?_
      refine R_iload_n (pc := 28) d_X2_freeRooms_28 rfl rfl ?_
      obtain ⟨k4, h⟩ := h
      obtain ⟨k5, h⟩ := h
      refine R_aald (pc := 29) k4 k5 d_X2_freeRooms_29 ?_
      refine R_iconst (pc := 30) (v := 3) d_X2_freeRooms_30 (by decide) ?_
      obtain ⟨k6, h⟩ := h
      obtain ⟨k7, h⟩ := h
      refine R_iald (pc := 31) k6 k7 d_X2_freeRooms_31 ?_
      refine R_iconst (pc := 32) (v := 1) d_X2_freeRooms_32 (by decide) ?_
      refine R_icmp_ne (pc := 33) (tgt := 42) d_X2_freeRooms_33 (by decide) (fun c => ?_) (fun c => ?_)
      · rw [if_neg c] at h
        exact WP_sub (B_X2_freeRooms_42 Q (T_X2_freeRooms_4 Q n) hκ4 v0 v1 v2 M h) (by decide) (ls_s (ls_s (ls_s ls_0)))
      · rw [if_pos c] at h
        refine R_iload_n (pc := 36) d_X2_freeRooms_36 rfl rfl ?_
        refine R_iconst (pc := 37) (v := 1) d_X2_freeRooms_37 (by decide) ?_
        refine R_iload_n (pc := 38) d_X2_freeRooms_38 rfl rfl ?_
        refine R_ishl (pc := 39) d_X2_freeRooms_39 ?_
        refine R_ior (pc := 40) d_X2_freeRooms_40 ?_
        refine N_i (fun x8 ex8 => ?_)
        have h := h x8 ex8
        refine R_istore_n (pc := 41) (L' := [some (.ref (g.1 + v0)), some (.int x8), some (.int v2)]) d_X2_freeRooms_41 rfl (by decide) rfl ?_
        exact WP_sub (B_X2_freeRooms_42 Q (T_X2_freeRooms_4 Q n) hκ4 v0 x8 v2 M h) (by decide) (ls_s (ls_s (ls_s ls_0)))
def T_X2_freeRooms (Q : Int32 → Mem → Prop) (v0 : Nat) (M : Mem) : Prop := (∃ N : Nat, T_X2_freeRooms_4 Q N v0 0 0 M)
set_option maxRecDepth 100000 in
set_option maxHeartbeats 4000000 in
theorem c_X2_freeRooms {g : GG} (v0 : Nat) (M : Mem) (Q : Int32 → Mem → Prop) (h : T_X2_freeRooms Q v0 M) : CT g 9 mX2_freeRooms [.ref (g.1 + v0)] M 0 (oI Q noX) := by
  refine CT_of (L := [some (.ref (g.1 + v0)), none, none]) (by decide) rfl (Nat.le_of_ble_eq_true rfl) (ro_I rfl) rfl ?_
  unfold T_X2_freeRooms at h
  refine R_iconst (pc := 0) (v := 0) d_X2_freeRooms_0 (by decide) ?_
  refine R_istore_n (pc := 1) (L' := [some (.ref (g.1 + v0)), some (.int 0), none]) d_X2_freeRooms_1 rfl (by decide) rfl ?_
  refine R_iconst (pc := 2) (v := 0) d_X2_freeRooms_2 (by decide) ?_
  refine R_istore_n (pc := 3) (L' := [some (.ref (g.1 + v0)), some (.int 0), some (.int 0)]) d_X2_freeRooms_3 rfl (by decide) rfl ?_
  obtain ⟨N, h⟩ := h
  exact WP_sub (B_X2_freeRooms_4 Q N v0 0 0 M h) (by decide) (ls_s (ls_s (ls_s ls_0)))
/-! X2_visitOfPartner -/
theorem d_X2_visitOfPartner_0 : decode mX2_visitOfPartner.2.1 0 = .ok (.aload_n 1, 1) := by decide +kernel
theorem d_X2_visitOfPartner_1 : decode mX2_visitOfPartner.2.1 1 = .ok (.iconst 0, 1) := by decide +kernel
theorem d_X2_visitOfPartner_2 : decode mX2_visitOfPartner.2.1 2 = .ok (.iaload, 1) := by decide +kernel
theorem d_X2_visitOfPartner_3 : decode mX2_visitOfPartner.2.1 3 = .ok (.iconst 2, 1) := by decide +kernel
theorem d_X2_visitOfPartner_4 : decode mX2_visitOfPartner.2.1 4 = .ok (.if_icmp .eq 5, 3) := by decide +kernel
theorem d_X2_visitOfPartner_7 : decode mX2_visitOfPartner.2.1 7 = .ok (.iconst (-1), 1) := by decide +kernel
theorem d_X2_visitOfPartner_8 : decode mX2_visitOfPartner.2.1 8 = .ok (.ireturn, 1) := by decide +kernel
theorem d_X2_visitOfPartner_9 : decode mX2_visitOfPartner.2.1 9 = .ok (.aload_n 1, 1) := by decide +kernel
theorem d_X2_visitOfPartner_10 : decode mX2_visitOfPartner.2.1 10 = .ok (.iconst 1, 1) := by decide +kernel
theorem d_X2_visitOfPartner_11 : decode mX2_visitOfPartner.2.1 11 = .ok (.iaload, 1) := by decide +kernel
theorem d_X2_visitOfPartner_12 : decode mX2_visitOfPartner.2.1 12 = .ok (.iload_n 2, 1) := by decide +kernel
theorem d_X2_visitOfPartner_13 : decode mX2_visitOfPartner.2.1 13 = .ok (.if_icmp .ne 12, 3) := by decide +kernel
theorem d_X2_visitOfPartner_16 : decode mX2_visitOfPartner.2.1 16 = .ok (.aload_n 0, 1) := by decide +kernel
theorem d_X2_visitOfPartner_17 : decode mX2_visitOfPartner.2.1 17 = .ok (.getfield 15, 3) := by decide +kernel
theorem d_X2_visitOfPartner_20 : decode mX2_visitOfPartner.2.1 20 = .ok (.aload_n 1, 1) := by decide +kernel
theorem d_X2_visitOfPartner_21 : decode mX2_visitOfPartner.2.1 21 = .ok (.iconst 2, 1) := by decide +kernel
theorem d_X2_visitOfPartner_22 : decode mX2_visitOfPartner.2.1 22 = .ok (.iaload, 1) := by decide +kernel
theorem d_X2_visitOfPartner_23 : decode mX2_visitOfPartner.2.1 23 = .ok (.iaload, 1) := by decide +kernel
theorem d_X2_visitOfPartner_24 : decode mX2_visitOfPartner.2.1 24 = .ok (.ireturn, 1) := by decide +kernel
theorem d_X2_visitOfPartner_25 : decode mX2_visitOfPartner.2.1 25 = .ok (.aload_n 1, 1) := by decide +kernel
theorem d_X2_visitOfPartner_26 : decode mX2_visitOfPartner.2.1 26 = .ok (.iconst 2, 1) := by decide +kernel
theorem d_X2_visitOfPartner_27 : decode mX2_visitOfPartner.2.1 27 = .ok (.iaload, 1) := by decide +kernel
theorem d_X2_visitOfPartner_28 : decode mX2_visitOfPartner.2.1 28 = .ok (.iload_n 2, 1) := by decide +kernel
theorem d_X2_visitOfPartner_29 : decode mX2_visitOfPartner.2.1 29 = .ok (.if_icmp .ne 14, 3) := by decide +kernel
theorem d_X2_visitOfPartner_32 : decode mX2_visitOfPartner.2.1 32 = .ok (.aload_n 0, 1) := by decide +kernel
theorem d_X2_visitOfPartner_33 : decode mX2_visitOfPartner.2.1 33 = .ok (.getfield 15, 3) := by decide +kernel
theorem d_X2_visitOfPartner_36 : decode mX2_visitOfPartner.2.1 36 = .ok (.aload_n 1, 1) := by decide +kernel
theorem d_X2_visitOfPartner_37 : decode mX2_visitOfPartner.2.1 37 = .ok (.iconst 1, 1) := by decide +kernel
theorem d_X2_visitOfPartner_38 : decode mX2_visitOfPartner.2.1 38 = .ok (.iaload, 1) := by decide +kernel
theorem d_X2_visitOfPartner_39 : decode mX2_visitOfPartner.2.1 39 = .ok (.iaload, 1) := by decide +kernel
theorem d_X2_visitOfPartner_40 : decode mX2_visitOfPartner.2.1 40 = .ok (.goto 4, 3) := by decide +kernel
theorem d_X2_visitOfPartner_43 : decode mX2_visitOfPartner.2.1 43 = .ok (.iconst (-1), 1) := by decide +kernel
theorem d_X2_visitOfPartner_44 : decode mX2_visitOfPartner.2.1 44 = .ok (.ireturn, 1) := by decide +kernel
def T_X2_visitOfPartner_44 (Q : Int32 → Mem → Prop) (s0 : Int32) (M : Mem) : Prop := Q s0 M
set_option maxRecDepth 100000 in
set_option maxHeartbeats 4000000 in
theorem B_X2_visitOfPartner_44 {g : GG} (Q : Int32 → Mem → Prop) (s0 : Int32) (M : Mem) (h : T_X2_visitOfPartner_44 Q s0 M) : WP g 9 mX2_visitOfPartner 44 [none, none, none] [.int s0] M 0 (oI Q noX) := by
  unfold T_X2_visitOfPartner_44 at h
  exact R_retv (pc := 44) d_X2_visitOfPartner_44 h
def T_X2_visitOfPartner (Q : Int32 → Mem → Prop) (v0 : Nat) (v1 : Nat) (v2 : Int32) (M : Mem) : Prop := (kd v1 = 9) ∧ (vp_in 0 (ln v1)) ∧ if (M.1 v1 (Int32.toNatClampNeg 0)) = (2 : Int32) then ((vp_in 1 (ln v1)) ∧ if (M.1 v1 (Int32.toNatClampNeg 1)) = v2 then ((kd v0 = 2) ∧ (vp_in 2 (ln v1)) ∧ (kd (rf v0 1) = 9) ∧ (vp_in (M.1 v1 (Int32.toNatClampNeg 2)) (ln (rf v0 1))) ∧ Q (M.1 (rf v0 1) (Int32.toNatClampNeg (M.1 v1 (Int32.toNatClampNeg 2)))) M) else ((vp_in 2 (ln v1)) ∧ if (M.1 v1 (Int32.toNatClampNeg 2)) = v2 then ((kd v0 = 2) ∧ (kd (rf v0 1) = 9) ∧ (vp_in (M.1 v1 (Int32.toNatClampNeg 1)) (ln (rf v0 1))) ∧ T_X2_visitOfPartner_44 Q (M.1 (rf v0 1) (Int32.toNatClampNeg (M.1 v1 (Int32.toNatClampNeg 1)))) M) else (T_X2_visitOfPartner_44 Q (-1) M))) else (Q (-1) M)
set_option maxRecDepth 100000 in
set_option maxHeartbeats 4000000 in
theorem c_X2_visitOfPartner {g : GG} (v0 : Nat) (v1 : Nat) (v2 : Int32) (M : Mem) (Q : Int32 → Mem → Prop) (h : T_X2_visitOfPartner Q v0 v1 v2 M) : CT g 9 mX2_visitOfPartner [.ref (g.1 + v0), .ref (g.1 + v1), .int v2] M 0 (oI Q noX) := by
  refine CT_of (L := [some (.ref (g.1 + v0)), some (.ref (g.1 + v1)), some (.int v2)]) (by decide) rfl (Nat.le_of_ble_eq_true rfl) (ro_I rfl) rfl ?_
  unfold T_X2_visitOfPartner at h
  refine R_aload_n (pc := 0) d_X2_visitOfPartner_0 rfl rfl ?_
  refine R_iconst (pc := 1) (v := 0) d_X2_visitOfPartner_1 (by decide) ?_
  obtain ⟨k1, h⟩ := h
  obtain ⟨k2, h⟩ := h
  refine R_iald (pc := 2) k1 k2 d_X2_visitOfPartner_2 ?_
  refine R_iconst (pc := 3) (v := 2) d_X2_visitOfPartner_3 (by decide) ?_
  refine R_icmp_eq (pc := 4) (tgt := 9) d_X2_visitOfPartner_4 (by decide) (fun c => ?_) (fun c => ?_)
  · rw [if_pos c] at h
    refine R_aload_n (pc := 9) d_X2_visitOfPartner_9 rfl rfl ?_
    refine R_iconst (pc := 10) (v := 1) d_X2_visitOfPartner_10 (by decide) ?_
    obtain ⟨k3, h⟩ := h
    refine R_iald (pc := 11) k1 k3 d_X2_visitOfPartner_11 ?_
    refine R_iload_n (pc := 12) d_X2_visitOfPartner_12 rfl rfl ?_
    refine R_icmp_ne (pc := 13) (tgt := 25) d_X2_visitOfPartner_13 (by decide) (fun c => ?_) (fun c => ?_)
    · rw [if_neg c] at h
      refine R_aload_n (pc := 25) d_X2_visitOfPartner_25 rfl rfl ?_
      refine R_iconst (pc := 26) (v := 2) d_X2_visitOfPartner_26 (by decide) ?_
      obtain ⟨k4, h⟩ := h
      refine R_iald (pc := 27) k1 k4 d_X2_visitOfPartner_27 ?_
      refine R_iload_n (pc := 28) d_X2_visitOfPartner_28 rfl rfl ?_
      refine R_icmp_ne (pc := 29) (tgt := 43) d_X2_visitOfPartner_29 (by decide) (fun c => ?_) (fun c => ?_)
      · rw [if_neg c] at h
        refine R_iconst (pc := 43) (v := (-1)) d_X2_visitOfPartner_43 (by decide) ?_
        exact WP_sub (B_X2_visitOfPartner_44 Q (-1) M h) (by decide) (ls_n (ls_n (ls_n ls_0)))
      · rw [if_pos c] at h
        refine R_aload_n (pc := 32) d_X2_visitOfPartner_32 rfl rfl ?_
        obtain ⟨k5, h⟩ := h
        refine R_getR (pc := 33) fld_RX2_15 rfl rfl k5 d_X2_visitOfPartner_33 ?_
        refine R_aload_n (pc := 36) d_X2_visitOfPartner_36 rfl rfl ?_
        refine R_iconst (pc := 37) (v := 1) d_X2_visitOfPartner_37 (by decide) ?_
        refine R_iald (pc := 38) k1 k3 d_X2_visitOfPartner_38 ?_
        obtain ⟨k6, h⟩ := h
        obtain ⟨k7, h⟩ := h
        refine R_iald (pc := 39) k6 k7 d_X2_visitOfPartner_39 ?_
        refine R_goto (pc := 40) (tgt := 44) d_X2_visitOfPartner_40 (by decide) ?_
        exact WP_sub (B_X2_visitOfPartner_44 Q (M.1 (rf v0 1) (Int32.toNatClampNeg (M.1 v1 (Int32.toNatClampNeg 1)))) M h) (by decide) (ls_n (ls_n (ls_n ls_0)))
    · rw [if_pos c] at h
      refine R_aload_n (pc := 16) d_X2_visitOfPartner_16 rfl rfl ?_
      obtain ⟨k8, h⟩ := h
      refine R_getR (pc := 17) fld_RX2_15 rfl rfl k8 d_X2_visitOfPartner_17 ?_
      refine R_aload_n (pc := 20) d_X2_visitOfPartner_20 rfl rfl ?_
      refine R_iconst (pc := 21) (v := 2) d_X2_visitOfPartner_21 (by decide) ?_
      obtain ⟨k9, h⟩ := h
      refine R_iald (pc := 22) k1 k9 d_X2_visitOfPartner_22 ?_
      obtain ⟨k10, h⟩ := h
      obtain ⟨k11, h⟩ := h
      refine R_iald (pc := 23) k10 k11 d_X2_visitOfPartner_23 ?_
      exact R_retv (pc := 24) d_X2_visitOfPartner_24 h
  · rw [if_neg c] at h
    refine R_iconst (pc := 7) (v := (-1)) d_X2_visitOfPartner_7 (by decide) ?_
    exact R_retv (pc := 8) d_X2_visitOfPartner_8 h
/-! X2_barredRooms -/
theorem d_X2_barredRooms_0 : decode mX2_barredRooms.2.1 0 = .ok (.iconst 0, 1) := by decide +kernel
theorem d_X2_barredRooms_1 : decode mX2_barredRooms.2.1 1 = .ok (.istore_n 3, 1) := by decide +kernel
theorem d_X2_barredRooms_2 : decode mX2_barredRooms.2.1 2 = .ok (.iconst 0, 1) := by decide +kernel
theorem d_X2_barredRooms_3 : decode mX2_barredRooms.2.1 3 = .ok (.istore 4, 2) := by decide +kernel
theorem d_X2_barredRooms_5 : decode mX2_barredRooms.2.1 5 = .ok (.iload 4, 2) := by decide +kernel
theorem d_X2_barredRooms_7 : decode mX2_barredRooms.2.1 7 = .ok (.aload_n 0, 1) := by decide +kernel
theorem d_X2_barredRooms_8 : decode mX2_barredRooms.2.1 8 = .ok (.getfield 9, 3) := by decide +kernel
theorem d_X2_barredRooms_11 : decode mX2_barredRooms.2.1 11 = .ok (.getfield 52, 3) := by decide +kernel
theorem d_X2_barredRooms_14 : decode mX2_barredRooms.2.1 14 = .ok (.getfield 56, 3) := by decide +kernel
theorem d_X2_barredRooms_17 : decode mX2_barredRooms.2.1 17 = .ok (.if_icmp .ge 95, 3) := by decide +kernel
theorem d_X2_barredRooms_20 : decode mX2_barredRooms.2.1 20 = .ok (.aload_n 0, 1) := by decide +kernel
theorem d_X2_barredRooms_21 : decode mX2_barredRooms.2.1 21 = .ok (.getfield 9, 3) := by decide +kernel
theorem d_X2_barredRooms_24 : decode mX2_barredRooms.2.1 24 = .ok (.getfield 52, 3) := by decide +kernel
theorem d_X2_barredRooms_27 : decode mX2_barredRooms.2.1 27 = .ok (.getfield 61, 3) := by decide +kernel
theorem d_X2_barredRooms_30 : decode mX2_barredRooms.2.1 30 = .ok (.iload 4, 2) := by decide +kernel
theorem d_X2_barredRooms_32 : decode mX2_barredRooms.2.1 32 = .ok (.aaload, 1) := by decide +kernel
theorem d_X2_barredRooms_33 : decode mX2_barredRooms.2.1 33 = .ok (.astore 5, 2) := by decide +kernel
theorem d_X2_barredRooms_35 : decode mX2_barredRooms.2.1 35 = .ok (.aload_n 0, 1) := by decide +kernel
theorem d_X2_barredRooms_36 : decode mX2_barredRooms.2.1 36 = .ok (.aload 5, 2) := by decide +kernel
theorem d_X2_barredRooms_38 : decode mX2_barredRooms.2.1 38 = .ok (.iload_n 1, 1) := by decide +kernel
theorem d_X2_barredRooms_39 : decode mX2_barredRooms.2.1 39 = .ok (.invokevirtual 133, 3) := by decide +kernel
theorem d_X2_barredRooms_42 : decode mX2_barredRooms.2.1 42 = .ok (.istore 6, 2) := by decide +kernel
theorem d_X2_barredRooms_44 : decode mX2_barredRooms.2.1 44 = .ok (.iload 6, 2) := by decide +kernel
theorem d_X2_barredRooms_46 : decode mX2_barredRooms.2.1 46 = .ok (.iconst (-1), 1) := by decide +kernel
theorem d_X2_barredRooms_47 : decode mX2_barredRooms.2.1 47 = .ok (.if_icmp .eq 59, 3) := by decide +kernel
theorem d_X2_barredRooms_50 : decode mX2_barredRooms.2.1 50 = .ok (.iload_n 2, 1) := by decide +kernel
theorem d_X2_barredRooms_51 : decode mX2_barredRooms.2.1 51 = .ok (.aload 5, 2) := by decide +kernel
theorem d_X2_barredRooms_53 : decode mX2_barredRooms.2.1 53 = .ok (.iconst 3, 1) := by decide +kernel
theorem d_X2_barredRooms_54 : decode mX2_barredRooms.2.1 54 = .ok (.iaload, 1) := by decide +kernel
theorem d_X2_barredRooms_55 : decode mX2_barredRooms.2.1 55 = .ok (.if_icmp .lt 51, 3) := by decide +kernel
theorem d_X2_barredRooms_58 : decode mX2_barredRooms.2.1 58 = .ok (.iload_n 2, 1) := by decide +kernel
theorem d_X2_barredRooms_59 : decode mX2_barredRooms.2.1 59 = .ok (.aload 5, 2) := by decide +kernel
theorem d_X2_barredRooms_61 : decode mX2_barredRooms.2.1 61 = .ok (.iconst 4, 1) := by decide +kernel
theorem d_X2_barredRooms_62 : decode mX2_barredRooms.2.1 62 = .ok (.iaload, 1) := by decide +kernel
theorem d_X2_barredRooms_63 : decode mX2_barredRooms.2.1 63 = .ok (.if_icmp .gt 43, 3) := by decide +kernel
theorem d_X2_barredRooms_66 : decode mX2_barredRooms.2.1 66 = .ok (.aload_n 0, 1) := by decide +kernel
theorem d_X2_barredRooms_67 : decode mX2_barredRooms.2.1 67 = .ok (.getfield 9, 3) := by decide +kernel
theorem d_X2_barredRooms_70 : decode mX2_barredRooms.2.1 70 = .ok (.getfield 127, 3) := by decide +kernel
theorem d_X2_barredRooms_73 : decode mX2_barredRooms.2.1 73 = .ok (.getfield 61, 3) := by decide +kernel
theorem d_X2_barredRooms_76 : decode mX2_barredRooms.2.1 76 = .ok (.aload_n 0, 1) := by decide +kernel
theorem d_X2_barredRooms_77 : decode mX2_barredRooms.2.1 77 = .ok (.getfield 9, 3) := by decide +kernel
theorem d_X2_barredRooms_80 : decode mX2_barredRooms.2.1 80 = .ok (.getfield 92, 3) := by decide +kernel
theorem d_X2_barredRooms_83 : decode mX2_barredRooms.2.1 83 = .ok (.getfield 61, 3) := by decide +kernel
theorem d_X2_barredRooms_86 : decode mX2_barredRooms.2.1 86 = .ok (.iload 6, 2) := by decide +kernel
theorem d_X2_barredRooms_88 : decode mX2_barredRooms.2.1 88 = .ok (.aaload, 1) := by decide +kernel
theorem d_X2_barredRooms_89 : decode mX2_barredRooms.2.1 89 = .ok (.iconst 4, 1) := by decide +kernel
theorem d_X2_barredRooms_90 : decode mX2_barredRooms.2.1 90 = .ok (.iaload, 1) := by decide +kernel
theorem d_X2_barredRooms_91 : decode mX2_barredRooms.2.1 91 = .ok (.aaload, 1) := by decide +kernel
theorem d_X2_barredRooms_92 : decode mX2_barredRooms.2.1 92 = .ok (.iconst 0, 1) := by decide +kernel
theorem d_X2_barredRooms_93 : decode mX2_barredRooms.2.1 93 = .ok (.iaload, 1) := by decide +kernel
theorem d_X2_barredRooms_94 : decode mX2_barredRooms.2.1 94 = .ok (.istore 7, 2) := by decide +kernel
theorem d_X2_barredRooms_96 : decode mX2_barredRooms.2.1 96 = .ok (.iload_n 3, 1) := by decide +kernel
theorem d_X2_barredRooms_97 : decode mX2_barredRooms.2.1 97 = .ok (.bipush 7, 2) := by decide +kernel
theorem d_X2_barredRooms_99 : decode mX2_barredRooms.2.1 99 = .ok (.iload 7, 2) := by decide +kernel
theorem d_X2_barredRooms_101 : decode mX2_barredRooms.2.1 101 = .ok (.ishl, 1) := by decide +kernel
theorem d_X2_barredRooms_102 : decode mX2_barredRooms.2.1 102 = .ok (.iconst 1, 1) := by decide +kernel
theorem d_X2_barredRooms_103 : decode mX2_barredRooms.2.1 103 = .ok (.ishr, 1) := by decide +kernel
theorem d_X2_barredRooms_104 : decode mX2_barredRooms.2.1 104 = .ok (.ior, 1) := by decide +kernel
theorem d_X2_barredRooms_105 : decode mX2_barredRooms.2.1 105 = .ok (.istore_n 3, 1) := by decide +kernel
theorem d_X2_barredRooms_106 : decode mX2_barredRooms.2.1 106 = .ok (.iinc 4 1, 3) := by decide +kernel
theorem d_X2_barredRooms_109 : decode mX2_barredRooms.2.1 109 = .ok (.goto (-104), 3) := by decide +kernel
theorem d_X2_barredRooms_112 : decode mX2_barredRooms.2.1 112 = .ok (.iconst 0, 1) := by decide +kernel
theorem d_X2_barredRooms_113 : decode mX2_barredRooms.2.1 113 = .ok (.istore 4, 2) := by decide +kernel
theorem d_X2_barredRooms_115 : decode mX2_barredRooms.2.1 115 = .ok (.iconst 0, 1) := by decide +kernel
theorem d_X2_barredRooms_116 : decode mX2_barredRooms.2.1 116 = .ok (.istore 5, 2) := by decide +kernel
theorem d_X2_barredRooms_118 : decode mX2_barredRooms.2.1 118 = .ok (.iload 5, 2) := by decide +kernel
theorem d_X2_barredRooms_120 : decode mX2_barredRooms.2.1 120 = .ok (.aload_n 0, 1) := by decide +kernel
theorem d_X2_barredRooms_121 : decode mX2_barredRooms.2.1 121 = .ok (.getfield 9, 3) := by decide +kernel
theorem d_X2_barredRooms_124 : decode mX2_barredRooms.2.1 124 = .ok (.getfield 127, 3) := by decide +kernel
theorem d_X2_barredRooms_127 : decode mX2_barredRooms.2.1 127 = .ok (.getfield 56, 3) := by decide +kernel
theorem d_X2_barredRooms_130 : decode mX2_barredRooms.2.1 130 = .ok (.if_icmp .ge 36, 3) := by decide +kernel
theorem d_X2_barredRooms_133 : decode mX2_barredRooms.2.1 133 = .ok (.iload 4, 2) := by decide +kernel
theorem d_X2_barredRooms_135 : decode mX2_barredRooms.2.1 135 = .ok (.iload_n 3, 1) := by decide +kernel
theorem d_X2_barredRooms_136 : decode mX2_barredRooms.2.1 136 = .ok (.aload_n 0, 1) := by decide +kernel
theorem d_X2_barredRooms_137 : decode mX2_barredRooms.2.1 137 = .ok (.getfield 9, 3) := by decide +kernel
theorem d_X2_barredRooms_140 : decode mX2_barredRooms.2.1 140 = .ok (.getfield 127, 3) := by decide +kernel
theorem d_X2_barredRooms_143 : decode mX2_barredRooms.2.1 143 = .ok (.getfield 61, 3) := by decide +kernel
theorem d_X2_barredRooms_146 : decode mX2_barredRooms.2.1 146 = .ok (.iload 5, 2) := by decide +kernel
theorem d_X2_barredRooms_148 : decode mX2_barredRooms.2.1 148 = .ok (.aaload, 1) := by decide +kernel
theorem d_X2_barredRooms_149 : decode mX2_barredRooms.2.1 149 = .ok (.iconst 0, 1) := by decide +kernel
theorem d_X2_barredRooms_150 : decode mX2_barredRooms.2.1 150 = .ok (.iaload, 1) := by decide +kernel
theorem d_X2_barredRooms_151 : decode mX2_barredRooms.2.1 151 = .ok (.ishr, 1) := by decide +kernel
theorem d_X2_barredRooms_152 : decode mX2_barredRooms.2.1 152 = .ok (.iconst 1, 1) := by decide +kernel
theorem d_X2_barredRooms_153 : decode mX2_barredRooms.2.1 153 = .ok (.iand, 1) := by decide +kernel
theorem d_X2_barredRooms_154 : decode mX2_barredRooms.2.1 154 = .ok (.iload 5, 2) := by decide +kernel
theorem d_X2_barredRooms_156 : decode mX2_barredRooms.2.1 156 = .ok (.ishl, 1) := by decide +kernel
theorem d_X2_barredRooms_157 : decode mX2_barredRooms.2.1 157 = .ok (.ior, 1) := by decide +kernel
theorem d_X2_barredRooms_158 : decode mX2_barredRooms.2.1 158 = .ok (.istore 4, 2) := by decide +kernel
theorem d_X2_barredRooms_160 : decode mX2_barredRooms.2.1 160 = .ok (.iinc 5 1, 3) := by decide +kernel
theorem d_X2_barredRooms_163 : decode mX2_barredRooms.2.1 163 = .ok (.goto (-45), 3) := by decide +kernel
theorem d_X2_barredRooms_166 : decode mX2_barredRooms.2.1 166 = .ok (.iload 4, 2) := by decide +kernel
theorem d_X2_barredRooms_168 : decode mX2_barredRooms.2.1 168 = .ok (.ireturn, 1) := by decide +kernel
def T_X2_barredRooms_118 (Q : Int32 → Mem → Prop) : Nat → Nat → Int32 → Int32 → Int32 → Mem → Prop
  | 0, _, _, _, _, _ => False
  | n + 1, v0, v3, v4, v5, M => (kd v0 = 2) ∧ (kd (rf v0 0) = 3) ∧ (kd (rf (rf v0 0) 4) = 4) ∧ if (M.1 (rf (rf v0 0) 4) 2) ≤ v5 then (Q v4 M) else ((kd (rf (rf (rf v0 0) 4) 0) = 10 ∨ kd (rf (rf (rf v0 0) 4) 0) = 11) ∧ (vp_in v5 (ln (rf (rf (rf v0 0) 4) 0))) ∧ (kd (rf (rf (rf (rf v0 0) 4) 0) (Int32.toNatClampNeg v5)) = 9) ∧ (vp_in 0 (ln (rf (rf (rf (rf v0 0) 4) 0) (Int32.toNatClampNeg v5)))) ∧ ∀ x8 : Int32, x8 = v4 ||| (((v3 >>> ((M.1 (rf (rf (rf (rf v0 0) 4) 0) (Int32.toNatClampNeg v5)) (Int32.toNatClampNeg 0)) &&& 31)) &&& 1) <<< (v5 &&& 31)) → ∀ x9 : Int32, x9 = v5 + 1 → (T_X2_barredRooms_118 Q n) v0 v3 x8 x9 M)
set_option maxRecDepth 100000 in
set_option maxHeartbeats 4000000 in
theorem B_X2_barredRooms_118 {g : GG} (Q : Int32 → Mem → Prop) : ∀ (n : Nat) (v0 : Nat) (v3 : Int32) (v4 : Int32) (v5 : Int32) (M : Mem), T_X2_barredRooms_118 Q n v0 v3 v4 v5 M → WP g 10 mX2_barredRooms 118 [some (.ref (g.1 + v0)), none, none, some (.int v3), some (.int v4), some (.int v5), none, none] [] M 0 (oI Q noX) := by
  intro n
  induction n with
  | zero => intro v0 v3 v4 v5 M h; exact h.elim
  | succ n hκ118 =>
    intro v0 v3 v4 v5 M h
    unfold T_X2_barredRooms_118 at h
    refine R_iload (pc := 118) d_X2_barredRooms_118 rfl ?_
    refine R_aload_n (pc := 120) d_X2_barredRooms_120 rfl rfl ?_
    obtain ⟨k1, h⟩ := h
    refine R_getR (pc := 121) fld_RX2_9 rfl rfl k1 d_X2_barredRooms_121 ?_
    obtain ⟨k2, h⟩ := h
    refine R_getR (pc := 124) fld_RX2_127 rfl rfl k2 d_X2_barredRooms_124 ?_
    obtain ⟨k3, h⟩ := h
    refine R_getI (pc := 127) fld_RX2_56 rfl rfl k3 d_X2_barredRooms_127 ?_
    refine R_icmp_ge (pc := 130) (tgt := 166) d_X2_barredRooms_130 (by decide) (fun c => ?_) (fun c => ?_)
    · rw [if_pos c] at h
      refine R_iload (pc := 166) d_X2_barredRooms_166 rfl ?_
      exact R_retv (pc := 168) d_X2_barredRooms_168 h
    · rw [if_neg c] at h
      refine R_iload (pc := 133) d_X2_barredRooms_133 rfl ?_
      refine R_iload_n (pc := 135) d_X2_barredRooms_135 rfl rfl ?_
      refine R_aload_n (pc := 136) d_X2_barredRooms_136 rfl rfl ?_
      refine R_getR (pc := 137) fld_RX2_9 rfl rfl k1 d_X2_barredRooms_137 ?_
      refine R_getR (pc := 140) fld_RX2_127 rfl rfl k2 d_X2_barredRooms_140 ?_
      refine R_getR (pc := 143) fld_RX2_61 rfl rfl k3 d_X2_barredRooms_143 ?_
      refine R_iload (pc := 146) d_X2_barredRooms_146 rfl ?_
      obtain ⟨k4, h⟩ := h
      obtain ⟨k5, h⟩ := h
      refine R_aald (pc := 148) k4 k5 d_X2_barredRooms_148 ?_
      refine R_iconst (pc := 149) (v := 0) d_X2_barredRooms_149 (by decide) ?_
      obtain ⟨k6, h⟩ := h
      obtain ⟨k7, h⟩ := h
      refine R_iald (pc := 150) k6 k7 d_X2_barredRooms_150 ?_
      refine R_ishr (pc := 151) d_X2_barredRooms_151 ?_
      refine R_iconst (pc := 152) (v := 1) d_X2_barredRooms_152 (by decide) ?_
      refine R_iand (pc := 153) d_X2_barredRooms_153 ?_
      refine R_iload (pc := 154) d_X2_barredRooms_154 rfl ?_
      refine R_ishl (pc := 156) d_X2_barredRooms_156 ?_
      refine R_ior (pc := 157) d_X2_barredRooms_157 ?_
      refine N_i (fun x8 ex8 => ?_)
      have h := h x8 ex8
      refine R_istore (pc := 158) (L' := [some (.ref (g.1 + v0)), none, none, some (.int v3), some (.int x8), some (.int v5), none, none]) d_X2_barredRooms_158 (by decide) rfl ?_
      obtain ⟨x9, ex9⟩ : ∃ z : Int32, z = v5 + 1 := ⟨_, rfl⟩
      have h := h x9 ex9
      refine R_iinc (pc := 160) (v := x9) (L' := [some (.ref (g.1 + v0)), none, none, some (.int v3), some (.int x8), some (.int x9), none, none]) d_X2_barredRooms_160 rfl (by rw [ex9]; rfl) (by decide) rfl ?_
      refine R_goto (pc := 163) (tgt := 118) d_X2_barredRooms_163 (by decide) ?_
      exact WP_sub (hκ118 v0 v3 x8 x9 M h) (by decide) (ls_s (ls_n (ls_n (ls_s (ls_s (ls_s (ls_n (ls_n ls_0))))))))
def T_X2_barredRooms_106 (κ5 : Nat → Int32 → Int32 → Int32 → Int32 → Mem → Prop) (Q : Int32 → Mem → Prop) (v0 : Nat) (v1 : Int32) (v2 : Int32) (v3 : Int32) (v4 : Int32) (M : Mem) : Prop := ∀ x1 : Int32, x1 = v4 + 1 → κ5 v0 v1 v2 v3 x1 M
set_option maxRecDepth 100000 in
set_option maxHeartbeats 4000000 in
theorem B_X2_barredRooms_106 {g : GG} (Q : Int32 → Mem → Prop) (κ5 : Nat → Int32 → Int32 → Int32 → Int32 → Mem → Prop) (hκ5 : ∀ (v0 : Nat) (v1 : Int32) (v2 : Int32) (v3 : Int32) (v4 : Int32) (M : Mem), κ5 v0 v1 v2 v3 v4 M → WP g 10 mX2_barredRooms 5 [some (.ref (g.1 + v0)), some (.int v1), some (.int v2), some (.int v3), some (.int v4), none, none, none] [] M 0 (oI Q noX)) (v0 : Nat) (v1 : Int32) (v2 : Int32) (v3 : Int32) (v4 : Int32) (M : Mem) (h : T_X2_barredRooms_106 κ5 Q v0 v1 v2 v3 v4 M) : WP g 10 mX2_barredRooms 106 [some (.ref (g.1 + v0)), some (.int v1), some (.int v2), some (.int v3), some (.int v4), none, none, none] [] M 0 (oI Q noX) := by
  unfold T_X2_barredRooms_106 at h
  obtain ⟨x1, ex1⟩ : ∃ z : Int32, z = v4 + 1 := ⟨_, rfl⟩
  have h := h x1 ex1
  refine R_iinc (pc := 106) (v := x1) (L' := [some (.ref (g.1 + v0)), some (.int v1), some (.int v2), some (.int v3), some (.int x1), none, none, none]) d_X2_barredRooms_106 rfl (by rw [ex1]; rfl) (by decide) rfl ?_
  refine R_goto (pc := 109) (tgt := 5) d_X2_barredRooms_109 (by decide) ?_
  exact WP_sub (hκ5 v0 v1 v2 v3 x1 M h) (by decide) (ls_s (ls_s (ls_s (ls_s (ls_s (ls_n (ls_n (ls_n ls_0))))))))
def T_X2_barredRooms_5 (Q : Int32 → Mem → Prop) : Nat → Nat → Int32 → Int32 → Int32 → Int32 → Mem → Prop
  | 0, _, _, _, _, _, _ => False
  | n + 1, v0, v1, v2, v3, v4, M => (kd v0 = 2) ∧ (kd (rf v0 0) = 3) ∧ (kd (rf (rf v0 0) 6) = 4) ∧ if (M.1 (rf (rf v0 0) 6) 2) ≤ v4 then ((∃ N : Nat, T_X2_barredRooms_118 Q N v0 v3 0 0 M)) else ((kd (rf (rf (rf v0 0) 6) 0) = 10 ∨ kd (rf (rf (rf v0 0) 6) 0) = 11) ∧ (vp_in v4 (ln (rf (rf (rf v0 0) 6) 0))) ∧ ∀ r6 : Nat, r6 = rf (rf (rf (rf v0 0) 6) 0) (Int32.toNatClampNeg v4) → T_X2_visitOfPartner (fun y8 M7 => if y8 = ((-1) : Int32) then (T_X2_barredRooms_106 (T_X2_barredRooms_5 Q n) Q v0 v1 v2 v3 v4 M7) else ((kd r6 = 9) ∧ (vp_in 3 (ln r6)) ∧ if v2 < (M7.1 r6 (Int32.toNatClampNeg 3)) then (T_X2_barredRooms_106 (T_X2_barredRooms_5 Q n) Q v0 v1 v2 v3 v4 M7) else ((vp_in 4 (ln r6)) ∧ if (M7.1 r6 (Int32.toNatClampNeg 4)) < v2 then (T_X2_barredRooms_106 (T_X2_barredRooms_5 Q n) Q v0 v1 v2 v3 v4 M7) else ((kd (rf (rf v0 0) 4) = 4) ∧ (kd (rf (rf v0 0) 5) = 4) ∧ (kd (rf (rf (rf v0 0) 5) 0) = 10 ∨ kd (rf (rf (rf v0 0) 5) 0) = 11) ∧ (vp_in y8 (ln (rf (rf (rf v0 0) 5) 0))) ∧ (kd (rf (rf (rf (rf v0 0) 5) 0) (Int32.toNatClampNeg y8)) = 9) ∧ (vp_in 4 (ln (rf (rf (rf (rf v0 0) 5) 0) (Int32.toNatClampNeg y8)))) ∧ (kd (rf (rf (rf v0 0) 4) 0) = 10 ∨ kd (rf (rf (rf v0 0) 4) 0) = 11) ∧ (vp_in (M7.1 (rf (rf (rf (rf v0 0) 5) 0) (Int32.toNatClampNeg y8)) (Int32.toNatClampNeg 4)) (ln (rf (rf (rf v0 0) 4) 0))) ∧ (kd (rf (rf (rf (rf v0 0) 4) 0) (Int32.toNatClampNeg (M7.1 (rf (rf (rf (rf v0 0) 5) 0) (Int32.toNatClampNeg y8)) (Int32.toNatClampNeg 4)))) = 9) ∧ (vp_in 0 (ln (rf (rf (rf (rf v0 0) 4) 0) (Int32.toNatClampNeg (M7.1 (rf (rf (rf (rf v0 0) 5) 0) (Int32.toNatClampNeg y8)) (Int32.toNatClampNeg 4)))))) ∧ ∀ x22 : Int32, x22 = M7.1 (rf (rf (rf (rf v0 0) 4) 0) (Int32.toNatClampNeg (M7.1 (rf (rf (rf (rf v0 0) 5) 0) (Int32.toNatClampNeg y8)) (Int32.toNatClampNeg 4)))) (Int32.toNatClampNeg 0) → ∀ x23 : Int32, x23 = v3 ||| ((7 <<< (x22 &&& 31)) >>> (1 &&& 31)) → T_X2_barredRooms_106 (T_X2_barredRooms_5 Q n) Q v0 v1 v2 x23 v4 M7))))  v0 r6 v1 M)
set_option maxRecDepth 100000 in
set_option maxHeartbeats 4000000 in
theorem B_X2_barredRooms_5 {g : GG} (Q : Int32 → Mem → Prop) : ∀ (n : Nat) (v0 : Nat) (v1 : Int32) (v2 : Int32) (v3 : Int32) (v4 : Int32) (M : Mem), T_X2_barredRooms_5 Q n v0 v1 v2 v3 v4 M → WP g 10 mX2_barredRooms 5 [some (.ref (g.1 + v0)), some (.int v1), some (.int v2), some (.int v3), some (.int v4), none, none, none] [] M 0 (oI Q noX) := by
  intro n
  induction n with
  | zero => intro v0 v1 v2 v3 v4 M h; exact h.elim
  | succ n hκ5 =>
    intro v0 v1 v2 v3 v4 M h
    unfold T_X2_barredRooms_5 at h
    refine R_iload (pc := 5) d_X2_barredRooms_5 rfl ?_
    refine R_aload_n (pc := 7) d_X2_barredRooms_7 rfl rfl ?_
    obtain ⟨k1, h⟩ := h
    refine R_getR (pc := 8) fld_RX2_9 rfl rfl k1 d_X2_barredRooms_8 ?_
    obtain ⟨k2, h⟩ := h
    refine R_getR (pc := 11) fld_RX2_52 rfl rfl k2 d_X2_barredRooms_11 ?_
    obtain ⟨k3, h⟩ := h
    refine R_getI (pc := 14) fld_RX2_56 rfl rfl k3 d_X2_barredRooms_14 ?_
    refine R_icmp_ge (pc := 17) (tgt := 112) d_X2_barredRooms_17 (by decide) (fun c => ?_) (fun c => ?_)
    · rw [if_pos c] at h
      refine R_iconst (pc := 112) (v := 0) d_X2_barredRooms_112 (by decide) ?_
      refine R_istore (pc := 113) (L' := [some (.ref (g.1 + v0)), some (.int v1), some (.int v2), some (.int v3), some (.int 0), none, none, none]) d_X2_barredRooms_113 (by decide) rfl ?_
      refine R_iconst (pc := 115) (v := 0) d_X2_barredRooms_115 (by decide) ?_
      refine R_istore (pc := 116) (L' := [some (.ref (g.1 + v0)), some (.int v1), some (.int v2), some (.int v3), some (.int 0), some (.int 0), none, none]) d_X2_barredRooms_116 (by decide) rfl ?_
      obtain ⟨N, h⟩ := h
      exact WP_sub (B_X2_barredRooms_118 Q N v0 v3 0 0 M h) (by decide) (ls_s (ls_n (ls_n (ls_s (ls_s (ls_s (ls_n (ls_n ls_0))))))))
    · rw [if_neg c] at h
      refine R_aload_n (pc := 20) d_X2_barredRooms_20 rfl rfl ?_
      refine R_getR (pc := 21) fld_RX2_9 rfl rfl k1 d_X2_barredRooms_21 ?_
      refine R_getR (pc := 24) fld_RX2_52 rfl rfl k2 d_X2_barredRooms_24 ?_
      refine R_getR (pc := 27) fld_RX2_61 rfl rfl k3 d_X2_barredRooms_27 ?_
      refine R_iload (pc := 30) d_X2_barredRooms_30 rfl ?_
      obtain ⟨k4, h⟩ := h
      obtain ⟨k5, h⟩ := h
      refine R_aald (pc := 32) k4 k5 d_X2_barredRooms_32 ?_
      refine N_r (fun r6 er6 => ?_)
      have h := h r6 er6
      refine R_astore (pc := 33) (L' := [some (.ref (g.1 + v0)), some (.int v1), some (.int v2), some (.int v3), some (.int v4), some (.ref (g.1 + r6)), none, none]) d_X2_barredRooms_33 (by decide) rfl ?_
      refine R_aload_n (pc := 35) d_X2_barredRooms_35 rfl rfl ?_
      refine R_aload (pc := 36) d_X2_barredRooms_36 rfl ?_
      refine R_iload_n (pc := 38) d_X2_barredRooms_38 rfl rfl ?_
      refine R_callV (pc := 39) (As := [.ref (g.1 + r6), .int v1]) (rest := []) (c_X2_visitOfPartner (g := g) v0 r6 v1 M _ h) rfl rfl cal_RX2_133 ins_X2_visitOfPartner sel_X2_visitOfPartner (cls_at k1 clsOK2) (by decide) (by decide) rfl rfl (Nat.le_of_ble_eq_true rfl) d_X2_barredRooms_39 (k_I (fun y8 M7 h => ?_)) (fun _ _ h9 => False.elim h9)
      try dsimp only at h
      refine R_istore (pc := 42) (L' := [some (.ref (g.1 + v0)), some (.int v1), some (.int v2), some (.int v3), some (.int v4), some (.ref (g.1 + r6)), some (.int y8), none]) d_X2_barredRooms_42 (by decide) rfl ?_
      refine R_iload (pc := 44) d_X2_barredRooms_44 rfl ?_
      refine R_iconst (pc := 46) (v := (-1)) d_X2_barredRooms_46 (by decide) ?_
      refine R_icmp_eq (pc := 47) (tgt := 106) d_X2_barredRooms_47 (by decide) (fun c => ?_) (fun c => ?_)
      · rw [if_pos c] at h
        exact WP_sub (B_X2_barredRooms_106 Q (T_X2_barredRooms_5 Q n) hκ5 v0 v1 v2 v3 v4 M7 h) (by decide) (ls_s (ls_s (ls_s (ls_s (ls_s (ls_n (ls_n (ls_n ls_0))))))))
      · rw [if_neg c] at h
        refine R_iload_n (pc := 50) d_X2_barredRooms_50 rfl rfl ?_
        refine R_aload (pc := 51) d_X2_barredRooms_51 rfl ?_
        refine R_iconst (pc := 53) (v := 3) d_X2_barredRooms_53 (by decide) ?_
        obtain ⟨k9, h⟩ := h
        obtain ⟨k10, h⟩ := h
        refine R_iald (pc := 54) k9 k10 d_X2_barredRooms_54 ?_
        refine R_icmp_lt (pc := 55) (tgt := 106) d_X2_barredRooms_55 (by decide) (fun c => ?_) (fun c => ?_)
        · rw [if_pos c] at h
          exact WP_sub (B_X2_barredRooms_106 Q (T_X2_barredRooms_5 Q n) hκ5 v0 v1 v2 v3 v4 M7 h) (by decide) (ls_s (ls_s (ls_s (ls_s (ls_s (ls_n (ls_n (ls_n ls_0))))))))
        · rw [if_neg c] at h
          refine R_iload_n (pc := 58) d_X2_barredRooms_58 rfl rfl ?_
          refine R_aload (pc := 59) d_X2_barredRooms_59 rfl ?_
          refine R_iconst (pc := 61) (v := 4) d_X2_barredRooms_61 (by decide) ?_
          obtain ⟨k11, h⟩ := h
          refine R_iald (pc := 62) k9 k11 d_X2_barredRooms_62 ?_
          refine R_icmp_gt (pc := 63) (tgt := 106) d_X2_barredRooms_63 (by decide) (fun c => ?_) (fun c => ?_)
          · rw [if_pos c] at h
            exact WP_sub (B_X2_barredRooms_106 Q (T_X2_barredRooms_5 Q n) hκ5 v0 v1 v2 v3 v4 M7 h) (by decide) (ls_s (ls_s (ls_s (ls_s (ls_s (ls_n (ls_n (ls_n ls_0))))))))
          · rw [if_neg c] at h
            refine R_aload_n (pc := 66) d_X2_barredRooms_66 rfl rfl ?_
            refine R_getR (pc := 67) fld_RX2_9 rfl rfl k1 d_X2_barredRooms_67 ?_
            refine R_getR (pc := 70) fld_RX2_127 rfl rfl k2 d_X2_barredRooms_70 ?_
            obtain ⟨k12, h⟩ := h
            refine R_getR (pc := 73) fld_RX2_61 rfl rfl k12 d_X2_barredRooms_73 ?_
            refine R_aload_n (pc := 76) d_X2_barredRooms_76 rfl rfl ?_
            refine R_getR (pc := 77) fld_RX2_9 rfl rfl k1 d_X2_barredRooms_77 ?_
            refine R_getR (pc := 80) fld_RX2_92 rfl rfl k2 d_X2_barredRooms_80 ?_
            obtain ⟨k13, h⟩ := h
            refine R_getR (pc := 83) fld_RX2_61 rfl rfl k13 d_X2_barredRooms_83 ?_
            refine R_iload (pc := 86) d_X2_barredRooms_86 rfl ?_
            obtain ⟨k14, h⟩ := h
            obtain ⟨k15, h⟩ := h
            refine R_aald (pc := 88) k14 k15 d_X2_barredRooms_88 ?_
            refine R_iconst (pc := 89) (v := 4) d_X2_barredRooms_89 (by decide) ?_
            obtain ⟨k16, h⟩ := h
            obtain ⟨k17, h⟩ := h
            refine R_iald (pc := 90) k16 k17 d_X2_barredRooms_90 ?_
            obtain ⟨k18, h⟩ := h
            obtain ⟨k19, h⟩ := h
            refine R_aald (pc := 91) k18 k19 d_X2_barredRooms_91 ?_
            refine R_iconst (pc := 92) (v := 0) d_X2_barredRooms_92 (by decide) ?_
            obtain ⟨k20, h⟩ := h
            obtain ⟨k21, h⟩ := h
            refine R_iald (pc := 93) k20 k21 d_X2_barredRooms_93 ?_
            refine N_i (fun x22 ex22 => ?_)
            have h := h x22 ex22
            refine R_istore (pc := 94) (L' := [some (.ref (g.1 + v0)), some (.int v1), some (.int v2), some (.int v3), some (.int v4), some (.ref (g.1 + r6)), some (.int y8), some (.int x22)]) d_X2_barredRooms_94 (by decide) rfl ?_
            refine R_iload_n (pc := 96) d_X2_barredRooms_96 rfl rfl ?_
            refine R_bipush (pc := 97) (v := 7) d_X2_barredRooms_97 (by decide) ?_
            refine R_iload (pc := 99) d_X2_barredRooms_99 rfl ?_
            refine R_ishl (pc := 101) d_X2_barredRooms_101 ?_
            refine R_iconst (pc := 102) (v := 1) d_X2_barredRooms_102 (by decide) ?_
            refine R_ishr (pc := 103) d_X2_barredRooms_103 ?_
            refine R_ior (pc := 104) d_X2_barredRooms_104 ?_
            refine N_i (fun x23 ex23 => ?_)
            have h := h x23 ex23
            refine R_istore_n (pc := 105) (L' := [some (.ref (g.1 + v0)), some (.int v1), some (.int v2), some (.int x23), some (.int v4), some (.ref (g.1 + r6)), some (.int y8), some (.int x22)]) d_X2_barredRooms_105 rfl (by decide) rfl ?_
            exact WP_sub (B_X2_barredRooms_106 Q (T_X2_barredRooms_5 Q n) hκ5 v0 v1 v2 x23 v4 M7 h) (by decide) (ls_s (ls_s (ls_s (ls_s (ls_s (ls_n (ls_n (ls_n ls_0))))))))
def T_X2_barredRooms (Q : Int32 → Mem → Prop) (v0 : Nat) (v1 : Int32) (v2 : Int32) (M : Mem) : Prop := (∃ N : Nat, T_X2_barredRooms_5 Q N v0 v1 v2 0 0 M)
set_option maxRecDepth 100000 in
set_option maxHeartbeats 4000000 in
theorem c_X2_barredRooms {g : GG} (v0 : Nat) (v1 : Int32) (v2 : Int32) (M : Mem) (Q : Int32 → Mem → Prop) (h : T_X2_barredRooms Q v0 v1 v2 M) : CT g 10 mX2_barredRooms [.ref (g.1 + v0), .int v1, .int v2] M 0 (oI Q noX) := by
  refine CT_of (L := [some (.ref (g.1 + v0)), some (.int v1), some (.int v2), none, none, none, none, none]) (by decide) rfl (Nat.le_of_ble_eq_true rfl) (ro_I rfl) rfl ?_
  unfold T_X2_barredRooms at h
  refine R_iconst (pc := 0) (v := 0) d_X2_barredRooms_0 (by decide) ?_
  refine R_istore_n (pc := 1) (L' := [some (.ref (g.1 + v0)), some (.int v1), some (.int v2), some (.int 0), none, none, none, none]) d_X2_barredRooms_1 rfl (by decide) rfl ?_
  refine R_iconst (pc := 2) (v := 0) d_X2_barredRooms_2 (by decide) ?_
  refine R_istore (pc := 3) (L' := [some (.ref (g.1 + v0)), some (.int v1), some (.int v2), some (.int 0), some (.int 0), none, none, none]) d_X2_barredRooms_3 (by decide) rfl ?_
  obtain ⟨N, h⟩ := h
  exact WP_sub (B_X2_barredRooms_5 Q N v0 v1 v2 0 0 M h) (by decide) (ls_s (ls_s (ls_s (ls_s (ls_s (ls_n (ls_n (ls_n ls_0))))))))
/-! X2_glassRooms -/
theorem d_X2_glassRooms_0 : decode mX2_glassRooms.2.1 0 = .ok (.iconst 0, 1) := by decide +kernel
theorem d_X2_glassRooms_1 : decode mX2_glassRooms.2.1 1 = .ok (.istore_n 2, 1) := by decide +kernel
theorem d_X2_glassRooms_2 : decode mX2_glassRooms.2.1 2 = .ok (.iconst 0, 1) := by decide +kernel
theorem d_X2_glassRooms_3 : decode mX2_glassRooms.2.1 3 = .ok (.istore_n 3, 1) := by decide +kernel
theorem d_X2_glassRooms_4 : decode mX2_glassRooms.2.1 4 = .ok (.iload_n 3, 1) := by decide +kernel
theorem d_X2_glassRooms_5 : decode mX2_glassRooms.2.1 5 = .ok (.aload_n 0, 1) := by decide +kernel
theorem d_X2_glassRooms_6 : decode mX2_glassRooms.2.1 6 = .ok (.getfield 9, 3) := by decide +kernel
theorem d_X2_glassRooms_9 : decode mX2_glassRooms.2.1 9 = .ok (.getfield 127, 3) := by decide +kernel
theorem d_X2_glassRooms_12 : decode mX2_glassRooms.2.1 12 = .ok (.getfield 56, 3) := by decide +kernel
theorem d_X2_glassRooms_15 : decode mX2_glassRooms.2.1 15 = .ok (.if_icmp .ge 33, 3) := by decide +kernel
theorem d_X2_glassRooms_18 : decode mX2_glassRooms.2.1 18 = .ok (.aload_n 0, 1) := by decide +kernel
theorem d_X2_glassRooms_19 : decode mX2_glassRooms.2.1 19 = .ok (.getfield 9, 3) := by decide +kernel
theorem d_X2_glassRooms_22 : decode mX2_glassRooms.2.1 22 = .ok (.getfield 127, 3) := by decide +kernel
theorem d_X2_glassRooms_25 : decode mX2_glassRooms.2.1 25 = .ok (.getfield 61, 3) := by decide +kernel
theorem d_X2_glassRooms_28 : decode mX2_glassRooms.2.1 28 = .ok (.iload_n 3, 1) := by decide +kernel
theorem d_X2_glassRooms_29 : decode mX2_glassRooms.2.1 29 = .ok (.aaload, 1) := by decide +kernel
theorem d_X2_glassRooms_30 : decode mX2_glassRooms.2.1 30 = .ok (.iconst 2, 1) := by decide +kernel
theorem d_X2_glassRooms_31 : decode mX2_glassRooms.2.1 31 = .ok (.iaload, 1) := by decide +kernel
theorem d_X2_glassRooms_32 : decode mX2_glassRooms.2.1 32 = .ok (.iconst 1, 1) := by decide +kernel
theorem d_X2_glassRooms_33 : decode mX2_glassRooms.2.1 33 = .ok (.if_icmp .ne 9, 3) := by decide +kernel
theorem d_X2_glassRooms_36 : decode mX2_glassRooms.2.1 36 = .ok (.iload_n 2, 1) := by decide +kernel
theorem d_X2_glassRooms_37 : decode mX2_glassRooms.2.1 37 = .ok (.iconst 1, 1) := by decide +kernel
theorem d_X2_glassRooms_38 : decode mX2_glassRooms.2.1 38 = .ok (.iload_n 3, 1) := by decide +kernel
theorem d_X2_glassRooms_39 : decode mX2_glassRooms.2.1 39 = .ok (.ishl, 1) := by decide +kernel
theorem d_X2_glassRooms_40 : decode mX2_glassRooms.2.1 40 = .ok (.ior, 1) := by decide +kernel
theorem d_X2_glassRooms_41 : decode mX2_glassRooms.2.1 41 = .ok (.istore_n 2, 1) := by decide +kernel
theorem d_X2_glassRooms_42 : decode mX2_glassRooms.2.1 42 = .ok (.iinc 3 1, 3) := by decide +kernel
theorem d_X2_glassRooms_45 : decode mX2_glassRooms.2.1 45 = .ok (.goto (-41), 3) := by decide +kernel
theorem d_X2_glassRooms_48 : decode mX2_glassRooms.2.1 48 = .ok (.iload_n 2, 1) := by decide +kernel
theorem d_X2_glassRooms_49 : decode mX2_glassRooms.2.1 49 = .ok (.iload_n 1, 1) := by decide +kernel
theorem d_X2_glassRooms_50 : decode mX2_glassRooms.2.1 50 = .ok (.iand, 1) := by decide +kernel
theorem d_X2_glassRooms_51 : decode mX2_glassRooms.2.1 51 = .ok (.ireturn, 1) := by decide +kernel
def T_X2_glassRooms_42 (κ4 : Nat → Int32 → Int32 → Int32 → Mem → Prop) (Q : Int32 → Mem → Prop) (v0 : Nat) (v1 : Int32) (v2 : Int32) (v3 : Int32) (M : Mem) : Prop := ∀ x1 : Int32, x1 = v3 + 1 → κ4 v0 v1 v2 x1 M
set_option maxRecDepth 100000 in
set_option maxHeartbeats 4000000 in
theorem B_X2_glassRooms_42 {g : GG} (Q : Int32 → Mem → Prop) (κ4 : Nat → Int32 → Int32 → Int32 → Mem → Prop) (hκ4 : ∀ (v0 : Nat) (v1 : Int32) (v2 : Int32) (v3 : Int32) (M : Mem), κ4 v0 v1 v2 v3 M → WP g 9 mX2_glassRooms 4 [some (.ref (g.1 + v0)), some (.int v1), some (.int v2), some (.int v3)] [] M 0 (oI Q noX)) (v0 : Nat) (v1 : Int32) (v2 : Int32) (v3 : Int32) (M : Mem) (h : T_X2_glassRooms_42 κ4 Q v0 v1 v2 v3 M) : WP g 9 mX2_glassRooms 42 [some (.ref (g.1 + v0)), some (.int v1), some (.int v2), some (.int v3)] [] M 0 (oI Q noX) := by
  unfold T_X2_glassRooms_42 at h
  obtain ⟨x1, ex1⟩ : ∃ z : Int32, z = v3 + 1 := ⟨_, rfl⟩
  have h := h x1 ex1
  refine R_iinc (pc := 42) (v := x1) (L' := [some (.ref (g.1 + v0)), some (.int v1), some (.int v2), some (.int x1)]) d_X2_glassRooms_42 rfl (by rw [ex1]; rfl) (by decide) rfl ?_
  refine R_goto (pc := 45) (tgt := 4) d_X2_glassRooms_45 (by decide) ?_
  exact WP_sub (hκ4 v0 v1 v2 x1 M h) (by decide) (ls_s (ls_s (ls_s (ls_s ls_0))))
def T_X2_glassRooms_4 (Q : Int32 → Mem → Prop) : Nat → Nat → Int32 → Int32 → Int32 → Mem → Prop
  | 0, _, _, _, _, _ => False
  | n + 1, v0, v1, v2, v3, M => (kd v0 = 2) ∧ (kd (rf v0 0) = 3) ∧ (kd (rf (rf v0 0) 4) = 4) ∧ if (M.1 (rf (rf v0 0) 4) 2) ≤ v3 then (Q (v2 &&& v1) M) else ((kd (rf (rf (rf v0 0) 4) 0) = 10 ∨ kd (rf (rf (rf v0 0) 4) 0) = 11) ∧ (vp_in v3 (ln (rf (rf (rf v0 0) 4) 0))) ∧ (kd (rf (rf (rf (rf v0 0) 4) 0) (Int32.toNatClampNeg v3)) = 9) ∧ (vp_in 2 (ln (rf (rf (rf (rf v0 0) 4) 0) (Int32.toNatClampNeg v3)))) ∧ if (M.1 (rf (rf (rf (rf v0 0) 4) 0) (Int32.toNatClampNeg v3)) (Int32.toNatClampNeg 2)) = (1 : Int32) then (∀ x8 : Int32, x8 = v2 ||| (1 <<< (v3 &&& 31)) → T_X2_glassRooms_42 (T_X2_glassRooms_4 Q n) Q v0 v1 x8 v3 M) else (T_X2_glassRooms_42 (T_X2_glassRooms_4 Q n) Q v0 v1 v2 v3 M))
set_option maxRecDepth 100000 in
set_option maxHeartbeats 4000000 in
theorem B_X2_glassRooms_4 {g : GG} (Q : Int32 → Mem → Prop) : ∀ (n : Nat) (v0 : Nat) (v1 : Int32) (v2 : Int32) (v3 : Int32) (M : Mem), T_X2_glassRooms_4 Q n v0 v1 v2 v3 M → WP g 9 mX2_glassRooms 4 [some (.ref (g.1 + v0)), some (.int v1), some (.int v2), some (.int v3)] [] M 0 (oI Q noX) := by
  intro n
  induction n with
  | zero => intro v0 v1 v2 v3 M h; exact h.elim
  | succ n hκ4 =>
    intro v0 v1 v2 v3 M h
    unfold T_X2_glassRooms_4 at h
    refine R_iload_n (pc := 4) d_X2_glassRooms_4 rfl rfl ?_
    refine R_aload_n (pc := 5) d_X2_glassRooms_5 rfl rfl ?_
    obtain ⟨k1, h⟩ := h
    refine R_getR (pc := 6) fld_RX2_9 rfl rfl k1 d_X2_glassRooms_6 ?_
    obtain ⟨k2, h⟩ := h
    refine R_getR (pc := 9) fld_RX2_127 rfl rfl k2 d_X2_glassRooms_9 ?_
    obtain ⟨k3, h⟩ := h
    refine R_getI (pc := 12) fld_RX2_56 rfl rfl k3 d_X2_glassRooms_12 ?_
    refine R_icmp_ge (pc := 15) (tgt := 48) d_X2_glassRooms_15 (by decide) (fun c => ?_) (fun c => ?_)
    · rw [if_pos c] at h
      refine R_iload_n (pc := 48) d_X2_glassRooms_48 rfl rfl ?_
      refine R_iload_n (pc := 49) d_X2_glassRooms_49 rfl rfl ?_
      refine R_iand (pc := 50) d_X2_glassRooms_50 ?_
      exact R_retv (pc := 51) d_X2_glassRooms_51 h
    · rw [if_neg c] at h
      refine R_aload_n (pc := 18) d_X2_glassRooms_18 rfl rfl ?_
      refine R_getR (pc := 19) fld_RX2_9 rfl rfl k1 d_X2_glassRooms_19 ?_
      refine R_getR (pc := 22) fld_RX2_127 rfl rfl k2 d_X2_glassRooms_22 ?_
      refine R_getR (pc := 25) fld_RX2_61 rfl rfl k3 d_X2_glassRooms_25 ?_
      refine R_iload_n (pc := 28) d_X2_glassRooms_28 rfl rfl ?_
      obtain ⟨k4, h⟩ := h
      obtain ⟨k5, h⟩ := h
      refine R_aald (pc := 29) k4 k5 d_X2_glassRooms_29 ?_
      refine R_iconst (pc := 30) (v := 2) d_X2_glassRooms_30 (by decide) ?_
      obtain ⟨k6, h⟩ := h
      obtain ⟨k7, h⟩ := h
      refine R_iald (pc := 31) k6 k7 d_X2_glassRooms_31 ?_
      refine R_iconst (pc := 32) (v := 1) d_X2_glassRooms_32 (by decide) ?_
      refine R_icmp_ne (pc := 33) (tgt := 42) d_X2_glassRooms_33 (by decide) (fun c => ?_) (fun c => ?_)
      · rw [if_neg c] at h
        exact WP_sub (B_X2_glassRooms_42 Q (T_X2_glassRooms_4 Q n) hκ4 v0 v1 v2 v3 M h) (by decide) (ls_s (ls_s (ls_s (ls_s ls_0))))
      · rw [if_pos c] at h
        refine R_iload_n (pc := 36) d_X2_glassRooms_36 rfl rfl ?_
        refine R_iconst (pc := 37) (v := 1) d_X2_glassRooms_37 (by decide) ?_
        refine R_iload_n (pc := 38) d_X2_glassRooms_38 rfl rfl ?_
        refine R_ishl (pc := 39) d_X2_glassRooms_39 ?_
        refine R_ior (pc := 40) d_X2_glassRooms_40 ?_
        refine N_i (fun x8 ex8 => ?_)
        have h := h x8 ex8
        refine R_istore_n (pc := 41) (L' := [some (.ref (g.1 + v0)), some (.int v1), some (.int x8), some (.int v3)]) d_X2_glassRooms_41 rfl (by decide) rfl ?_
        exact WP_sub (B_X2_glassRooms_42 Q (T_X2_glassRooms_4 Q n) hκ4 v0 v1 x8 v3 M h) (by decide) (ls_s (ls_s (ls_s (ls_s ls_0))))
def T_X2_glassRooms (Q : Int32 → Mem → Prop) (v0 : Nat) (v1 : Int32) (M : Mem) : Prop := (∃ N : Nat, T_X2_glassRooms_4 Q N v0 v1 0 0 M)
set_option maxRecDepth 100000 in
set_option maxHeartbeats 4000000 in
theorem c_X2_glassRooms {g : GG} (v0 : Nat) (v1 : Int32) (M : Mem) (Q : Int32 → Mem → Prop) (h : T_X2_glassRooms Q v0 v1 M) : CT g 9 mX2_glassRooms [.ref (g.1 + v0), .int v1] M 0 (oI Q noX) := by
  refine CT_of (L := [some (.ref (g.1 + v0)), some (.int v1), none, none]) (by decide) rfl (Nat.le_of_ble_eq_true rfl) (ro_I rfl) rfl ?_
  unfold T_X2_glassRooms at h
  refine R_iconst (pc := 0) (v := 0) d_X2_glassRooms_0 (by decide) ?_
  refine R_istore_n (pc := 1) (L' := [some (.ref (g.1 + v0)), some (.int v1), some (.int 0), none]) d_X2_glassRooms_1 rfl (by decide) rfl ?_
  refine R_iconst (pc := 2) (v := 0) d_X2_glassRooms_2 (by decide) ?_
  refine R_istore_n (pc := 3) (L' := [some (.ref (g.1 + v0)), some (.int v1), some (.int 0), some (.int 0)]) d_X2_glassRooms_3 rfl (by decide) rfl ?_
  obtain ⟨N, h⟩ := h
  exact WP_sub (B_X2_glassRooms_4 Q N v0 v1 0 0 M h) (by decide) (ls_s (ls_s (ls_s (ls_s ls_0))))
/-! X2_possibleRooms -/
theorem d_X2_possibleRooms_0 : decode mX2_possibleRooms.2.1 0 = .ok (.aload_n 0, 1) := by decide +kernel
theorem d_X2_possibleRooms_1 : decode mX2_possibleRooms.2.1 1 = .ok (.getfield 9, 3) := by decide +kernel
theorem d_X2_possibleRooms_4 : decode mX2_possibleRooms.2.1 4 = .ok (.getfield 130, 3) := by decide +kernel
theorem d_X2_possibleRooms_7 : decode mX2_possibleRooms.2.1 7 = .ok (.getfield 61, 3) := by decide +kernel
theorem d_X2_possibleRooms_10 : decode mX2_possibleRooms.2.1 10 = .ok (.iload_n 1, 1) := by decide +kernel
theorem d_X2_possibleRooms_11 : decode mX2_possibleRooms.2.1 11 = .ok (.aaload, 1) := by decide +kernel
theorem d_X2_possibleRooms_12 : decode mX2_possibleRooms.2.1 12 = .ok (.iconst 2, 1) := by decide +kernel
theorem d_X2_possibleRooms_13 : decode mX2_possibleRooms.2.1 13 = .ok (.iaload, 1) := by decide +kernel
theorem d_X2_possibleRooms_14 : decode mX2_possibleRooms.2.1 14 = .ok (.iconst 1, 1) := by decide +kernel
theorem d_X2_possibleRooms_15 : decode mX2_possibleRooms.2.1 15 = .ok (.if_icmp .ne 7, 3) := by decide +kernel
theorem d_X2_possibleRooms_18 : decode mX2_possibleRooms.2.1 18 = .ok (.iconst 1, 1) := by decide +kernel
theorem d_X2_possibleRooms_19 : decode mX2_possibleRooms.2.1 19 = .ok (.goto 4, 3) := by decide +kernel
theorem d_X2_possibleRooms_22 : decode mX2_possibleRooms.2.1 22 = .ok (.iconst 0, 1) := by decide +kernel
theorem d_X2_possibleRooms_23 : decode mX2_possibleRooms.2.1 23 = .ok (.istore 4, 2) := by decide +kernel
theorem d_X2_possibleRooms_25 : decode mX2_possibleRooms.2.1 25 = .ok (.iload 4, 2) := by decide +kernel
theorem d_X2_possibleRooms_27 : decode mX2_possibleRooms.2.1 27 = .ok (.ifCond .eq 11, 3) := by decide +kernel
theorem d_X2_possibleRooms_30 : decode mX2_possibleRooms.2.1 30 = .ok (.aload_n 0, 1) := by decide +kernel
theorem d_X2_possibleRooms_31 : decode mX2_possibleRooms.2.1 31 = .ok (.iload_n 3, 1) := by decide +kernel
theorem d_X2_possibleRooms_32 : decode mX2_possibleRooms.2.1 32 = .ok (.invokevirtual 121, 3) := by decide +kernel
theorem d_X2_possibleRooms_35 : decode mX2_possibleRooms.2.1 35 = .ok (.goto 4, 3) := by decide +kernel
theorem d_X2_possibleRooms_38 : decode mX2_possibleRooms.2.1 38 = .ok (.iload_n 3, 1) := by decide +kernel
theorem d_X2_possibleRooms_39 : decode mX2_possibleRooms.2.1 39 = .ok (.istore 5, 2) := by decide +kernel
theorem d_X2_possibleRooms_41 : decode mX2_possibleRooms.2.1 41 = .ok (.iconst 0, 1) := by decide +kernel
theorem d_X2_possibleRooms_42 : decode mX2_possibleRooms.2.1 42 = .ok (.istore 6, 2) := by decide +kernel
theorem d_X2_possibleRooms_44 : decode mX2_possibleRooms.2.1 44 = .ok (.iload 6, 2) := by decide +kernel
theorem d_X2_possibleRooms_46 : decode mX2_possibleRooms.2.1 46 = .ok (.aload_n 0, 1) := by decide +kernel
theorem d_X2_possibleRooms_47 : decode mX2_possibleRooms.2.1 47 = .ok (.getfield 9, 3) := by decide +kernel
theorem d_X2_possibleRooms_50 : decode mX2_possibleRooms.2.1 50 = .ok (.getfield 127, 3) := by decide +kernel
theorem d_X2_possibleRooms_53 : decode mX2_possibleRooms.2.1 53 = .ok (.getfield 56, 3) := by decide +kernel
theorem d_X2_possibleRooms_56 : decode mX2_possibleRooms.2.1 56 = .ok (.if_icmp .ge 39, 3) := by decide +kernel
theorem d_X2_possibleRooms_59 : decode mX2_possibleRooms.2.1 59 = .ok (.aload_n 0, 1) := by decide +kernel
theorem d_X2_possibleRooms_60 : decode mX2_possibleRooms.2.1 60 = .ok (.getfield 9, 3) := by decide +kernel
theorem d_X2_possibleRooms_63 : decode mX2_possibleRooms.2.1 63 = .ok (.getfield 127, 3) := by decide +kernel
theorem d_X2_possibleRooms_66 : decode mX2_possibleRooms.2.1 66 = .ok (.getfield 61, 3) := by decide +kernel
theorem d_X2_possibleRooms_69 : decode mX2_possibleRooms.2.1 69 = .ok (.iload 6, 2) := by decide +kernel
theorem d_X2_possibleRooms_71 : decode mX2_possibleRooms.2.1 71 = .ok (.aaload, 1) := by decide +kernel
theorem d_X2_possibleRooms_72 : decode mX2_possibleRooms.2.1 72 = .ok (.iconst 1, 1) := by decide +kernel
theorem d_X2_possibleRooms_73 : decode mX2_possibleRooms.2.1 73 = .ok (.iaload, 1) := by decide +kernel
theorem d_X2_possibleRooms_74 : decode mX2_possibleRooms.2.1 74 = .ok (.iload_n 2, 1) := by decide +kernel
theorem d_X2_possibleRooms_75 : decode mX2_possibleRooms.2.1 75 = .ok (.if_icmp .ge 14, 3) := by decide +kernel
theorem d_X2_possibleRooms_78 : decode mX2_possibleRooms.2.1 78 = .ok (.iload 5, 2) := by decide +kernel
theorem d_X2_possibleRooms_80 : decode mX2_possibleRooms.2.1 80 = .ok (.iconst 1, 1) := by decide +kernel
theorem d_X2_possibleRooms_81 : decode mX2_possibleRooms.2.1 81 = .ok (.iload 6, 2) := by decide +kernel
theorem d_X2_possibleRooms_83 : decode mX2_possibleRooms.2.1 83 = .ok (.ishl, 1) := by decide +kernel
theorem d_X2_possibleRooms_84 : decode mX2_possibleRooms.2.1 84 = .ok (.iconst (-1), 1) := by decide +kernel
theorem d_X2_possibleRooms_85 : decode mX2_possibleRooms.2.1 85 = .ok (.ixor, 1) := by decide +kernel
theorem d_X2_possibleRooms_86 : decode mX2_possibleRooms.2.1 86 = .ok (.iand, 1) := by decide +kernel
theorem d_X2_possibleRooms_87 : decode mX2_possibleRooms.2.1 87 = .ok (.istore 5, 2) := by decide +kernel
theorem d_X2_possibleRooms_89 : decode mX2_possibleRooms.2.1 89 = .ok (.iinc 6 1, 3) := by decide +kernel
theorem d_X2_possibleRooms_92 : decode mX2_possibleRooms.2.1 92 = .ok (.goto (-48), 3) := by decide +kernel
theorem d_X2_possibleRooms_95 : decode mX2_possibleRooms.2.1 95 = .ok (.iload 5, 2) := by decide +kernel
theorem d_X2_possibleRooms_97 : decode mX2_possibleRooms.2.1 97 = .ok (.ireturn, 1) := by decide +kernel
def T_X2_possibleRooms_89 (κ44 : Nat → Int32 → Int32 → Int32 → Mem → Prop) (Q : Int32 → Mem → Prop) (v0 : Nat) (v2 : Int32) (v5 : Int32) (v6 : Int32) (M : Mem) : Prop := ∀ x1 : Int32, x1 = v6 + 1 → κ44 v0 v2 v5 x1 M
set_option maxRecDepth 100000 in
set_option maxHeartbeats 4000000 in
theorem B_X2_possibleRooms_89 {g : GG} (Q : Int32 → Mem → Prop) (κ44 : Nat → Int32 → Int32 → Int32 → Mem → Prop) (hκ44 : ∀ (v0 : Nat) (v2 : Int32) (v5 : Int32) (v6 : Int32) (M : Mem), κ44 v0 v2 v5 v6 M → WP g 10 mX2_possibleRooms 44 [some (.ref (g.1 + v0)), none, some (.int v2), none, none, some (.int v5), some (.int v6)] [] M 0 (oI Q noX)) (v0 : Nat) (v2 : Int32) (v5 : Int32) (v6 : Int32) (M : Mem) (h : T_X2_possibleRooms_89 κ44 Q v0 v2 v5 v6 M) : WP g 10 mX2_possibleRooms 89 [some (.ref (g.1 + v0)), none, some (.int v2), none, none, some (.int v5), some (.int v6)] [] M 0 (oI Q noX) := by
  unfold T_X2_possibleRooms_89 at h
  obtain ⟨x1, ex1⟩ : ∃ z : Int32, z = v6 + 1 := ⟨_, rfl⟩
  have h := h x1 ex1
  refine R_iinc (pc := 89) (v := x1) (L' := [some (.ref (g.1 + v0)), none, some (.int v2), none, none, some (.int v5), some (.int x1)]) d_X2_possibleRooms_89 rfl (by rw [ex1]; rfl) (by decide) rfl ?_
  refine R_goto (pc := 92) (tgt := 44) d_X2_possibleRooms_92 (by decide) ?_
  exact WP_sub (hκ44 v0 v2 v5 x1 M h) (by decide) (ls_s (ls_n (ls_s (ls_n (ls_n (ls_s (ls_s ls_0)))))))
def T_X2_possibleRooms_44 (Q : Int32 → Mem → Prop) : Nat → Nat → Int32 → Int32 → Int32 → Mem → Prop
  | 0, _, _, _, _, _ => False
  | n + 1, v0, v2, v5, v6, M => (kd v0 = 2) ∧ (kd (rf v0 0) = 3) ∧ (kd (rf (rf v0 0) 4) = 4) ∧ if (M.1 (rf (rf v0 0) 4) 2) ≤ v6 then (Q v5 M) else ((kd (rf (rf (rf v0 0) 4) 0) = 10 ∨ kd (rf (rf (rf v0 0) 4) 0) = 11) ∧ (vp_in v6 (ln (rf (rf (rf v0 0) 4) 0))) ∧ (kd (rf (rf (rf (rf v0 0) 4) 0) (Int32.toNatClampNeg v6)) = 9) ∧ (vp_in 1 (ln (rf (rf (rf (rf v0 0) 4) 0) (Int32.toNatClampNeg v6)))) ∧ if v2 ≤ (M.1 (rf (rf (rf (rf v0 0) 4) 0) (Int32.toNatClampNeg v6)) (Int32.toNatClampNeg 1)) then (T_X2_possibleRooms_89 (T_X2_possibleRooms_44 Q n) Q v0 v2 v5 v6 M) else (∀ x8 : Int32, x8 = v5 &&& ((1 <<< (v6 &&& 31)) ^^^ (-1)) → T_X2_possibleRooms_89 (T_X2_possibleRooms_44 Q n) Q v0 v2 x8 v6 M))
set_option maxRecDepth 100000 in
set_option maxHeartbeats 4000000 in
theorem B_X2_possibleRooms_44 {g : GG} (Q : Int32 → Mem → Prop) : ∀ (n : Nat) (v0 : Nat) (v2 : Int32) (v5 : Int32) (v6 : Int32) (M : Mem), T_X2_possibleRooms_44 Q n v0 v2 v5 v6 M → WP g 10 mX2_possibleRooms 44 [some (.ref (g.1 + v0)), none, some (.int v2), none, none, some (.int v5), some (.int v6)] [] M 0 (oI Q noX) := by
  intro n
  induction n with
  | zero => intro v0 v2 v5 v6 M h; exact h.elim
  | succ n hκ44 =>
    intro v0 v2 v5 v6 M h
    unfold T_X2_possibleRooms_44 at h
    refine R_iload (pc := 44) d_X2_possibleRooms_44 rfl ?_
    refine R_aload_n (pc := 46) d_X2_possibleRooms_46 rfl rfl ?_
    obtain ⟨k1, h⟩ := h
    refine R_getR (pc := 47) fld_RX2_9 rfl rfl k1 d_X2_possibleRooms_47 ?_
    obtain ⟨k2, h⟩ := h
    refine R_getR (pc := 50) fld_RX2_127 rfl rfl k2 d_X2_possibleRooms_50 ?_
    obtain ⟨k3, h⟩ := h
    refine R_getI (pc := 53) fld_RX2_56 rfl rfl k3 d_X2_possibleRooms_53 ?_
    refine R_icmp_ge (pc := 56) (tgt := 95) d_X2_possibleRooms_56 (by decide) (fun c => ?_) (fun c => ?_)
    · rw [if_pos c] at h
      refine R_iload (pc := 95) d_X2_possibleRooms_95 rfl ?_
      exact R_retv (pc := 97) d_X2_possibleRooms_97 h
    · rw [if_neg c] at h
      refine R_aload_n (pc := 59) d_X2_possibleRooms_59 rfl rfl ?_
      refine R_getR (pc := 60) fld_RX2_9 rfl rfl k1 d_X2_possibleRooms_60 ?_
      refine R_getR (pc := 63) fld_RX2_127 rfl rfl k2 d_X2_possibleRooms_63 ?_
      refine R_getR (pc := 66) fld_RX2_61 rfl rfl k3 d_X2_possibleRooms_66 ?_
      refine R_iload (pc := 69) d_X2_possibleRooms_69 rfl ?_
      obtain ⟨k4, h⟩ := h
      obtain ⟨k5, h⟩ := h
      refine R_aald (pc := 71) k4 k5 d_X2_possibleRooms_71 ?_
      refine R_iconst (pc := 72) (v := 1) d_X2_possibleRooms_72 (by decide) ?_
      obtain ⟨k6, h⟩ := h
      obtain ⟨k7, h⟩ := h
      refine R_iald (pc := 73) k6 k7 d_X2_possibleRooms_73 ?_
      refine R_iload_n (pc := 74) d_X2_possibleRooms_74 rfl rfl ?_
      refine R_icmp_ge (pc := 75) (tgt := 89) d_X2_possibleRooms_75 (by decide) (fun c => ?_) (fun c => ?_)
      · rw [if_pos c] at h
        exact WP_sub (B_X2_possibleRooms_89 Q (T_X2_possibleRooms_44 Q n) hκ44 v0 v2 v5 v6 M h) (by decide) (ls_s (ls_n (ls_s (ls_n (ls_n (ls_s (ls_s ls_0)))))))
      · rw [if_neg c] at h
        refine R_iload (pc := 78) d_X2_possibleRooms_78 rfl ?_
        refine R_iconst (pc := 80) (v := 1) d_X2_possibleRooms_80 (by decide) ?_
        refine R_iload (pc := 81) d_X2_possibleRooms_81 rfl ?_
        refine R_ishl (pc := 83) d_X2_possibleRooms_83 ?_
        refine R_iconst (pc := 84) (v := (-1)) d_X2_possibleRooms_84 (by decide) ?_
        refine R_ixor (pc := 85) d_X2_possibleRooms_85 ?_
        refine R_iand (pc := 86) d_X2_possibleRooms_86 ?_
        refine N_i (fun x8 ex8 => ?_)
        have h := h x8 ex8
        refine R_istore (pc := 87) (L' := [some (.ref (g.1 + v0)), none, some (.int v2), none, none, some (.int x8), some (.int v6)]) d_X2_possibleRooms_87 (by decide) rfl ?_
        exact WP_sub (B_X2_possibleRooms_89 Q (T_X2_possibleRooms_44 Q n) hκ44 v0 v2 x8 v6 M h) (by decide) (ls_s (ls_n (ls_s (ls_n (ls_n (ls_s (ls_s ls_0)))))))
def T_X2_possibleRooms_39 (Q : Int32 → Mem → Prop) (v0 : Nat) (v2 : Int32) (s0 : Int32) (M : Mem) : Prop := (∃ N : Nat, T_X2_possibleRooms_44 Q N v0 v2 s0 0 M)
set_option maxRecDepth 100000 in
set_option maxHeartbeats 4000000 in
theorem B_X2_possibleRooms_39 {g : GG} (Q : Int32 → Mem → Prop) (v0 : Nat) (v2 : Int32) (s0 : Int32) (M : Mem) (h : T_X2_possibleRooms_39 Q v0 v2 s0 M) : WP g 10 mX2_possibleRooms 39 [some (.ref (g.1 + v0)), none, some (.int v2), none, none, none, none] [.int s0] M 0 (oI Q noX) := by
  unfold T_X2_possibleRooms_39 at h
  refine R_istore (pc := 39) (L' := [some (.ref (g.1 + v0)), none, some (.int v2), none, none, some (.int s0), none]) d_X2_possibleRooms_39 (by decide) rfl ?_
  refine R_iconst (pc := 41) (v := 0) d_X2_possibleRooms_41 (by decide) ?_
  refine R_istore (pc := 42) (L' := [some (.ref (g.1 + v0)), none, some (.int v2), none, none, some (.int s0), some (.int 0)]) d_X2_possibleRooms_42 (by decide) rfl ?_
  obtain ⟨N, h⟩ := h
  exact WP_sub (B_X2_possibleRooms_44 Q N v0 v2 s0 0 M h) (by decide) (ls_s (ls_n (ls_s (ls_n (ls_n (ls_s (ls_s ls_0)))))))
def T_X2_possibleRooms_23 (Q : Int32 → Mem → Prop) (v0 : Nat) (v2 : Int32) (v3 : Int32) (s0 : Int32) (M : Mem) : Prop := if s0 = 0 then (T_X2_possibleRooms_39 Q v0 v2 v3 M) else ((kd v0 = 2) ∧ T_X2_glassRooms (fun y3 M2 => T_X2_possibleRooms_39 Q v0 v2 y3 M2)  v0 v3 M)
set_option maxRecDepth 100000 in
set_option maxHeartbeats 4000000 in
theorem B_X2_possibleRooms_23 {g : GG} (Q : Int32 → Mem → Prop) (v0 : Nat) (v2 : Int32) (v3 : Int32) (s0 : Int32) (M : Mem) (h : T_X2_possibleRooms_23 Q v0 v2 v3 s0 M) : WP g 10 mX2_possibleRooms 23 [some (.ref (g.1 + v0)), none, some (.int v2), some (.int v3), none, none, none] [.int s0] M 0 (oI Q noX) := by
  unfold T_X2_possibleRooms_23 at h
  refine R_istore (pc := 23) (L' := [some (.ref (g.1 + v0)), none, some (.int v2), some (.int v3), some (.int s0), none, none]) d_X2_possibleRooms_23 (by decide) rfl ?_
  refine R_iload (pc := 25) d_X2_possibleRooms_25 rfl ?_
  refine R_if_eq (pc := 27) (tgt := 38) d_X2_possibleRooms_27 (by decide) (fun c => ?_) (fun c => ?_)
  · rw [if_pos c] at h
    refine R_iload_n (pc := 38) d_X2_possibleRooms_38 rfl rfl ?_
    exact WP_sub (B_X2_possibleRooms_39 Q v0 v2 v3 M h) (by decide) (ls_s (ls_n (ls_s (ls_n (ls_n (ls_n (ls_n ls_0)))))))
  · rw [if_neg c] at h
    refine R_aload_n (pc := 30) d_X2_possibleRooms_30 rfl rfl ?_
    refine R_iload_n (pc := 31) d_X2_possibleRooms_31 rfl rfl ?_
    obtain ⟨k1, h⟩ := h
    refine R_callV (pc := 32) (As := [.int v3]) (rest := []) (c_X2_glassRooms (g := g) v0 v3 M _ h) rfl rfl cal_RX2_121 ins_X2_glassRooms sel_X2_glassRooms (cls_at k1 clsOK2) (by decide) (by decide) rfl rfl (Nat.le_of_ble_eq_true rfl) d_X2_possibleRooms_32 (k_I (fun y3 M2 h => ?_)) (fun _ _ h9 => False.elim h9)
    try dsimp only at h
    refine R_goto (pc := 35) (tgt := 39) d_X2_possibleRooms_35 (by decide) ?_
    exact WP_sub (B_X2_possibleRooms_39 Q v0 v2 y3 M2 h) (by decide) (ls_s (ls_n (ls_s (ls_n (ls_n (ls_n (ls_n ls_0)))))))
def T_X2_possibleRooms (Q : Int32 → Mem → Prop) (v0 : Nat) (v1 : Int32) (v2 : Int32) (v3 : Int32) (M : Mem) : Prop := (kd v0 = 2) ∧ (kd (rf v0 0) = 3) ∧ (kd (rf (rf v0 0) 2) = 4) ∧ (kd (rf (rf (rf v0 0) 2) 0) = 10 ∨ kd (rf (rf (rf v0 0) 2) 0) = 11) ∧ (vp_in v1 (ln (rf (rf (rf v0 0) 2) 0))) ∧ (kd (rf (rf (rf (rf v0 0) 2) 0) (Int32.toNatClampNeg v1)) = 9) ∧ (vp_in 2 (ln (rf (rf (rf (rf v0 0) 2) 0) (Int32.toNatClampNeg v1)))) ∧ if (M.1 (rf (rf (rf (rf v0 0) 2) 0) (Int32.toNatClampNeg v1)) (Int32.toNatClampNeg 2)) = (1 : Int32) then (T_X2_possibleRooms_23 Q v0 v2 v3 1 M) else (T_X2_possibleRooms_23 Q v0 v2 v3 0 M)
set_option maxRecDepth 100000 in
set_option maxHeartbeats 4000000 in
theorem c_X2_possibleRooms {g : GG} (v0 : Nat) (v1 : Int32) (v2 : Int32) (v3 : Int32) (M : Mem) (Q : Int32 → Mem → Prop) (h : T_X2_possibleRooms Q v0 v1 v2 v3 M) : CT g 10 mX2_possibleRooms [.ref (g.1 + v0), .int v1, .int v2, .int v3] M 0 (oI Q noX) := by
  refine CT_of (L := [some (.ref (g.1 + v0)), some (.int v1), some (.int v2), some (.int v3), none, none, none]) (by decide) rfl (Nat.le_of_ble_eq_true rfl) (ro_I rfl) rfl ?_
  unfold T_X2_possibleRooms at h
  refine R_aload_n (pc := 0) d_X2_possibleRooms_0 rfl rfl ?_
  obtain ⟨k1, h⟩ := h
  refine R_getR (pc := 1) fld_RX2_9 rfl rfl k1 d_X2_possibleRooms_1 ?_
  obtain ⟨k2, h⟩ := h
  refine R_getR (pc := 4) fld_RX2_130 rfl rfl k2 d_X2_possibleRooms_4 ?_
  obtain ⟨k3, h⟩ := h
  refine R_getR (pc := 7) fld_RX2_61 rfl rfl k3 d_X2_possibleRooms_7 ?_
  refine R_iload_n (pc := 10) d_X2_possibleRooms_10 rfl rfl ?_
  obtain ⟨k4, h⟩ := h
  obtain ⟨k5, h⟩ := h
  refine R_aald (pc := 11) k4 k5 d_X2_possibleRooms_11 ?_
  refine R_iconst (pc := 12) (v := 2) d_X2_possibleRooms_12 (by decide) ?_
  obtain ⟨k6, h⟩ := h
  obtain ⟨k7, h⟩ := h
  refine R_iald (pc := 13) k6 k7 d_X2_possibleRooms_13 ?_
  refine R_iconst (pc := 14) (v := 1) d_X2_possibleRooms_14 (by decide) ?_
  refine R_icmp_ne (pc := 15) (tgt := 22) d_X2_possibleRooms_15 (by decide) (fun c => ?_) (fun c => ?_)
  · rw [if_neg c] at h
    refine R_iconst (pc := 22) (v := 0) d_X2_possibleRooms_22 (by decide) ?_
    exact WP_sub (B_X2_possibleRooms_23 Q v0 v2 v3 0 M h) (by decide) (ls_s (ls_n (ls_s (ls_s (ls_n (ls_n (ls_n ls_0)))))))
  · rw [if_pos c] at h
    refine R_iconst (pc := 18) (v := 1) d_X2_possibleRooms_18 (by decide) ?_
    refine R_goto (pc := 19) (tgt := 23) d_X2_possibleRooms_19 (by decide) ?_
    exact WP_sub (B_X2_possibleRooms_23 Q v0 v2 v3 1 M h) (by decide) (ls_s (ls_n (ls_s (ls_s (ls_n (ls_n (ls_n ls_0)))))))
/-! X3_distance -/
theorem d_X3_distance_0 : decode mX3_distance.2.1 0 = .ok (.aload_n 0, 1) := by decide +kernel
theorem d_X3_distance_1 : decode mX3_distance.2.1 1 = .ok (.getfield 24, 3) := by decide +kernel
theorem d_X3_distance_4 : decode mX3_distance.2.1 4 = .ok (.getfield 77, 3) := by decide +kernel
theorem d_X3_distance_7 : decode mX3_distance.2.1 7 = .ok (.iload_n 1, 1) := by decide +kernel
theorem d_X3_distance_8 : decode mX3_distance.2.1 8 = .ok (.aaload, 1) := by decide +kernel
theorem d_X3_distance_9 : decode mX3_distance.2.1 9 = .ok (.iconst 0, 1) := by decide +kernel
theorem d_X3_distance_10 : decode mX3_distance.2.1 10 = .ok (.iaload, 1) := by decide +kernel
theorem d_X3_distance_11 : decode mX3_distance.2.1 11 = .ok (.aload_n 0, 1) := by decide +kernel
theorem d_X3_distance_12 : decode mX3_distance.2.1 12 = .ok (.getfield 31, 3) := by decide +kernel
theorem d_X3_distance_15 : decode mX3_distance.2.1 15 = .ok (.getfield 77, 3) := by decide +kernel
theorem d_X3_distance_18 : decode mX3_distance.2.1 18 = .ok (.iload_n 2, 1) := by decide +kernel
theorem d_X3_distance_19 : decode mX3_distance.2.1 19 = .ok (.aaload, 1) := by decide +kernel
theorem d_X3_distance_20 : decode mX3_distance.2.1 20 = .ok (.iconst 0, 1) := by decide +kernel
theorem d_X3_distance_21 : decode mX3_distance.2.1 21 = .ok (.iaload, 1) := by decide +kernel
theorem d_X3_distance_22 : decode mX3_distance.2.1 22 = .ok (.isub, 1) := by decide +kernel
theorem d_X3_distance_23 : decode mX3_distance.2.1 23 = .ok (.istore_n 3, 1) := by decide +kernel
theorem d_X3_distance_24 : decode mX3_distance.2.1 24 = .ok (.iload_n 3, 1) := by decide +kernel
theorem d_X3_distance_25 : decode mX3_distance.2.1 25 = .ok (.ifCond .ge 8, 3) := by decide +kernel
theorem d_X3_distance_28 : decode mX3_distance.2.1 28 = .ok (.iload_n 3, 1) := by decide +kernel
theorem d_X3_distance_29 : decode mX3_distance.2.1 29 = .ok (.ineg, 1) := by decide +kernel
theorem d_X3_distance_30 : decode mX3_distance.2.1 30 = .ok (.goto 4, 3) := by decide +kernel
theorem d_X3_distance_33 : decode mX3_distance.2.1 33 = .ok (.iload_n 3, 1) := by decide +kernel
theorem d_X3_distance_34 : decode mX3_distance.2.1 34 = .ok (.ireturn, 1) := by decide +kernel
def T_X3_distance_34 (Q : Int32 → Mem → Prop) (s0 : Int32) (M : Mem) : Prop := Q s0 M
set_option maxRecDepth 100000 in
set_option maxHeartbeats 4000000 in
theorem B_X3_distance_34 {g : GG} (Q : Int32 → Mem → Prop) (s0 : Int32) (M : Mem) (h : T_X3_distance_34 Q s0 M) : WP g 9 mX3_distance 34 [none, none, none, none] [.int s0] M 0 (oI Q noX) := by
  unfold T_X3_distance_34 at h
  exact R_retv (pc := 34) d_X3_distance_34 h
def T_X3_distance (Q : Int32 → Mem → Prop) (v0 : Nat) (v1 : Int32) (v2 : Int32) (M : Mem) : Prop := (kd v0 = 3) ∧ (kd (rf v0 2) = 4) ∧ (kd (rf (rf v0 2) 0) = 10 ∨ kd (rf (rf v0 2) 0) = 11) ∧ (vp_in v1 (ln (rf (rf v0 2) 0))) ∧ (kd (rf (rf (rf v0 2) 0) (Int32.toNatClampNeg v1)) = 9) ∧ (vp_in 0 (ln (rf (rf (rf v0 2) 0) (Int32.toNatClampNeg v1)))) ∧ (kd (rf v0 4) = 4) ∧ (kd (rf (rf v0 4) 0) = 10 ∨ kd (rf (rf v0 4) 0) = 11) ∧ (vp_in v2 (ln (rf (rf v0 4) 0))) ∧ (kd (rf (rf (rf v0 4) 0) (Int32.toNatClampNeg v2)) = 9) ∧ (vp_in 0 (ln (rf (rf (rf v0 4) 0) (Int32.toNatClampNeg v2)))) ∧ ∀ x12 : Int32, x12 = (M.1 (rf (rf (rf v0 2) 0) (Int32.toNatClampNeg v1)) (Int32.toNatClampNeg 0)) - (M.1 (rf (rf (rf v0 4) 0) (Int32.toNatClampNeg v2)) (Int32.toNatClampNeg 0)) → if 0 ≤ x12 then (T_X3_distance_34 Q x12 M) else (T_X3_distance_34 Q (-x12) M)
set_option maxRecDepth 100000 in
set_option maxHeartbeats 4000000 in
theorem c_X3_distance {g : GG} (v0 : Nat) (v1 : Int32) (v2 : Int32) (M : Mem) (Q : Int32 → Mem → Prop) (h : T_X3_distance Q v0 v1 v2 M) : CT g 9 mX3_distance [.ref (g.1 + v0), .int v1, .int v2] M 0 (oI Q noX) := by
  refine CT_of (L := [some (.ref (g.1 + v0)), some (.int v1), some (.int v2), none]) (by decide) rfl (Nat.le_of_ble_eq_true rfl) (ro_I rfl) rfl ?_
  unfold T_X3_distance at h
  refine R_aload_n (pc := 0) d_X3_distance_0 rfl rfl ?_
  obtain ⟨k1, h⟩ := h
  refine R_getR (pc := 1) fld_RX3_24 rfl rfl k1 d_X3_distance_1 ?_
  obtain ⟨k2, h⟩ := h
  refine R_getR (pc := 4) fld_RX3_77 rfl rfl k2 d_X3_distance_4 ?_
  refine R_iload_n (pc := 7) d_X3_distance_7 rfl rfl ?_
  obtain ⟨k3, h⟩ := h
  obtain ⟨k4, h⟩ := h
  refine R_aald (pc := 8) k3 k4 d_X3_distance_8 ?_
  refine R_iconst (pc := 9) (v := 0) d_X3_distance_9 (by decide) ?_
  obtain ⟨k5, h⟩ := h
  obtain ⟨k6, h⟩ := h
  refine R_iald (pc := 10) k5 k6 d_X3_distance_10 ?_
  refine R_aload_n (pc := 11) d_X3_distance_11 rfl rfl ?_
  refine R_getR (pc := 12) fld_RX3_31 rfl rfl k1 d_X3_distance_12 ?_
  obtain ⟨k7, h⟩ := h
  refine R_getR (pc := 15) fld_RX3_77 rfl rfl k7 d_X3_distance_15 ?_
  refine R_iload_n (pc := 18) d_X3_distance_18 rfl rfl ?_
  obtain ⟨k8, h⟩ := h
  obtain ⟨k9, h⟩ := h
  refine R_aald (pc := 19) k8 k9 d_X3_distance_19 ?_
  refine R_iconst (pc := 20) (v := 0) d_X3_distance_20 (by decide) ?_
  obtain ⟨k10, h⟩ := h
  obtain ⟨k11, h⟩ := h
  refine R_iald (pc := 21) k10 k11 d_X3_distance_21 ?_
  refine R_isub (pc := 22) d_X3_distance_22 ?_
  refine N_i (fun x12 ex12 => ?_)
  have h := h x12 ex12
  refine R_istore_n (pc := 23) (L' := [some (.ref (g.1 + v0)), some (.int v1), some (.int v2), some (.int x12)]) d_X3_distance_23 rfl (by decide) rfl ?_
  refine R_iload_n (pc := 24) d_X3_distance_24 rfl rfl ?_
  refine R_if_ge (pc := 25) (tgt := 33) d_X3_distance_25 (by decide) (fun c => ?_) (fun c => ?_)
  · rw [if_pos c] at h
    refine R_iload_n (pc := 33) d_X3_distance_33 rfl rfl ?_
    exact WP_sub (B_X3_distance_34 Q x12 M h) (by decide) (ls_n (ls_n (ls_n (ls_n ls_0))))
  · rw [if_neg c] at h
    refine R_iload_n (pc := 28) d_X3_distance_28 rfl rfl ?_
    refine R_ineg (pc := 29) d_X3_distance_29 ?_
    refine R_goto (pc := 30) (tgt := 34) d_X3_distance_30 (by decide) ?_
    exact WP_sub (B_X3_distance_34 Q (-x12) M h) (by decide) (ls_n (ls_n (ls_n (ls_n ls_0))))
/-! X3_firstRoom -/
theorem d_X3_firstRoom_0 : decode mX3_firstRoom.2.1 0 = .ok (.iconst (-1), 1) := by decide +kernel
theorem d_X3_firstRoom_1 : decode mX3_firstRoom.2.1 1 = .ok (.istore_n 3, 1) := by decide +kernel
theorem d_X3_firstRoom_2 : decode mX3_firstRoom.2.1 2 = .ok (.ldc 84, 2) := by decide +kernel
theorem d_X3_firstRoom_4 : decode mX3_firstRoom.2.1 4 = .ok (.istore 4, 2) := by decide +kernel
theorem d_X3_firstRoom_6 : decode mX3_firstRoom.2.1 6 = .ok (.iconst 0, 1) := by decide +kernel
theorem d_X3_firstRoom_7 : decode mX3_firstRoom.2.1 7 = .ok (.istore 5, 2) := by decide +kernel
theorem d_X3_firstRoom_9 : decode mX3_firstRoom.2.1 9 = .ok (.iload 5, 2) := by decide +kernel
theorem d_X3_firstRoom_11 : decode mX3_firstRoom.2.1 11 = .ok (.aload_n 0, 1) := by decide +kernel
theorem d_X3_firstRoom_12 : decode mX3_firstRoom.2.1 12 = .ok (.getfield 31, 3) := by decide +kernel
theorem d_X3_firstRoom_15 : decode mX3_firstRoom.2.1 15 = .ok (.getfield 74, 3) := by decide +kernel
theorem d_X3_firstRoom_18 : decode mX3_firstRoom.2.1 18 = .ok (.if_icmp .ge 56, 3) := by decide +kernel
theorem d_X3_firstRoom_21 : decode mX3_firstRoom.2.1 21 = .ok (.aload_n 0, 1) := by decide +kernel
theorem d_X3_firstRoom_22 : decode mX3_firstRoom.2.1 22 = .ok (.iload_n 1, 1) := by decide +kernel
theorem d_X3_firstRoom_23 : decode mX3_firstRoom.2.1 23 = .ok (.iload 5, 2) := by decide +kernel
theorem d_X3_firstRoom_25 : decode mX3_firstRoom.2.1 25 = .ok (.invokevirtual 85, 3) := by decide +kernel
theorem d_X3_firstRoom_28 : decode mX3_firstRoom.2.1 28 = .ok (.iconst 4, 1) := by decide +kernel
theorem d_X3_firstRoom_29 : decode mX3_firstRoom.2.1 29 = .ok (.imul, 1) := by decide +kernel
theorem d_X3_firstRoom_30 : decode mX3_firstRoom.2.1 30 = .ok (.aload_n 0, 1) := by decide +kernel
theorem d_X3_firstRoom_31 : decode mX3_firstRoom.2.1 31 = .ok (.getfield 31, 3) := by decide +kernel
theorem d_X3_firstRoom_34 : decode mX3_firstRoom.2.1 34 = .ok (.getfield 77, 3) := by decide +kernel
theorem d_X3_firstRoom_37 : decode mX3_firstRoom.2.1 37 = .ok (.iload 5, 2) := by decide +kernel
theorem d_X3_firstRoom_39 : decode mX3_firstRoom.2.1 39 = .ok (.aaload, 1) := by decide +kernel
theorem d_X3_firstRoom_40 : decode mX3_firstRoom.2.1 40 = .ok (.iconst 1, 1) := by decide +kernel
theorem d_X3_firstRoom_41 : decode mX3_firstRoom.2.1 41 = .ok (.iaload, 1) := by decide +kernel
theorem d_X3_firstRoom_42 : decode mX3_firstRoom.2.1 42 = .ok (.iadd, 1) := by decide +kernel
theorem d_X3_firstRoom_43 : decode mX3_firstRoom.2.1 43 = .ok (.istore 6, 2) := by decide +kernel
theorem d_X3_firstRoom_45 : decode mX3_firstRoom.2.1 45 = .ok (.iload_n 2, 1) := by decide +kernel
theorem d_X3_firstRoom_46 : decode mX3_firstRoom.2.1 46 = .ok (.iload 5, 2) := by decide +kernel
theorem d_X3_firstRoom_48 : decode mX3_firstRoom.2.1 48 = .ok (.iushr, 1) := by decide +kernel
theorem d_X3_firstRoom_49 : decode mX3_firstRoom.2.1 49 = .ok (.iconst 1, 1) := by decide +kernel
theorem d_X3_firstRoom_50 : decode mX3_firstRoom.2.1 50 = .ok (.iand, 1) := by decide +kernel
theorem d_X3_firstRoom_51 : decode mX3_firstRoom.2.1 51 = .ok (.ifCond .eq 17, 3) := by decide +kernel
theorem d_X3_firstRoom_54 : decode mX3_firstRoom.2.1 54 = .ok (.iload 6, 2) := by decide +kernel
theorem d_X3_firstRoom_56 : decode mX3_firstRoom.2.1 56 = .ok (.iload 4, 2) := by decide +kernel
theorem d_X3_firstRoom_58 : decode mX3_firstRoom.2.1 58 = .ok (.if_icmp .ge 10, 3) := by decide +kernel
theorem d_X3_firstRoom_61 : decode mX3_firstRoom.2.1 61 = .ok (.iload 6, 2) := by decide +kernel
theorem d_X3_firstRoom_63 : decode mX3_firstRoom.2.1 63 = .ok (.istore 4, 2) := by decide +kernel
theorem d_X3_firstRoom_65 : decode mX3_firstRoom.2.1 65 = .ok (.iload 5, 2) := by decide +kernel
theorem d_X3_firstRoom_67 : decode mX3_firstRoom.2.1 67 = .ok (.istore_n 3, 1) := by decide +kernel
theorem d_X3_firstRoom_68 : decode mX3_firstRoom.2.1 68 = .ok (.iinc 5 1, 3) := by decide +kernel
theorem d_X3_firstRoom_71 : decode mX3_firstRoom.2.1 71 = .ok (.goto (-62), 3) := by decide +kernel
theorem d_X3_firstRoom_74 : decode mX3_firstRoom.2.1 74 = .ok (.iload_n 3, 1) := by decide +kernel
theorem d_X3_firstRoom_75 : decode mX3_firstRoom.2.1 75 = .ok (.ireturn, 1) := by decide +kernel
def T_X3_firstRoom_68 (κ9 : Nat → Int32 → Int32 → Int32 → Int32 → Int32 → Mem → Prop) (Q : Int32 → Mem → Prop) (v0 : Nat) (v1 : Int32) (v2 : Int32) (v3 : Int32) (v4 : Int32) (v5 : Int32) (M : Mem) : Prop := ∀ x1 : Int32, x1 = v5 + 1 → κ9 v0 v1 v2 v3 v4 x1 M
set_option maxRecDepth 100000 in
set_option maxHeartbeats 4000000 in
theorem B_X3_firstRoom_68 {g : GG} (Q : Int32 → Mem → Prop) (κ9 : Nat → Int32 → Int32 → Int32 → Int32 → Int32 → Mem → Prop) (hκ9 : ∀ (v0 : Nat) (v1 : Int32) (v2 : Int32) (v3 : Int32) (v4 : Int32) (v5 : Int32) (M : Mem), κ9 v0 v1 v2 v3 v4 v5 M → WP g 10 mX3_firstRoom 9 [some (.ref (g.1 + v0)), some (.int v1), some (.int v2), some (.int v3), some (.int v4), some (.int v5), none] [] M 0 (oI Q noX)) (v0 : Nat) (v1 : Int32) (v2 : Int32) (v3 : Int32) (v4 : Int32) (v5 : Int32) (M : Mem) (h : T_X3_firstRoom_68 κ9 Q v0 v1 v2 v3 v4 v5 M) : WP g 10 mX3_firstRoom 68 [some (.ref (g.1 + v0)), some (.int v1), some (.int v2), some (.int v3), some (.int v4), some (.int v5), none] [] M 0 (oI Q noX) := by
  unfold T_X3_firstRoom_68 at h
  obtain ⟨x1, ex1⟩ : ∃ z : Int32, z = v5 + 1 := ⟨_, rfl⟩
  have h := h x1 ex1
  refine R_iinc (pc := 68) (v := x1) (L' := [some (.ref (g.1 + v0)), some (.int v1), some (.int v2), some (.int v3), some (.int v4), some (.int x1), none]) d_X3_firstRoom_68 rfl (by rw [ex1]; rfl) (by decide) rfl ?_
  refine R_goto (pc := 71) (tgt := 9) d_X3_firstRoom_71 (by decide) ?_
  exact WP_sub (hκ9 v0 v1 v2 v3 v4 x1 M h) (by decide) (ls_s (ls_s (ls_s (ls_s (ls_s (ls_s (ls_n ls_0)))))))
def T_X3_firstRoom_9 (Q : Int32 → Mem → Prop) : Nat → Nat → Int32 → Int32 → Int32 → Int32 → Int32 → Mem → Prop
  | 0, _, _, _, _, _, _, _ => False
  | n + 1, v0, v1, v2, v3, v4, v5, M => (kd v0 = 3) ∧ (kd (rf v0 4) = 4) ∧ if (M.1 (rf v0 4) 2) ≤ v5 then (Q v3 M) else (T_X3_distance (fun y4 M3 => (kd (rf (rf v0 4) 0) = 10 ∨ kd (rf (rf v0 4) 0) = 11) ∧ (vp_in v5 (ln (rf (rf v0 4) 0))) ∧ (kd (rf (rf (rf v0 4) 0) (Int32.toNatClampNeg v5)) = 9) ∧ (vp_in 1 (ln (rf (rf (rf v0 4) 0) (Int32.toNatClampNeg v5)))) ∧ ∀ x9 : Int32, x9 = (y4 * 4) + (M3.1 (rf (rf (rf v0 4) 0) (Int32.toNatClampNeg v5)) (Int32.toNatClampNeg 1)) → if (((Int32.toUInt32 v2 >>> (Int32.toUInt32 v5 &&& Int32.toUInt32 31)).toInt32) &&& 1) = 0 then (T_X3_firstRoom_68 (T_X3_firstRoom_9 Q n) Q v0 v1 v2 v3 v4 v5 M3) else (if v4 ≤ x9 then (T_X3_firstRoom_68 (T_X3_firstRoom_9 Q n) Q v0 v1 v2 v3 v4 v5 M3) else (T_X3_firstRoom_68 (T_X3_firstRoom_9 Q n) Q v0 v1 v2 v5 x9 v5 M3)))  v0 v1 v5 M)
set_option maxRecDepth 100000 in
set_option maxHeartbeats 4000000 in
theorem B_X3_firstRoom_9 {g : GG} (Q : Int32 → Mem → Prop) : ∀ (n : Nat) (v0 : Nat) (v1 : Int32) (v2 : Int32) (v3 : Int32) (v4 : Int32) (v5 : Int32) (M : Mem), T_X3_firstRoom_9 Q n v0 v1 v2 v3 v4 v5 M → WP g 10 mX3_firstRoom 9 [some (.ref (g.1 + v0)), some (.int v1), some (.int v2), some (.int v3), some (.int v4), some (.int v5), none] [] M 0 (oI Q noX) := by
  intro n
  induction n with
  | zero => intro v0 v1 v2 v3 v4 v5 M h; exact h.elim
  | succ n hκ9 =>
    intro v0 v1 v2 v3 v4 v5 M h
    unfold T_X3_firstRoom_9 at h
    refine R_iload (pc := 9) d_X3_firstRoom_9 rfl ?_
    refine R_aload_n (pc := 11) d_X3_firstRoom_11 rfl rfl ?_
    obtain ⟨k1, h⟩ := h
    refine R_getR (pc := 12) fld_RX3_31 rfl rfl k1 d_X3_firstRoom_12 ?_
    obtain ⟨k2, h⟩ := h
    refine R_getI (pc := 15) fld_RX3_74 rfl rfl k2 d_X3_firstRoom_15 ?_
    refine R_icmp_ge (pc := 18) (tgt := 74) d_X3_firstRoom_18 (by decide) (fun c => ?_) (fun c => ?_)
    · rw [if_pos c] at h
      refine R_iload_n (pc := 74) d_X3_firstRoom_74 rfl rfl ?_
      exact R_retv (pc := 75) d_X3_firstRoom_75 h
    · rw [if_neg c] at h
      refine R_aload_n (pc := 21) d_X3_firstRoom_21 rfl rfl ?_
      refine R_iload_n (pc := 22) d_X3_firstRoom_22 rfl rfl ?_
      refine R_iload (pc := 23) d_X3_firstRoom_23 rfl ?_
      refine R_callV (pc := 25) (As := [.int v1, .int v5]) (rest := []) (c_X3_distance (g := g) v0 v1 v5 M _ h) rfl rfl cal_RX3_85 ins_X3_distance sel_X3_distance (cls_at k1 clsOK3) (by decide) (by decide) rfl rfl (Nat.le_of_ble_eq_true rfl) d_X3_firstRoom_25 (k_I (fun y4 M3 h => ?_)) (fun _ _ h9 => False.elim h9)
      try dsimp only at h
      refine R_iconst (pc := 28) (v := 4) d_X3_firstRoom_28 (by decide) ?_
      refine R_imul (pc := 29) d_X3_firstRoom_29 ?_
      refine R_aload_n (pc := 30) d_X3_firstRoom_30 rfl rfl ?_
      refine R_getR (pc := 31) fld_RX3_31 rfl rfl k1 d_X3_firstRoom_31 ?_
      refine R_getR (pc := 34) fld_RX3_77 rfl rfl k2 d_X3_firstRoom_34 ?_
      refine R_iload (pc := 37) d_X3_firstRoom_37 rfl ?_
      obtain ⟨k5, h⟩ := h
      obtain ⟨k6, h⟩ := h
      refine R_aald (pc := 39) k5 k6 d_X3_firstRoom_39 ?_
      refine R_iconst (pc := 40) (v := 1) d_X3_firstRoom_40 (by decide) ?_
      obtain ⟨k7, h⟩ := h
      obtain ⟨k8, h⟩ := h
      refine R_iald (pc := 41) k7 k8 d_X3_firstRoom_41 ?_
      refine R_iadd (pc := 42) d_X3_firstRoom_42 ?_
      refine N_i (fun x9 ex9 => ?_)
      have h := h x9 ex9
      refine R_istore (pc := 43) (L' := [some (.ref (g.1 + v0)), some (.int v1), some (.int v2), some (.int v3), some (.int v4), some (.int v5), some (.int x9)]) d_X3_firstRoom_43 (by decide) rfl ?_
      refine R_iload_n (pc := 45) d_X3_firstRoom_45 rfl rfl ?_
      refine R_iload (pc := 46) d_X3_firstRoom_46 rfl ?_
      refine R_iushr (pc := 48) d_X3_firstRoom_48 ?_
      refine R_iconst (pc := 49) (v := 1) d_X3_firstRoom_49 (by decide) ?_
      refine R_iand (pc := 50) d_X3_firstRoom_50 ?_
      refine R_if_eq (pc := 51) (tgt := 68) d_X3_firstRoom_51 (by decide) (fun c => ?_) (fun c => ?_)
      · rw [if_pos c] at h
        exact WP_sub (B_X3_firstRoom_68 Q (T_X3_firstRoom_9 Q n) hκ9 v0 v1 v2 v3 v4 v5 M3 h) (by decide) (ls_s (ls_s (ls_s (ls_s (ls_s (ls_s (ls_n ls_0)))))))
      · rw [if_neg c] at h
        refine R_iload (pc := 54) d_X3_firstRoom_54 rfl ?_
        refine R_iload (pc := 56) d_X3_firstRoom_56 rfl ?_
        refine R_icmp_ge (pc := 58) (tgt := 68) d_X3_firstRoom_58 (by decide) (fun c => ?_) (fun c => ?_)
        · rw [if_pos c] at h
          exact WP_sub (B_X3_firstRoom_68 Q (T_X3_firstRoom_9 Q n) hκ9 v0 v1 v2 v3 v4 v5 M3 h) (by decide) (ls_s (ls_s (ls_s (ls_s (ls_s (ls_s (ls_n ls_0)))))))
        · rw [if_neg c] at h
          refine R_iload (pc := 61) d_X3_firstRoom_61 rfl ?_
          refine R_istore (pc := 63) (L' := [some (.ref (g.1 + v0)), some (.int v1), some (.int v2), some (.int v3), some (.int x9), some (.int v5), some (.int x9)]) d_X3_firstRoom_63 (by decide) rfl ?_
          refine R_iload (pc := 65) d_X3_firstRoom_65 rfl ?_
          refine R_istore_n (pc := 67) (L' := [some (.ref (g.1 + v0)), some (.int v1), some (.int v2), some (.int v5), some (.int x9), some (.int v5), some (.int x9)]) d_X3_firstRoom_67 rfl (by decide) rfl ?_
          exact WP_sub (B_X3_firstRoom_68 Q (T_X3_firstRoom_9 Q n) hκ9 v0 v1 v2 v5 x9 v5 M3 h) (by decide) (ls_s (ls_s (ls_s (ls_s (ls_s (ls_s (ls_n ls_0)))))))
def T_X3_firstRoom (Q : Int32 → Mem → Prop) (v0 : Nat) (v1 : Int32) (v2 : Int32) (M : Mem) : Prop := (∃ N : Nat, T_X3_firstRoom_9 Q N v0 v1 v2 (-1) 2147483647 0 M)
set_option maxRecDepth 100000 in
set_option maxHeartbeats 4000000 in
theorem c_X3_firstRoom {g : GG} (v0 : Nat) (v1 : Int32) (v2 : Int32) (M : Mem) (Q : Int32 → Mem → Prop) (h : T_X3_firstRoom Q v0 v1 v2 M) : CT g 10 mX3_firstRoom [.ref (g.1 + v0), .int v1, .int v2] M 0 (oI Q noX) := by
  refine CT_of (L := [some (.ref (g.1 + v0)), some (.int v1), some (.int v2), none, none, none, none]) (by decide) rfl (Nat.le_of_ble_eq_true rfl) (ro_I rfl) rfl ?_
  unfold T_X3_firstRoom at h
  refine R_iconst (pc := 0) (v := (-1)) d_X3_firstRoom_0 (by decide) ?_
  refine R_istore_n (pc := 1) (L' := [some (.ref (g.1 + v0)), some (.int v1), some (.int v2), some (.int (-1)), none, none, none]) d_X3_firstRoom_1 rfl (by decide) rfl ?_
  refine R_ldc (pc := 2) rfl cst_RX3_84 d_X3_firstRoom_2 ?_
  refine R_istore (pc := 4) (L' := [some (.ref (g.1 + v0)), some (.int v1), some (.int v2), some (.int (-1)), some (.int 2147483647), none, none]) d_X3_firstRoom_4 (by decide) rfl ?_
  refine R_iconst (pc := 6) (v := 0) d_X3_firstRoom_6 (by decide) ?_
  refine R_istore (pc := 7) (L' := [some (.ref (g.1 + v0)), some (.int v1), some (.int v2), some (.int (-1)), some (.int 2147483647), some (.int 0), none]) d_X3_firstRoom_7 (by decide) rfl ?_
  obtain ⟨N, h⟩ := h
  exact WP_sub (B_X3_firstRoom_9 Q N v0 v1 v2 (-1) 2147483647 0 M h) (by decide) (ls_s (ls_s (ls_s (ls_s (ls_s (ls_s (ls_n ls_0)))))))
