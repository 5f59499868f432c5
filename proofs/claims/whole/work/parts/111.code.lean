/-! X7_arePair -/
theorem d_X7_arePair_0 : decode mX7_arePair.2.1 0 = .ok (.iconst 0, 1) := by decide +kernel
theorem d_X7_arePair_1 : decode mX7_arePair.2.1 1 = .ok (.istore 4, 2) := by decide +kernel
theorem d_X7_arePair_3 : decode mX7_arePair.2.1 3 = .ok (.iconst 0, 1) := by decide +kernel
theorem d_X7_arePair_4 : decode mX7_arePair.2.1 4 = .ok (.istore 5, 2) := by decide +kernel
theorem d_X7_arePair_6 : decode mX7_arePair.2.1 6 = .ok (.iload 5, 2) := by decide +kernel
theorem d_X7_arePair_8 : decode mX7_arePair.2.1 8 = .ok (.aload_n 0, 1) := by decide +kernel
theorem d_X7_arePair_9 : decode mX7_arePair.2.1 9 = .ok (.getfield 7, 3) := by decide +kernel
theorem d_X7_arePair_12 : decode mX7_arePair.2.1 12 = .ok (.iconst 5, 1) := by decide +kernel
theorem d_X7_arePair_13 : decode mX7_arePair.2.1 13 = .ok (.iaload, 1) := by decide +kernel
theorem d_X7_arePair_14 : decode mX7_arePair.2.1 14 = .ok (.if_icmp .ge 131, 3) := by decide +kernel
theorem d_X7_arePair_17 : decode mX7_arePair.2.1 17 = .ok (.sipush 438, 3) := by decide +kernel
theorem d_X7_arePair_20 : decode mX7_arePair.2.1 20 = .ok (.iconst 5, 1) := by decide +kernel
theorem d_X7_arePair_21 : decode mX7_arePair.2.1 21 = .ok (.iload 5, 2) := by decide +kernel
theorem d_X7_arePair_23 : decode mX7_arePair.2.1 23 = .ok (.imul, 1) := by decide +kernel
theorem d_X7_arePair_24 : decode mX7_arePair.2.1 24 = .ok (.iadd, 1) := by decide +kernel
theorem d_X7_arePair_25 : decode mX7_arePair.2.1 25 = .ok (.istore 6, 2) := by decide +kernel
theorem d_X7_arePair_27 : decode mX7_arePair.2.1 27 = .ok (.aload_n 0, 1) := by decide +kernel
theorem d_X7_arePair_28 : decode mX7_arePair.2.1 28 = .ok (.getfield 7, 3) := by decide +kernel
theorem d_X7_arePair_31 : decode mX7_arePair.2.1 31 = .ok (.iload 6, 2) := by decide +kernel
theorem d_X7_arePair_33 : decode mX7_arePair.2.1 33 = .ok (.iconst 1, 1) := by decide +kernel
theorem d_X7_arePair_34 : decode mX7_arePair.2.1 34 = .ok (.iadd, 1) := by decide +kernel
theorem d_X7_arePair_35 : decode mX7_arePair.2.1 35 = .ok (.iaload, 1) := by decide +kernel
theorem d_X7_arePair_36 : decode mX7_arePair.2.1 36 = .ok (.iload_n 1, 1) := by decide +kernel
theorem d_X7_arePair_37 : decode mX7_arePair.2.1 37 = .ok (.if_icmp .ne 16, 3) := by decide +kernel
theorem d_X7_arePair_40 : decode mX7_arePair.2.1 40 = .ok (.aload_n 0, 1) := by decide +kernel
theorem d_X7_arePair_41 : decode mX7_arePair.2.1 41 = .ok (.getfield 7, 3) := by decide +kernel
theorem d_X7_arePair_44 : decode mX7_arePair.2.1 44 = .ok (.iload 6, 2) := by decide +kernel
theorem d_X7_arePair_46 : decode mX7_arePair.2.1 46 = .ok (.iconst 2, 1) := by decide +kernel
theorem d_X7_arePair_47 : decode mX7_arePair.2.1 47 = .ok (.iadd, 1) := by decide +kernel
theorem d_X7_arePair_48 : decode mX7_arePair.2.1 48 = .ok (.iaload, 1) := by decide +kernel
theorem d_X7_arePair_49 : decode mX7_arePair.2.1 49 = .ok (.iload_n 2, 1) := by decide +kernel
theorem d_X7_arePair_50 : decode mX7_arePair.2.1 50 = .ok (.if_icmp .eq 29, 3) := by decide +kernel
theorem d_X7_arePair_53 : decode mX7_arePair.2.1 53 = .ok (.aload_n 0, 1) := by decide +kernel
theorem d_X7_arePair_54 : decode mX7_arePair.2.1 54 = .ok (.getfield 7, 3) := by decide +kernel
theorem d_X7_arePair_57 : decode mX7_arePair.2.1 57 = .ok (.iload 6, 2) := by decide +kernel
theorem d_X7_arePair_59 : decode mX7_arePair.2.1 59 = .ok (.iconst 1, 1) := by decide +kernel
theorem d_X7_arePair_60 : decode mX7_arePair.2.1 60 = .ok (.iadd, 1) := by decide +kernel
theorem d_X7_arePair_61 : decode mX7_arePair.2.1 61 = .ok (.iaload, 1) := by decide +kernel
theorem d_X7_arePair_62 : decode mX7_arePair.2.1 62 = .ok (.iload_n 2, 1) := by decide +kernel
theorem d_X7_arePair_63 : decode mX7_arePair.2.1 63 = .ok (.if_icmp .ne 20, 3) := by decide +kernel
theorem d_X7_arePair_66 : decode mX7_arePair.2.1 66 = .ok (.aload_n 0, 1) := by decide +kernel
theorem d_X7_arePair_67 : decode mX7_arePair.2.1 67 = .ok (.getfield 7, 3) := by decide +kernel
theorem d_X7_arePair_70 : decode mX7_arePair.2.1 70 = .ok (.iload 6, 2) := by decide +kernel
theorem d_X7_arePair_72 : decode mX7_arePair.2.1 72 = .ok (.iconst 2, 1) := by decide +kernel
theorem d_X7_arePair_73 : decode mX7_arePair.2.1 73 = .ok (.iadd, 1) := by decide +kernel
theorem d_X7_arePair_74 : decode mX7_arePair.2.1 74 = .ok (.iaload, 1) := by decide +kernel
theorem d_X7_arePair_75 : decode mX7_arePair.2.1 75 = .ok (.iload_n 1, 1) := by decide +kernel
theorem d_X7_arePair_76 : decode mX7_arePair.2.1 76 = .ok (.if_icmp .ne 7, 3) := by decide +kernel
theorem d_X7_arePair_79 : decode mX7_arePair.2.1 79 = .ok (.iconst 1, 1) := by decide +kernel
theorem d_X7_arePair_80 : decode mX7_arePair.2.1 80 = .ok (.goto 4, 3) := by decide +kernel
theorem d_X7_arePair_83 : decode mX7_arePair.2.1 83 = .ok (.iconst 0, 1) := by decide +kernel
theorem d_X7_arePair_84 : decode mX7_arePair.2.1 84 = .ok (.istore 7, 2) := by decide +kernel
theorem d_X7_arePair_86 : decode mX7_arePair.2.1 86 = .ok (.iload 4, 2) := by decide +kernel
theorem d_X7_arePair_88 : decode mX7_arePair.2.1 88 = .ok (.ifCond .ne 44, 3) := by decide +kernel
theorem d_X7_arePair_91 : decode mX7_arePair.2.1 91 = .ok (.aload_n 0, 1) := by decide +kernel
theorem d_X7_arePair_92 : decode mX7_arePair.2.1 92 = .ok (.getfield 7, 3) := by decide +kernel
theorem d_X7_arePair_95 : decode mX7_arePair.2.1 95 = .ok (.iload 6, 2) := by decide +kernel
theorem d_X7_arePair_97 : decode mX7_arePair.2.1 97 = .ok (.iaload, 1) := by decide +kernel
theorem d_X7_arePair_98 : decode mX7_arePair.2.1 98 = .ok (.iconst 2, 1) := by decide +kernel
theorem d_X7_arePair_99 : decode mX7_arePair.2.1 99 = .ok (.if_icmp .ne 37, 3) := by decide +kernel
theorem d_X7_arePair_102 : decode mX7_arePair.2.1 102 = .ok (.iload 7, 2) := by decide +kernel
theorem d_X7_arePair_104 : decode mX7_arePair.2.1 104 = .ok (.ifCond .eq 32, 3) := by decide +kernel
theorem d_X7_arePair_107 : decode mX7_arePair.2.1 107 = .ok (.iload_n 3, 1) := by decide +kernel
theorem d_X7_arePair_108 : decode mX7_arePair.2.1 108 = .ok (.aload_n 0, 1) := by decide +kernel
theorem d_X7_arePair_109 : decode mX7_arePair.2.1 109 = .ok (.getfield 7, 3) := by decide +kernel
theorem d_X7_arePair_112 : decode mX7_arePair.2.1 112 = .ok (.iload 6, 2) := by decide +kernel
theorem d_X7_arePair_114 : decode mX7_arePair.2.1 114 = .ok (.iconst 3, 1) := by decide +kernel
theorem d_X7_arePair_115 : decode mX7_arePair.2.1 115 = .ok (.iadd, 1) := by decide +kernel
theorem d_X7_arePair_116 : decode mX7_arePair.2.1 116 = .ok (.iaload, 1) := by decide +kernel
theorem d_X7_arePair_117 : decode mX7_arePair.2.1 117 = .ok (.aload_n 0, 1) := by decide +kernel
theorem d_X7_arePair_118 : decode mX7_arePair.2.1 118 = .ok (.getfield 7, 3) := by decide +kernel
theorem d_X7_arePair_121 : decode mX7_arePair.2.1 121 = .ok (.iload 6, 2) := by decide +kernel
theorem d_X7_arePair_123 : decode mX7_arePair.2.1 123 = .ok (.iconst 4, 1) := by decide +kernel
theorem d_X7_arePair_124 : decode mX7_arePair.2.1 124 = .ok (.iadd, 1) := by decide +kernel
theorem d_X7_arePair_125 : decode mX7_arePair.2.1 125 = .ok (.iaload, 1) := by decide +kernel
theorem d_X7_arePair_126 : decode mX7_arePair.2.1 126 = .ok (.invokestatic 41, 3) := by decide +kernel
theorem d_X7_arePair_129 : decode mX7_arePair.2.1 129 = .ok (.ifCond .eq 7, 3) := by decide +kernel
theorem d_X7_arePair_132 : decode mX7_arePair.2.1 132 = .ok (.iconst 1, 1) := by decide +kernel
theorem d_X7_arePair_133 : decode mX7_arePair.2.1 133 = .ok (.goto 4, 3) := by decide +kernel
theorem d_X7_arePair_136 : decode mX7_arePair.2.1 136 = .ok (.iconst 0, 1) := by decide +kernel
theorem d_X7_arePair_137 : decode mX7_arePair.2.1 137 = .ok (.istore 4, 2) := by decide +kernel
theorem d_X7_arePair_139 : decode mX7_arePair.2.1 139 = .ok (.iinc 5 1, 3) := by decide +kernel
theorem d_X7_arePair_142 : decode mX7_arePair.2.1 142 = .ok (.goto (-136), 3) := by decide +kernel
theorem d_X7_arePair_145 : decode mX7_arePair.2.1 145 = .ok (.iload 4, 2) := by decide +kernel
theorem d_X7_arePair_147 : decode mX7_arePair.2.1 147 = .ok (.ireturn, 1) := by decide +kernel
def T_X7_arePair_137 (κ6 : Nat → Int32 → Int32 → Int32 → Int32 → Int32 → Mem → Prop) (Q : Int32 → Mem → Prop) (v0 : Nat) (v1 : Int32) (v2 : Int32) (v3 : Int32) (v5 : Int32) (s0 : Int32) (M : Mem) : Prop := ∀ x1 : Int32, x1 = v5 + 1 → κ6 v0 v1 v2 v3 s0 x1 M
set_option maxRecDepth 100000 in
set_option maxHeartbeats 4000000 in
theorem B_X7_arePair_137 {g : GG} (Q : Int32 → Mem → Prop) (κ6 : Nat → Int32 → Int32 → Int32 → Int32 → Int32 → Mem → Prop) (hκ6 : ∀ (v0 : Nat) (v1 : Int32) (v2 : Int32) (v3 : Int32) (v4 : Int32) (v5 : Int32) (M : Mem), κ6 v0 v1 v2 v3 v4 v5 M → WP g 10 mX7_arePair 6 [some (.ref (g.1 + v0)), some (.int v1), some (.int v2), some (.int v3), some (.int v4), some (.int v5), none, none] [] M 0 (oZ Q noX)) (v0 : Nat) (v1 : Int32) (v2 : Int32) (v3 : Int32) (v5 : Int32) (s0 : Int32) (M : Mem) (h : T_X7_arePair_137 κ6 Q v0 v1 v2 v3 v5 s0 M) : WP g 10 mX7_arePair 137 [some (.ref (g.1 + v0)), some (.int v1), some (.int v2), some (.int v3), none, some (.int v5), none, none] [.int s0] M 0 (oZ Q noX) := by
  unfold T_X7_arePair_137 at h
  refine R_istore (pc := 137) (L' := [some (.ref (g.1 + v0)), some (.int v1), some (.int v2), some (.int v3), some (.int s0), some (.int v5), none, none]) d_X7_arePair_137 (by decide) rfl ?_
  obtain ⟨x1, ex1⟩ : ∃ z : Int32, z = v5 + 1 := ⟨_, rfl⟩
  have h := h x1 ex1
  refine R_iinc (pc := 139) (v := x1) (L' := [some (.ref (g.1 + v0)), some (.int v1), some (.int v2), some (.int v3), some (.int s0), some (.int x1), none, none]) d_X7_arePair_139 rfl (by rw [ex1]; rfl) (by decide) rfl ?_
  refine R_goto (pc := 142) (tgt := 6) d_X7_arePair_142 (by decide) ?_
  exact WP_sub (hκ6 v0 v1 v2 v3 s0 x1 M h) (by decide) (ls_s (ls_s (ls_s (ls_s (ls_s (ls_s (ls_n (ls_n ls_0))))))))
def T_X7_arePair_136 (κ6 : Nat → Int32 → Int32 → Int32 → Int32 → Int32 → Mem → Prop) (Q : Int32 → Mem → Prop) (v0 : Nat) (v1 : Int32) (v2 : Int32) (v3 : Int32) (v5 : Int32) (M : Mem) : Prop := T_X7_arePair_137 κ6 Q v0 v1 v2 v3 v5 0 M
set_option maxRecDepth 100000 in
set_option maxHeartbeats 4000000 in
theorem B_X7_arePair_136 {g : GG} (Q : Int32 → Mem → Prop) (κ6 : Nat → Int32 → Int32 → Int32 → Int32 → Int32 → Mem → Prop) (hκ6 : ∀ (v0 : Nat) (v1 : Int32) (v2 : Int32) (v3 : Int32) (v4 : Int32) (v5 : Int32) (M : Mem), κ6 v0 v1 v2 v3 v4 v5 M → WP g 10 mX7_arePair 6 [some (.ref (g.1 + v0)), some (.int v1), some (.int v2), some (.int v3), some (.int v4), some (.int v5), none, none] [] M 0 (oZ Q noX)) (v0 : Nat) (v1 : Int32) (v2 : Int32) (v3 : Int32) (v5 : Int32) (M : Mem) (h : T_X7_arePair_136 κ6 Q v0 v1 v2 v3 v5 M) : WP g 10 mX7_arePair 136 [some (.ref (g.1 + v0)), some (.int v1), some (.int v2), some (.int v3), none, some (.int v5), none, none] [] M 0 (oZ Q noX) := by
  unfold T_X7_arePair_136 at h
  refine R_iconst (pc := 136) (v := 0) d_X7_arePair_136 (by decide) ?_
  exact WP_sub (B_X7_arePair_137 Q κ6 hκ6 v0 v1 v2 v3 v5 0 M h) (by decide) (ls_s (ls_s (ls_s (ls_s (ls_n (ls_s (ls_n (ls_n ls_0))))))))
def T_X7_arePair_132 (κ6 : Nat → Int32 → Int32 → Int32 → Int32 → Int32 → Mem → Prop) (Q : Int32 → Mem → Prop) (v0 : Nat) (v1 : Int32) (v2 : Int32) (v3 : Int32) (v5 : Int32) (M : Mem) : Prop := T_X7_arePair_137 κ6 Q v0 v1 v2 v3 v5 1 M
set_option maxRecDepth 100000 in
set_option maxHeartbeats 4000000 in
theorem B_X7_arePair_132 {g : GG} (Q : Int32 → Mem → Prop) (κ6 : Nat → Int32 → Int32 → Int32 → Int32 → Int32 → Mem → Prop) (hκ6 : ∀ (v0 : Nat) (v1 : Int32) (v2 : Int32) (v3 : Int32) (v4 : Int32) (v5 : Int32) (M : Mem), κ6 v0 v1 v2 v3 v4 v5 M → WP g 10 mX7_arePair 6 [some (.ref (g.1 + v0)), some (.int v1), some (.int v2), some (.int v3), some (.int v4), some (.int v5), none, none] [] M 0 (oZ Q noX)) (v0 : Nat) (v1 : Int32) (v2 : Int32) (v3 : Int32) (v5 : Int32) (M : Mem) (h : T_X7_arePair_132 κ6 Q v0 v1 v2 v3 v5 M) : WP g 10 mX7_arePair 132 [some (.ref (g.1 + v0)), some (.int v1), some (.int v2), some (.int v3), none, some (.int v5), none, none] [] M 0 (oZ Q noX) := by
  unfold T_X7_arePair_132 at h
  refine R_iconst (pc := 132) (v := 1) d_X7_arePair_132 (by decide) ?_
  refine R_goto (pc := 133) (tgt := 137) d_X7_arePair_133 (by decide) ?_
  exact WP_sub (B_X7_arePair_137 Q κ6 hκ6 v0 v1 v2 v3 v5 1 M h) (by decide) (ls_s (ls_s (ls_s (ls_s (ls_n (ls_s (ls_n (ls_n ls_0))))))))
def T_X7_arePair_84 (κ6 : Nat → Int32 → Int32 → Int32 → Int32 → Int32 → Mem → Prop) (Q : Int32 → Mem → Prop) (v0 : Nat) (v1 : Int32) (v2 : Int32) (v3 : Int32) (v4 : Int32) (v5 : Int32) (v6 : Int32) (s0 : Int32) (M : Mem) : Prop := if v4 = 0 then ((kd v0 = 7) ∧ (kd (rf v0 1) = 9) ∧ (vp_in v6 (ln (rf v0 1))) ∧ if (M.1 (rf v0 1) (Int32.toNatClampNeg v6)) = (2 : Int32) then (if s0 = 0 then (T_X7_arePair_136 κ6 Q v0 v1 v2 v3 v5 M) else ((vp_in (v6 + 3) (ln (rf v0 1))) ∧ (vp_in (v6 + 4) (ln (rf v0 1))) ∧ T_X7_in (fun y7 M6 => if y7 = 0 then (T_X7_arePair_136 κ6 Q v0 v1 v2 v3 v5 M6) else (T_X7_arePair_132 κ6 Q v0 v1 v2 v3 v5 M6))  v3 (M.1 (rf v0 1) (Int32.toNatClampNeg (v6 + 3))) (M.1 (rf v0 1) (Int32.toNatClampNeg (v6 + 4))) M)) else (T_X7_arePair_136 κ6 Q v0 v1 v2 v3 v5 M)) else (T_X7_arePair_132 κ6 Q v0 v1 v2 v3 v5 M)
set_option maxRecDepth 100000 in
set_option maxHeartbeats 4000000 in
theorem B_X7_arePair_84 {g : GG} (Q : Int32 → Mem → Prop) (κ6 : Nat → Int32 → Int32 → Int32 → Int32 → Int32 → Mem → Prop) (hκ6 : ∀ (v0 : Nat) (v1 : Int32) (v2 : Int32) (v3 : Int32) (v4 : Int32) (v5 : Int32) (M : Mem), κ6 v0 v1 v2 v3 v4 v5 M → WP g 10 mX7_arePair 6 [some (.ref (g.1 + v0)), some (.int v1), some (.int v2), some (.int v3), some (.int v4), some (.int v5), none, none] [] M 0 (oZ Q noX)) (v0 : Nat) (v1 : Int32) (v2 : Int32) (v3 : Int32) (v4 : Int32) (v5 : Int32) (v6 : Int32) (s0 : Int32) (M : Mem) (h : T_X7_arePair_84 κ6 Q v0 v1 v2 v3 v4 v5 v6 s0 M) : WP g 10 mX7_arePair 84 [some (.ref (g.1 + v0)), some (.int v1), some (.int v2), some (.int v3), some (.int v4), some (.int v5), some (.int v6), none] [.int s0] M 0 (oZ Q noX) := by
  unfold T_X7_arePair_84 at h
  refine R_istore (pc := 84) (L' := [some (.ref (g.1 + v0)), some (.int v1), some (.int v2), some (.int v3), some (.int v4), some (.int v5), some (.int v6), some (.int s0)]) d_X7_arePair_84 (by decide) rfl ?_
  refine R_iload (pc := 86) d_X7_arePair_86 rfl ?_
  refine R_if_ne (pc := 88) (tgt := 132) d_X7_arePair_88 (by decide) (fun c => ?_) (fun c => ?_)
  · rw [if_neg c] at h
    exact WP_sub (B_X7_arePair_132 Q κ6 hκ6 v0 v1 v2 v3 v5 M h) (by decide) (ls_s (ls_s (ls_s (ls_s (ls_n (ls_s (ls_n (ls_n ls_0))))))))
  · rw [if_pos c] at h
    refine R_aload_n (pc := 91) d_X7_arePair_91 rfl rfl ?_
    obtain ⟨k1, h⟩ := h
    refine R_getR (pc := 92) fld_RX7_7 rfl rfl k1 d_X7_arePair_92 ?_
    refine R_iload (pc := 95) d_X7_arePair_95 rfl ?_
    obtain ⟨k2, h⟩ := h
    obtain ⟨k3, h⟩ := h
    refine R_iald (pc := 97) k2 k3 d_X7_arePair_97 ?_
    refine R_iconst (pc := 98) (v := 2) d_X7_arePair_98 (by decide) ?_
    refine R_icmp_ne (pc := 99) (tgt := 136) d_X7_arePair_99 (by decide) (fun c => ?_) (fun c => ?_)
    · rw [if_neg c] at h
      exact WP_sub (B_X7_arePair_136 Q κ6 hκ6 v0 v1 v2 v3 v5 M h) (by decide) (ls_s (ls_s (ls_s (ls_s (ls_n (ls_s (ls_n (ls_n ls_0))))))))
    · rw [if_pos c] at h
      refine R_iload (pc := 102) d_X7_arePair_102 rfl ?_
      refine R_if_eq (pc := 104) (tgt := 136) d_X7_arePair_104 (by decide) (fun c => ?_) (fun c => ?_)
      · rw [if_pos c] at h
        exact WP_sub (B_X7_arePair_136 Q κ6 hκ6 v0 v1 v2 v3 v5 M h) (by decide) (ls_s (ls_s (ls_s (ls_s (ls_n (ls_s (ls_n (ls_n ls_0))))))))
      · rw [if_neg c] at h
        refine R_iload_n (pc := 107) d_X7_arePair_107 rfl rfl ?_
        refine R_aload_n (pc := 108) d_X7_arePair_108 rfl rfl ?_
        refine R_getR (pc := 109) fld_RX7_7 rfl rfl k1 d_X7_arePair_109 ?_
        refine R_iload (pc := 112) d_X7_arePair_112 rfl ?_
        refine R_iconst (pc := 114) (v := 3) d_X7_arePair_114 (by decide) ?_
        refine R_iadd (pc := 115) d_X7_arePair_115 ?_
        obtain ⟨k4, h⟩ := h
        refine R_iald (pc := 116) k2 k4 d_X7_arePair_116 ?_
        refine R_aload_n (pc := 117) d_X7_arePair_117 rfl rfl ?_
        refine R_getR (pc := 118) fld_RX7_7 rfl rfl k1 d_X7_arePair_118 ?_
        refine R_iload (pc := 121) d_X7_arePair_121 rfl ?_
        refine R_iconst (pc := 123) (v := 4) d_X7_arePair_123 (by decide) ?_
        refine R_iadd (pc := 124) d_X7_arePair_124 ?_
        obtain ⟨k5, h⟩ := h
        refine R_iald (pc := 125) k2 k5 d_X7_arePair_125 ?_
        refine R_callS (pc := 126) (As := [.int v3, .int (M.1 (rf v0 1) (Int32.toNatClampNeg (v6 + 3))), .int (M.1 (rf v0 1) (Int32.toNatClampNeg (v6 + 4)))]) (rest := []) (c_X7_in (g := g) v3 (M.1 (rf v0 1) (Int32.toNatClampNeg (v6 + 3))) (M.1 (rf v0 1) (Int32.toNatClampNeg (v6 + 4))) M _ h) rfl rfl cal_RX7_41 sta_X7_in (by decide) (by decide) rfl rfl (Nat.le_of_ble_eq_true rfl) d_X7_arePair_126 (k_Z (fun y7 M6 h => ?_)) (fun _ _ h9 => False.elim h9)
        try dsimp only at h
        refine R_if_eq (pc := 129) (tgt := 136) d_X7_arePair_129 (by decide) (fun c => ?_) (fun c => ?_)
        · rw [if_pos c] at h
          exact WP_sub (B_X7_arePair_136 Q κ6 hκ6 v0 v1 v2 v3 v5 M6 h) (by decide) (ls_s (ls_s (ls_s (ls_s (ls_n (ls_s (ls_n (ls_n ls_0))))))))
        · rw [if_neg c] at h
          exact WP_sub (B_X7_arePair_132 Q κ6 hκ6 v0 v1 v2 v3 v5 M6 h) (by decide) (ls_s (ls_s (ls_s (ls_s (ls_n (ls_s (ls_n (ls_n ls_0))))))))
def T_X7_arePair_83 (κ6 : Nat → Int32 → Int32 → Int32 → Int32 → Int32 → Mem → Prop) (Q : Int32 → Mem → Prop) (v0 : Nat) (v1 : Int32) (v2 : Int32) (v3 : Int32) (v4 : Int32) (v5 : Int32) (v6 : Int32) (M : Mem) : Prop := T_X7_arePair_84 κ6 Q v0 v1 v2 v3 v4 v5 v6 0 M
set_option maxRecDepth 100000 in
set_option maxHeartbeats 4000000 in
theorem B_X7_arePair_83 {g : GG} (Q : Int32 → Mem → Prop) (κ6 : Nat → Int32 → Int32 → Int32 → Int32 → Int32 → Mem → Prop) (hκ6 : ∀ (v0 : Nat) (v1 : Int32) (v2 : Int32) (v3 : Int32) (v4 : Int32) (v5 : Int32) (M : Mem), κ6 v0 v1 v2 v3 v4 v5 M → WP g 10 mX7_arePair 6 [some (.ref (g.1 + v0)), some (.int v1), some (.int v2), some (.int v3), some (.int v4), some (.int v5), none, none] [] M 0 (oZ Q noX)) (v0 : Nat) (v1 : Int32) (v2 : Int32) (v3 : Int32) (v4 : Int32) (v5 : Int32) (v6 : Int32) (M : Mem) (h : T_X7_arePair_83 κ6 Q v0 v1 v2 v3 v4 v5 v6 M) : WP g 10 mX7_arePair 83 [some (.ref (g.1 + v0)), some (.int v1), some (.int v2), some (.int v3), some (.int v4), some (.int v5), some (.int v6), none] [] M 0 (oZ Q noX) := by
  unfold T_X7_arePair_83 at h
  refine R_iconst (pc := 83) (v := 0) d_X7_arePair_83 (by decide) ?_
  exact WP_sub (B_X7_arePair_84 Q κ6 hκ6 v0 v1 v2 v3 v4 v5 v6 0 M h) (by decide) (ls_s (ls_s (ls_s (ls_s (ls_s (ls_s (ls_s (ls_n ls_0))))))))
def T_X7_arePair_79 (κ6 : Nat → Int32 → Int32 → Int32 → Int32 → Int32 → Mem → Prop) (Q : Int32 → Mem → Prop) (v0 : Nat) (v1 : Int32) (v2 : Int32) (v3 : Int32) (v4 : Int32) (v5 : Int32) (v6 : Int32) (M : Mem) : Prop := T_X7_arePair_84 κ6 Q v0 v1 v2 v3 v4 v5 v6 1 M
set_option maxRecDepth 100000 in
set_option maxHeartbeats 4000000 in
theorem B_X7_arePair_79 {g : GG} (Q : Int32 → Mem → Prop) (κ6 : Nat → Int32 → Int32 → Int32 → Int32 → Int32 → Mem → Prop) (hκ6 : ∀ (v0 : Nat) (v1 : Int32) (v2 : Int32) (v3 : Int32) (v4 : Int32) (v5 : Int32) (M : Mem), κ6 v0 v1 v2 v3 v4 v5 M → WP g 10 mX7_arePair 6 [some (.ref (g.1 + v0)), some (.int v1), some (.int v2), some (.int v3), some (.int v4), some (.int v5), none, none] [] M 0 (oZ Q noX)) (v0 : Nat) (v1 : Int32) (v2 : Int32) (v3 : Int32) (v4 : Int32) (v5 : Int32) (v6 : Int32) (M : Mem) (h : T_X7_arePair_79 κ6 Q v0 v1 v2 v3 v4 v5 v6 M) : WP g 10 mX7_arePair 79 [some (.ref (g.1 + v0)), some (.int v1), some (.int v2), some (.int v3), some (.int v4), some (.int v5), some (.int v6), none] [] M 0 (oZ Q noX) := by
  unfold T_X7_arePair_79 at h
  refine R_iconst (pc := 79) (v := 1) d_X7_arePair_79 (by decide) ?_
  refine R_goto (pc := 80) (tgt := 84) d_X7_arePair_80 (by decide) ?_
  exact WP_sub (B_X7_arePair_84 Q κ6 hκ6 v0 v1 v2 v3 v4 v5 v6 1 M h) (by decide) (ls_s (ls_s (ls_s (ls_s (ls_s (ls_s (ls_s (ls_n ls_0))))))))
def T_X7_arePair_53 (κ6 : Nat → Int32 → Int32 → Int32 → Int32 → Int32 → Mem → Prop) (Q : Int32 → Mem → Prop) (v0 : Nat) (v1 : Int32) (v2 : Int32) (v3 : Int32) (v4 : Int32) (v5 : Int32) (v6 : Int32) (M : Mem) : Prop := (kd v0 = 7) ∧ (kd (rf v0 1) = 9) ∧ (vp_in (v6 + 1) (ln (rf v0 1))) ∧ if (M.1 (rf v0 1) (Int32.toNatClampNeg (v6 + 1))) = v2 then ((vp_in (v6 + 2) (ln (rf v0 1))) ∧ if (M.1 (rf v0 1) (Int32.toNatClampNeg (v6 + 2))) = v1 then (T_X7_arePair_79 κ6 Q v0 v1 v2 v3 v4 v5 v6 M) else (T_X7_arePair_83 κ6 Q v0 v1 v2 v3 v4 v5 v6 M)) else (T_X7_arePair_83 κ6 Q v0 v1 v2 v3 v4 v5 v6 M)
set_option maxRecDepth 100000 in
set_option maxHeartbeats 4000000 in
theorem B_X7_arePair_53 {g : GG} (Q : Int32 → Mem → Prop) (κ6 : Nat → Int32 → Int32 → Int32 → Int32 → Int32 → Mem → Prop) (hκ6 : ∀ (v0 : Nat) (v1 : Int32) (v2 : Int32) (v3 : Int32) (v4 : Int32) (v5 : Int32) (M : Mem), κ6 v0 v1 v2 v3 v4 v5 M → WP g 10 mX7_arePair 6 [some (.ref (g.1 + v0)), some (.int v1), some (.int v2), some (.int v3), some (.int v4), some (.int v5), none, none] [] M 0 (oZ Q noX)) (v0 : Nat) (v1 : Int32) (v2 : Int32) (v3 : Int32) (v4 : Int32) (v5 : Int32) (v6 : Int32) (M : Mem) (h : T_X7_arePair_53 κ6 Q v0 v1 v2 v3 v4 v5 v6 M) : WP g 10 mX7_arePair 53 [some (.ref (g.1 + v0)), some (.int v1), some (.int v2), some (.int v3), some (.int v4), some (.int v5), some (.int v6), none] [] M 0 (oZ Q noX) := by
  unfold T_X7_arePair_53 at h
  refine R_aload_n (pc := 53) d_X7_arePair_53 rfl rfl ?_
  obtain ⟨k1, h⟩ := h
  refine R_getR (pc := 54) fld_RX7_7 rfl rfl k1 d_X7_arePair_54 ?_
  refine R_iload (pc := 57) d_X7_arePair_57 rfl ?_
  refine R_iconst (pc := 59) (v := 1) d_X7_arePair_59 (by decide) ?_
  refine R_iadd (pc := 60) d_X7_arePair_60 ?_
  obtain ⟨k2, h⟩ := h
  obtain ⟨k3, h⟩ := h
  refine R_iald (pc := 61) k2 k3 d_X7_arePair_61 ?_
  refine R_iload_n (pc := 62) d_X7_arePair_62 rfl rfl ?_
  refine R_icmp_ne (pc := 63) (tgt := 83) d_X7_arePair_63 (by decide) (fun c => ?_) (fun c => ?_)
  · rw [if_neg c] at h
    exact WP_sub (B_X7_arePair_83 Q κ6 hκ6 v0 v1 v2 v3 v4 v5 v6 M h) (by decide) (ls_s (ls_s (ls_s (ls_s (ls_s (ls_s (ls_s (ls_n ls_0))))))))
  · rw [if_pos c] at h
    refine R_aload_n (pc := 66) d_X7_arePair_66 rfl rfl ?_
    refine R_getR (pc := 67) fld_RX7_7 rfl rfl k1 d_X7_arePair_67 ?_
    refine R_iload (pc := 70) d_X7_arePair_70 rfl ?_
    refine R_iconst (pc := 72) (v := 2) d_X7_arePair_72 (by decide) ?_
    refine R_iadd (pc := 73) d_X7_arePair_73 ?_
    obtain ⟨k4, h⟩ := h
    refine R_iald (pc := 74) k2 k4 d_X7_arePair_74 ?_
    refine R_iload_n (pc := 75) d_X7_arePair_75 rfl rfl ?_
    refine R_icmp_ne (pc := 76) (tgt := 83) d_X7_arePair_76 (by decide) (fun c => ?_) (fun c => ?_)
    · rw [if_neg c] at h
      exact WP_sub (B_X7_arePair_83 Q κ6 hκ6 v0 v1 v2 v3 v4 v5 v6 M h) (by decide) (ls_s (ls_s (ls_s (ls_s (ls_s (ls_s (ls_s (ls_n ls_0))))))))
    · rw [if_pos c] at h
      exact WP_sub (B_X7_arePair_79 Q κ6 hκ6 v0 v1 v2 v3 v4 v5 v6 M h) (by decide) (ls_s (ls_s (ls_s (ls_s (ls_s (ls_s (ls_s (ls_n ls_0))))))))
def T_X7_arePair_6 (Q : Int32 → Mem → Prop) : Nat → Nat → Int32 → Int32 → Int32 → Int32 → Int32 → Mem → Prop
  | 0, _, _, _, _, _, _, _ => False
  | n + 1, v0, v1, v2, v3, v4, v5, M => (kd v0 = 7) ∧ (kd (rf v0 1) = 9) ∧ (vp_in 5 (ln (rf v0 1))) ∧ if (M.1 (rf v0 1) (Int32.toNatClampNeg 5)) ≤ v5 then (((v4 : Int32) = 0 ∨ (v4 : Int32) = 1) ∧ Q v4 M) else (∀ x4 : Int32, x4 = 438 + (5 * v5) → (vp_in (x4 + 1) (ln (rf v0 1))) ∧ if (M.1 (rf v0 1) (Int32.toNatClampNeg (x4 + 1))) = v1 then ((vp_in (x4 + 2) (ln (rf v0 1))) ∧ if (M.1 (rf v0 1) (Int32.toNatClampNeg (x4 + 2))) = v2 then (T_X7_arePair_79 (T_X7_arePair_6 Q n) Q v0 v1 v2 v3 v4 v5 x4 M) else (T_X7_arePair_53 (T_X7_arePair_6 Q n) Q v0 v1 v2 v3 v4 v5 x4 M)) else (T_X7_arePair_53 (T_X7_arePair_6 Q n) Q v0 v1 v2 v3 v4 v5 x4 M))
set_option maxRecDepth 100000 in
set_option maxHeartbeats 4000000 in
theorem B_X7_arePair_6 {g : GG} (Q : Int32 → Mem → Prop) : ∀ (n : Nat) (v0 : Nat) (v1 : Int32) (v2 : Int32) (v3 : Int32) (v4 : Int32) (v5 : Int32) (M : Mem), T_X7_arePair_6 Q n v0 v1 v2 v3 v4 v5 M → WP g 10 mX7_arePair 6 [some (.ref (g.1 + v0)), some (.int v1), some (.int v2), some (.int v3), some (.int v4), some (.int v5), none, none] [] M 0 (oZ Q noX) := by
  intro n
  induction n with
  | zero => intro v0 v1 v2 v3 v4 v5 M h; exact h.elim
  | succ n hκ6 =>
    intro v0 v1 v2 v3 v4 v5 M h
    unfold T_X7_arePair_6 at h
    refine R_iload (pc := 6) d_X7_arePair_6 rfl ?_
    refine R_aload_n (pc := 8) d_X7_arePair_8 rfl rfl ?_
    obtain ⟨k1, h⟩ := h
    refine R_getR (pc := 9) fld_RX7_7 rfl rfl k1 d_X7_arePair_9 ?_
    refine R_iconst (pc := 12) (v := 5) d_X7_arePair_12 (by decide) ?_
    obtain ⟨k2, h⟩ := h
    obtain ⟨k3, h⟩ := h
    refine R_iald (pc := 13) k2 k3 d_X7_arePair_13 ?_
    refine R_icmp_ge (pc := 14) (tgt := 145) d_X7_arePair_14 (by decide) (fun c => ?_) (fun c => ?_)
    · rw [if_pos c] at h
      refine R_iload (pc := 145) d_X7_arePair_145 rfl ?_
      exact R_retv (pc := 147) d_X7_arePair_147 h
    · rw [if_neg c] at h
      refine R_sipush (pc := 17) (v := 438) d_X7_arePair_17 (by decide) ?_
      refine R_iconst (pc := 20) (v := 5) d_X7_arePair_20 (by decide) ?_
      refine R_iload (pc := 21) d_X7_arePair_21 rfl ?_
      refine R_imul (pc := 23) d_X7_arePair_23 ?_
      refine R_iadd (pc := 24) d_X7_arePair_24 ?_
      refine N_i (fun x4 ex4 => ?_)
      have h := h x4 ex4
      refine R_istore (pc := 25) (L' := [some (.ref (g.1 + v0)), some (.int v1), some (.int v2), some (.int v3), some (.int v4), some (.int v5), some (.int x4), none]) d_X7_arePair_25 (by decide) rfl ?_
      refine R_aload_n (pc := 27) d_X7_arePair_27 rfl rfl ?_
      refine R_getR (pc := 28) fld_RX7_7 rfl rfl k1 d_X7_arePair_28 ?_
      refine R_iload (pc := 31) d_X7_arePair_31 rfl ?_
      refine R_iconst (pc := 33) (v := 1) d_X7_arePair_33 (by decide) ?_
      refine R_iadd (pc := 34) d_X7_arePair_34 ?_
      obtain ⟨k5, h⟩ := h
      refine R_iald (pc := 35) k2 k5 d_X7_arePair_35 ?_
      refine R_iload_n (pc := 36) d_X7_arePair_36 rfl rfl ?_
      refine R_icmp_ne (pc := 37) (tgt := 53) d_X7_arePair_37 (by decide) (fun c => ?_) (fun c => ?_)
      · rw [if_neg c] at h
        exact WP_sub (B_X7_arePair_53 Q (T_X7_arePair_6 Q n) hκ6 v0 v1 v2 v3 v4 v5 x4 M h) (by decide) (ls_s (ls_s (ls_s (ls_s (ls_s (ls_s (ls_s (ls_n ls_0))))))))
      · rw [if_pos c] at h
        refine R_aload_n (pc := 40) d_X7_arePair_40 rfl rfl ?_
        refine R_getR (pc := 41) fld_RX7_7 rfl rfl k1 d_X7_arePair_41 ?_
        refine R_iload (pc := 44) d_X7_arePair_44 rfl ?_
        refine R_iconst (pc := 46) (v := 2) d_X7_arePair_46 (by decide) ?_
        refine R_iadd (pc := 47) d_X7_arePair_47 ?_
        obtain ⟨k6, h⟩ := h
        refine R_iald (pc := 48) k2 k6 d_X7_arePair_48 ?_
        refine R_iload_n (pc := 49) d_X7_arePair_49 rfl rfl ?_
        refine R_icmp_eq (pc := 50) (tgt := 79) d_X7_arePair_50 (by decide) (fun c => ?_) (fun c => ?_)
        · rw [if_pos c] at h
          exact WP_sub (B_X7_arePair_79 Q (T_X7_arePair_6 Q n) hκ6 v0 v1 v2 v3 v4 v5 x4 M h) (by decide) (ls_s (ls_s (ls_s (ls_s (ls_s (ls_s (ls_s (ls_n ls_0))))))))
        · rw [if_neg c] at h
          exact WP_sub (B_X7_arePair_53 Q (T_X7_arePair_6 Q n) hκ6 v0 v1 v2 v3 v4 v5 x4 M h) (by decide) (ls_s (ls_s (ls_s (ls_s (ls_s (ls_s (ls_s (ls_n ls_0))))))))
def T_X7_arePair (Q : Int32 → Mem → Prop) (v0 : Nat) (v1 : Int32) (v2 : Int32) (v3 : Int32) (M : Mem) : Prop := (∃ N : Nat, T_X7_arePair_6 Q N v0 v1 v2 v3 0 0 M)
set_option maxRecDepth 100000 in
set_option maxHeartbeats 4000000 in
theorem c_X7_arePair {g : GG} (v0 : Nat) (v1 : Int32) (v2 : Int32) (v3 : Int32) (M : Mem) (Q : Int32 → Mem → Prop) (h : T_X7_arePair Q v0 v1 v2 v3 M) : CT g 10 mX7_arePair [.ref (g.1 + v0), .int v1, .int v2, .int v3] M 0 (oZ Q noX) := by
  refine CT_of (L := [some (.ref (g.1 + v0)), some (.int v1), some (.int v2), some (.int v3), none, none, none, none]) (by decide) rfl (Nat.le_of_ble_eq_true rfl) (ro_Z rfl) rfl ?_
  unfold T_X7_arePair at h
  refine R_iconst (pc := 0) (v := 0) d_X7_arePair_0 (by decide) ?_
  refine R_istore (pc := 1) (L' := [some (.ref (g.1 + v0)), some (.int v1), some (.int v2), some (.int v3), some (.int 0), none, none, none]) d_X7_arePair_1 (by decide) rfl ?_
  refine R_iconst (pc := 3) (v := 0) d_X7_arePair_3 (by decide) ?_
  refine R_istore (pc := 4) (L' := [some (.ref (g.1 + v0)), some (.int v1), some (.int v2), some (.int v3), some (.int 0), some (.int 0), none, none]) d_X7_arePair_4 (by decide) rfl ?_
  obtain ⟨N, h⟩ := h
  exact WP_sub (B_X7_arePair_6 Q N v0 v1 v2 v3 0 0 M h) (by decide) (ls_s (ls_s (ls_s (ls_s (ls_s (ls_s (ls_n (ls_n ls_0))))))))
/-! X7_isPossible -/
theorem d_X7_isPossible_0 : decode mX7_isPossible.2.1 0 = .ok (.aload_n 0, 1) := by decide +kernel
theorem d_X7_isPossible_1 : decode mX7_isPossible.2.1 1 = .ok (.getfield 7, 3) := by decide +kernel
theorem d_X7_isPossible_4 : decode mX7_isPossible.2.1 4 = .ok (.bipush 72, 2) := by decide +kernel
theorem d_X7_isPossible_6 : decode mX7_isPossible.2.1 6 = .ok (.iload_n 1, 1) := by decide +kernel
theorem d_X7_isPossible_7 : decode mX7_isPossible.2.1 7 = .ok (.iadd, 1) := by decide +kernel
theorem d_X7_isPossible_8 : decode mX7_isPossible.2.1 8 = .ok (.iaload, 1) := by decide +kernel
theorem d_X7_isPossible_9 : decode mX7_isPossible.2.1 9 = .ok (.ifCond .eq 32, 3) := by decide +kernel
theorem d_X7_isPossible_12 : decode mX7_isPossible.2.1 12 = .ok (.aload_n 0, 1) := by decide +kernel
theorem d_X7_isPossible_13 : decode mX7_isPossible.2.1 13 = .ok (.getfield 7, 3) := by decide +kernel
theorem d_X7_isPossible_16 : decode mX7_isPossible.2.1 16 = .ok (.bipush 60, 2) := by decide +kernel
theorem d_X7_isPossible_18 : decode mX7_isPossible.2.1 18 = .ok (.iload_n 1, 1) := by decide +kernel
theorem d_X7_isPossible_19 : decode mX7_isPossible.2.1 19 = .ok (.iadd, 1) := by decide +kernel
theorem d_X7_isPossible_20 : decode mX7_isPossible.2.1 20 = .ok (.iaload, 1) := by decide +kernel
theorem d_X7_isPossible_21 : decode mX7_isPossible.2.1 21 = .ok (.iload_n 3, 1) := by decide +kernel
theorem d_X7_isPossible_22 : decode mX7_isPossible.2.1 22 = .ok (.if_icmp .lt 19, 3) := by decide +kernel
theorem d_X7_isPossible_25 : decode mX7_isPossible.2.1 25 = .ok (.aload_n 0, 1) := by decide +kernel
theorem d_X7_isPossible_26 : decode mX7_isPossible.2.1 26 = .ok (.iload 4, 2) := by decide +kernel
theorem d_X7_isPossible_28 : decode mX7_isPossible.2.1 28 = .ok (.iload 5, 2) := by decide +kernel
theorem d_X7_isPossible_30 : decode mX7_isPossible.2.1 30 = .ok (.invokevirtual 78, 3) := by decide +kernel
theorem d_X7_isPossible_33 : decode mX7_isPossible.2.1 33 = .ok (.iload_n 1, 1) := by decide +kernel
theorem d_X7_isPossible_34 : decode mX7_isPossible.2.1 34 = .ok (.ishr, 1) := by decide +kernel
theorem d_X7_isPossible_35 : decode mX7_isPossible.2.1 35 = .ok (.iconst 1, 1) := by decide +kernel
theorem d_X7_isPossible_36 : decode mX7_isPossible.2.1 36 = .ok (.iand, 1) := by decide +kernel
theorem d_X7_isPossible_37 : decode mX7_isPossible.2.1 37 = .ok (.iconst 1, 1) := by decide +kernel
theorem d_X7_isPossible_38 : decode mX7_isPossible.2.1 38 = .ok (.if_icmp .ne 5, 3) := by decide +kernel
theorem d_X7_isPossible_41 : decode mX7_isPossible.2.1 41 = .ok (.iconst 0, 1) := by decide +kernel
theorem d_X7_isPossible_42 : decode mX7_isPossible.2.1 42 = .ok (.ireturn, 1) := by decide +kernel
theorem d_X7_isPossible_43 : decode mX7_isPossible.2.1 43 = .ok (.aload_n 0, 1) := by decide +kernel
theorem d_X7_isPossible_44 : decode mX7_isPossible.2.1 44 = .ok (.getfield 7, 3) := by decide +kernel
theorem d_X7_isPossible_47 : decode mX7_isPossible.2.1 47 = .ok (.bipush 32, 2) := by decide +kernel
theorem d_X7_isPossible_49 : decode mX7_isPossible.2.1 49 = .ok (.iload_n 2, 1) := by decide +kernel
theorem d_X7_isPossible_50 : decode mX7_isPossible.2.1 50 = .ok (.iadd, 1) := by decide +kernel
theorem d_X7_isPossible_51 : decode mX7_isPossible.2.1 51 = .ok (.iaload, 1) := by decide +kernel
theorem d_X7_isPossible_52 : decode mX7_isPossible.2.1 52 = .ok (.iconst 1, 1) := by decide +kernel
theorem d_X7_isPossible_53 : decode mX7_isPossible.2.1 53 = .ok (.if_icmp .ne 17, 3) := by decide +kernel
theorem d_X7_isPossible_56 : decode mX7_isPossible.2.1 56 = .ok (.aload_n 0, 1) := by decide +kernel
theorem d_X7_isPossible_57 : decode mX7_isPossible.2.1 57 = .ok (.getfield 7, 3) := by decide +kernel
theorem d_X7_isPossible_60 : decode mX7_isPossible.2.1 60 = .ok (.bipush 66, 2) := by decide +kernel
theorem d_X7_isPossible_62 : decode mX7_isPossible.2.1 62 = .ok (.iload_n 1, 1) := by decide +kernel
theorem d_X7_isPossible_63 : decode mX7_isPossible.2.1 63 = .ok (.iadd, 1) := by decide +kernel
theorem d_X7_isPossible_64 : decode mX7_isPossible.2.1 64 = .ok (.iaload, 1) := by decide +kernel
theorem d_X7_isPossible_65 : decode mX7_isPossible.2.1 65 = .ok (.ifCond .ne 5, 3) := by decide +kernel
theorem d_X7_isPossible_68 : decode mX7_isPossible.2.1 68 = .ok (.iconst 0, 1) := by decide +kernel
theorem d_X7_isPossible_69 : decode mX7_isPossible.2.1 69 = .ok (.ireturn, 1) := by decide +kernel
theorem d_X7_isPossible_70 : decode mX7_isPossible.2.1 70 = .ok (.iconst 0, 1) := by decide +kernel
theorem d_X7_isPossible_71 : decode mX7_isPossible.2.1 71 = .ok (.istore 6, 2) := by decide +kernel
theorem d_X7_isPossible_73 : decode mX7_isPossible.2.1 73 = .ok (.iload 6, 2) := by decide +kernel
theorem d_X7_isPossible_75 : decode mX7_isPossible.2.1 75 = .ok (.aload_n 0, 1) := by decide +kernel
theorem d_X7_isPossible_76 : decode mX7_isPossible.2.1 76 = .ok (.getfield 7, 3) := by decide +kernel
theorem d_X7_isPossible_79 : decode mX7_isPossible.2.1 79 = .ok (.iconst 4, 1) := by decide +kernel
theorem d_X7_isPossible_80 : decode mX7_isPossible.2.1 80 = .ok (.iaload, 1) := by decide +kernel
theorem d_X7_isPossible_81 : decode mX7_isPossible.2.1 81 = .ok (.if_icmp .ge 73, 3) := by decide +kernel
theorem d_X7_isPossible_84 : decode mX7_isPossible.2.1 84 = .ok (.aload_n 0, 1) := by decide +kernel
theorem d_X7_isPossible_85 : decode mX7_isPossible.2.1 85 = .ok (.iload 6, 2) := by decide +kernel
theorem d_X7_isPossible_87 : decode mX7_isPossible.2.1 87 = .ok (.iload 4, 2) := by decide +kernel
theorem d_X7_isPossible_89 : decode mX7_isPossible.2.1 89 = .ok (.iload 5, 2) := by decide +kernel
theorem d_X7_isPossible_91 : decode mX7_isPossible.2.1 91 = .ok (.invokevirtual 69, 3) := by decide +kernel
theorem d_X7_isPossible_94 : decode mX7_isPossible.2.1 94 = .ok (.ifCond .eq 54, 3) := by decide +kernel
theorem d_X7_isPossible_97 : decode mX7_isPossible.2.1 97 = .ok (.aload_n 0, 1) := by decide +kernel
theorem d_X7_isPossible_98 : decode mX7_isPossible.2.1 98 = .ok (.iload_n 2, 1) := by decide +kernel
theorem d_X7_isPossible_99 : decode mX7_isPossible.2.1 99 = .ok (.aload_n 0, 1) := by decide +kernel
theorem d_X7_isPossible_100 : decode mX7_isPossible.2.1 100 = .ok (.iload 6, 2) := by decide +kernel
theorem d_X7_isPossible_102 : decode mX7_isPossible.2.1 102 = .ok (.iconst 0, 1) := by decide +kernel
theorem d_X7_isPossible_103 : decode mX7_isPossible.2.1 103 = .ok (.invokevirtual 45, 3) := by decide +kernel
theorem d_X7_isPossible_106 : decode mX7_isPossible.2.1 106 = .ok (.iload 4, 2) := by decide +kernel
theorem d_X7_isPossible_108 : decode mX7_isPossible.2.1 108 = .ok (.invokevirtual 81, 3) := by decide +kernel
theorem d_X7_isPossible_111 : decode mX7_isPossible.2.1 111 = .ok (.ifCond .eq 37, 3) := by decide +kernel
theorem d_X7_isPossible_114 : decode mX7_isPossible.2.1 114 = .ok (.aload_n 0, 1) := by decide +kernel
theorem d_X7_isPossible_115 : decode mX7_isPossible.2.1 115 = .ok (.getfield 7, 3) := by decide +kernel
theorem d_X7_isPossible_118 : decode mX7_isPossible.2.1 118 = .ok (.bipush 54, 2) := by decide +kernel
theorem d_X7_isPossible_120 : decode mX7_isPossible.2.1 120 = .ok (.aload_n 0, 1) := by decide +kernel
theorem d_X7_isPossible_121 : decode mX7_isPossible.2.1 121 = .ok (.iload 6, 2) := by decide +kernel
theorem d_X7_isPossible_123 : decode mX7_isPossible.2.1 123 = .ok (.iconst 4, 1) := by decide +kernel
theorem d_X7_isPossible_124 : decode mX7_isPossible.2.1 124 = .ok (.invokevirtual 45, 3) := by decide +kernel
theorem d_X7_isPossible_127 : decode mX7_isPossible.2.1 127 = .ok (.iadd, 1) := by decide +kernel
theorem d_X7_isPossible_128 : decode mX7_isPossible.2.1 128 = .ok (.iaload, 1) := by decide +kernel
theorem d_X7_isPossible_129 : decode mX7_isPossible.2.1 129 = .ok (.aload_n 0, 1) := by decide +kernel
theorem d_X7_isPossible_130 : decode mX7_isPossible.2.1 130 = .ok (.getfield 7, 3) := by decide +kernel
theorem d_X7_isPossible_133 : decode mX7_isPossible.2.1 133 = .ok (.bipush 54, 2) := by decide +kernel
theorem d_X7_isPossible_135 : decode mX7_isPossible.2.1 135 = .ok (.iload_n 1, 1) := by decide +kernel
theorem d_X7_isPossible_136 : decode mX7_isPossible.2.1 136 = .ok (.iadd, 1) := by decide +kernel
theorem d_X7_isPossible_137 : decode mX7_isPossible.2.1 137 = .ok (.iaload, 1) := by decide +kernel
theorem d_X7_isPossible_138 : decode mX7_isPossible.2.1 138 = .ok (.isub, 1) := by decide +kernel
theorem d_X7_isPossible_139 : decode mX7_isPossible.2.1 139 = .ok (.invokestatic 59, 3) := by decide +kernel
theorem d_X7_isPossible_142 : decode mX7_isPossible.2.1 142 = .ok (.iconst 2, 1) := by decide +kernel
theorem d_X7_isPossible_143 : decode mX7_isPossible.2.1 143 = .ok (.if_icmp .ge 5, 3) := by decide +kernel
theorem d_X7_isPossible_146 : decode mX7_isPossible.2.1 146 = .ok (.iconst 0, 1) := by decide +kernel
theorem d_X7_isPossible_147 : decode mX7_isPossible.2.1 147 = .ok (.ireturn, 1) := by decide +kernel
theorem d_X7_isPossible_148 : decode mX7_isPossible.2.1 148 = .ok (.iinc 6 1, 3) := by decide +kernel
theorem d_X7_isPossible_151 : decode mX7_isPossible.2.1 151 = .ok (.goto (-78), 3) := by decide +kernel
theorem d_X7_isPossible_154 : decode mX7_isPossible.2.1 154 = .ok (.iconst 1, 1) := by decide +kernel
theorem d_X7_isPossible_155 : decode mX7_isPossible.2.1 155 = .ok (.ireturn, 1) := by decide +kernel
def T_X7_isPossible_148 (κ73 : Nat → Int32 → Int32 → Int32 → Int32 → Int32 → Mem → Prop) (Q : Int32 → Mem → Prop) (v0 : Nat) (v1 : Int32) (v2 : Int32) (v4 : Int32) (v5 : Int32) (v6 : Int32) (M : Mem) : Prop := ∀ x1 : Int32, x1 = v6 + 1 → κ73 v0 v1 v2 v4 v5 x1 M
set_option maxRecDepth 100000 in
set_option maxHeartbeats 4000000 in
theorem B_X7_isPossible_148 {g : GG} (Q : Int32 → Mem → Prop) (κ73 : Nat → Int32 → Int32 → Int32 → Int32 → Int32 → Mem → Prop) (hκ73 : ∀ (v0 : Nat) (v1 : Int32) (v2 : Int32) (v4 : Int32) (v5 : Int32) (v6 : Int32) (M : Mem), κ73 v0 v1 v2 v4 v5 v6 M → WP g 13 mX7_isPossible 73 [some (.ref (g.1 + v0)), some (.int v1), some (.int v2), none, some (.int v4), some (.int v5), some (.int v6)] [] M 0 (oZ Q noX)) (v0 : Nat) (v1 : Int32) (v2 : Int32) (v4 : Int32) (v5 : Int32) (v6 : Int32) (M : Mem) (h : T_X7_isPossible_148 κ73 Q v0 v1 v2 v4 v5 v6 M) : WP g 13 mX7_isPossible 148 [some (.ref (g.1 + v0)), some (.int v1), some (.int v2), none, some (.int v4), some (.int v5), some (.int v6)] [] M 0 (oZ Q noX) := by
  unfold T_X7_isPossible_148 at h
  obtain ⟨x1, ex1⟩ : ∃ z : Int32, z = v6 + 1 := ⟨_, rfl⟩
  have h := h x1 ex1
  refine R_iinc (pc := 148) (v := x1) (L' := [some (.ref (g.1 + v0)), some (.int v1), some (.int v2), none, some (.int v4), some (.int v5), some (.int x1)]) d_X7_isPossible_148 rfl (by rw [ex1]; rfl) (by decide) rfl ?_
  refine R_goto (pc := 151) (tgt := 73) d_X7_isPossible_151 (by decide) ?_
  exact WP_sub (hκ73 v0 v1 v2 v4 v5 x1 M h) (by decide) (ls_s (ls_s (ls_s (ls_n (ls_s (ls_s (ls_s ls_0)))))))
def T_X7_isPossible_73 (Q : Int32 → Mem → Prop) : Nat → Nat → Int32 → Int32 → Int32 → Int32 → Int32 → Mem → Prop
  | 0, _, _, _, _, _, _, _ => False
  | n + 1, v0, v1, v2, v4, v5, v6, M => (kd v0 = 7) ∧ (kd (rf v0 1) = 9) ∧ (vp_in 4 (ln (rf v0 1))) ∧ if (M.1 (rf v0 1) (Int32.toNatClampNeg 4)) ≤ v6 then (((1 : Int32) = 0 ∨ (1 : Int32) = 1) ∧ Q 1 M) else (T_X7_isIn (fun y5 M4 => if y5 = 0 then (T_X7_isPossible_148 (T_X7_isPossible_73 Q n) Q v0 v1 v2 v4 v5 v6 M4) else (T_X7_of (fun y7 M6 => T_X7_arePair (fun y9 M8 => if y9 = 0 then (T_X7_isPossible_148 (T_X7_isPossible_73 Q n) Q v0 v1 v2 v4 v5 v6 M8) else (T_X7_of (fun y11 M10 => (vp_in (54 + y11) (ln (rf v0 1))) ∧ (vp_in (54 + v1) (ln (rf v0 1))) ∧ T_X7_size (fun y15 M14 => if (2 : Int32) ≤ y15 then (T_X7_isPossible_148 (T_X7_isPossible_73 Q n) Q v0 v1 v2 v4 v5 v6 M14) else (((0 : Int32) = 0 ∨ (0 : Int32) = 1) ∧ Q 0 M14))  ((M10.1 (rf v0 1) (Int32.toNatClampNeg (54 + y11))) - (M10.1 (rf v0 1) (Int32.toNatClampNeg (54 + v1)))) M10)  v0 v6 4 M8))  v0 v2 y7 v4 M6)  v0 v6 0 M4))  v0 v6 v4 v5 M)
set_option maxRecDepth 100000 in
set_option maxHeartbeats 4000000 in
theorem B_X7_isPossible_73 {g : GG} (Q : Int32 → Mem → Prop) : ∀ (n : Nat) (v0 : Nat) (v1 : Int32) (v2 : Int32) (v4 : Int32) (v5 : Int32) (v6 : Int32) (M : Mem), T_X7_isPossible_73 Q n v0 v1 v2 v4 v5 v6 M → WP g 13 mX7_isPossible 73 [some (.ref (g.1 + v0)), some (.int v1), some (.int v2), none, some (.int v4), some (.int v5), some (.int v6)] [] M 0 (oZ Q noX) := by
  intro n
  induction n with
  | zero => intro v0 v1 v2 v4 v5 v6 M h; exact h.elim
  | succ n hκ73 =>
    intro v0 v1 v2 v4 v5 v6 M h
    unfold T_X7_isPossible_73 at h
    refine R_iload (pc := 73) d_X7_isPossible_73 rfl ?_
    refine R_aload_n (pc := 75) d_X7_isPossible_75 rfl rfl ?_
    obtain ⟨k1, h⟩ := h
    refine R_getR (pc := 76) fld_RX7_7 rfl rfl k1 d_X7_isPossible_76 ?_
    refine R_iconst (pc := 79) (v := 4) d_X7_isPossible_79 (by decide) ?_
    obtain ⟨k2, h⟩ := h
    obtain ⟨k3, h⟩ := h
    refine R_iald (pc := 80) k2 k3 d_X7_isPossible_80 ?_
    refine R_icmp_ge (pc := 81) (tgt := 154) d_X7_isPossible_81 (by decide) (fun c => ?_) (fun c => ?_)
    · rw [if_pos c] at h
      refine R_iconst (pc := 154) (v := 1) d_X7_isPossible_154 (by decide) ?_
      exact R_retv (pc := 155) d_X7_isPossible_155 h
    · rw [if_neg c] at h
      refine R_aload_n (pc := 84) d_X7_isPossible_84 rfl rfl ?_
      refine R_iload (pc := 85) d_X7_isPossible_85 rfl ?_
      refine R_iload (pc := 87) d_X7_isPossible_87 rfl ?_
      refine R_iload (pc := 89) d_X7_isPossible_89 rfl ?_
      refine R_callV (pc := 91) (As := [.int v6, .int v4, .int v5]) (rest := []) (c_X7_isIn (g := g) v0 v6 v4 v5 M _ h) rfl rfl cal_RX7_69 ins_X7_isIn sel_X7_isIn (cls_at k1 clsOK7) (by decide) (by decide) rfl rfl (Nat.le_of_ble_eq_true rfl) d_X7_isPossible_91 (k_Z (fun y5 M4 h => ?_)) (fun _ _ h9 => False.elim h9)
      try dsimp only at h
      refine R_if_eq (pc := 94) (tgt := 148) d_X7_isPossible_94 (by decide) (fun c => ?_) (fun c => ?_)
      · rw [if_pos c] at h
        exact WP_sub (B_X7_isPossible_148 Q (T_X7_isPossible_73 Q n) hκ73 v0 v1 v2 v4 v5 v6 M4 h) (by decide) (ls_s (ls_s (ls_s (ls_n (ls_s (ls_s (ls_s ls_0)))))))
      · rw [if_neg c] at h
        refine R_aload_n (pc := 97) d_X7_isPossible_97 rfl rfl ?_
        refine R_iload_n (pc := 98) d_X7_isPossible_98 rfl rfl ?_
        refine R_aload_n (pc := 99) d_X7_isPossible_99 rfl rfl ?_
        refine R_iload (pc := 100) d_X7_isPossible_100 rfl ?_
        refine R_iconst (pc := 102) (v := 0) d_X7_isPossible_102 (by decide) ?_
        refine R_callV (pc := 103) (As := [.int v6, .int 0]) (rest := [.int v2, .ref (g.1 + v0)]) (c_X7_of (g := g) v0 v6 0 M4 _ h) rfl rfl cal_RX7_45 ins_X7_of sel_X7_of (cls_at k1 clsOK7) (by decide) (by decide) rfl rfl (Nat.le_of_ble_eq_true rfl) d_X7_isPossible_103 (k_I (fun y7 M6 h => ?_)) (fun _ _ h9 => False.elim h9)
        try dsimp only at h
        refine R_iload (pc := 106) d_X7_isPossible_106 rfl ?_
        refine R_callV (pc := 108) (As := [.int v2, .int y7, .int v4]) (rest := []) (c_X7_arePair (g := g) v0 v2 y7 v4 M6 _ h) rfl rfl cal_RX7_81 ins_X7_arePair sel_X7_arePair (cls_at k1 clsOK7) (by decide) (by decide) rfl rfl (Nat.le_of_ble_eq_true rfl) d_X7_isPossible_108 (k_Z (fun y9 M8 h => ?_)) (fun _ _ h9 => False.elim h9)
        try dsimp only at h
        refine R_if_eq (pc := 111) (tgt := 148) d_X7_isPossible_111 (by decide) (fun c => ?_) (fun c => ?_)
        · rw [if_pos c] at h
          exact WP_sub (B_X7_isPossible_148 Q (T_X7_isPossible_73 Q n) hκ73 v0 v1 v2 v4 v5 v6 M8 h) (by decide) (ls_s (ls_s (ls_s (ls_n (ls_s (ls_s (ls_s ls_0)))))))
        · rw [if_neg c] at h
          refine R_aload_n (pc := 114) d_X7_isPossible_114 rfl rfl ?_
          refine R_getR (pc := 115) fld_RX7_7 rfl rfl k1 d_X7_isPossible_115 ?_
          refine R_bipush (pc := 118) (v := 54) d_X7_isPossible_118 (by decide) ?_
          refine R_aload_n (pc := 120) d_X7_isPossible_120 rfl rfl ?_
          refine R_iload (pc := 121) d_X7_isPossible_121 rfl ?_
          refine R_iconst (pc := 123) (v := 4) d_X7_isPossible_123 (by decide) ?_
          refine R_callV (pc := 124) (As := [.int v6, .int 4]) (rest := [.int 54, .ref (g.1 + (rf v0 1))]) (c_X7_of (g := g) v0 v6 4 M8 _ h) rfl rfl cal_RX7_45 ins_X7_of sel_X7_of (cls_at k1 clsOK7) (by decide) (by decide) rfl rfl (Nat.le_of_ble_eq_true rfl) d_X7_isPossible_124 (k_I (fun y11 M10 h => ?_)) (fun _ _ h9 => False.elim h9)
          try dsimp only at h
          refine R_iadd (pc := 127) d_X7_isPossible_127 ?_
          obtain ⟨k12, h⟩ := h
          refine R_iald (pc := 128) k2 k12 d_X7_isPossible_128 ?_
          refine R_aload_n (pc := 129) d_X7_isPossible_129 rfl rfl ?_
          refine R_getR (pc := 130) fld_RX7_7 rfl rfl k1 d_X7_isPossible_130 ?_
          refine R_bipush (pc := 133) (v := 54) d_X7_isPossible_133 (by decide) ?_
          refine R_iload_n (pc := 135) d_X7_isPossible_135 rfl rfl ?_
          refine R_iadd (pc := 136) d_X7_isPossible_136 ?_
          obtain ⟨k13, h⟩ := h
          refine R_iald (pc := 137) k2 k13 d_X7_isPossible_137 ?_
          refine R_isub (pc := 138) d_X7_isPossible_138 ?_
          refine R_callS (pc := 139) (As := [.int ((M10.1 (rf v0 1) (Int32.toNatClampNeg (54 + y11))) - (M10.1 (rf v0 1) (Int32.toNatClampNeg (54 + v1))))]) (rest := []) (c_X7_size (g := g) ((M10.1 (rf v0 1) (Int32.toNatClampNeg (54 + y11))) - (M10.1 (rf v0 1) (Int32.toNatClampNeg (54 + v1)))) M10 _ h) rfl rfl cal_RX7_59 sta_X7_size (by decide) (by decide) rfl rfl (Nat.le_of_ble_eq_true rfl) d_X7_isPossible_139 (k_I (fun y15 M14 h => ?_)) (fun _ _ h9 => False.elim h9)
          try dsimp only at h
          refine R_iconst (pc := 142) (v := 2) d_X7_isPossible_142 (by decide) ?_
          refine R_icmp_ge (pc := 143) (tgt := 148) d_X7_isPossible_143 (by decide) (fun c => ?_) (fun c => ?_)
          · rw [if_pos c] at h
            exact WP_sub (B_X7_isPossible_148 Q (T_X7_isPossible_73 Q n) hκ73 v0 v1 v2 v4 v5 v6 M14 h) (by decide) (ls_s (ls_s (ls_s (ls_n (ls_s (ls_s (ls_s ls_0)))))))
          · rw [if_neg c] at h
            refine R_iconst (pc := 146) (v := 0) d_X7_isPossible_146 (by decide) ?_
            exact R_retv (pc := 147) d_X7_isPossible_147 h
def T_X7_isPossible_70 (Q : Int32 → Mem → Prop) (v0 : Nat) (v1 : Int32) (v2 : Int32) (v4 : Int32) (v5 : Int32) (M : Mem) : Prop := (∃ N : Nat, T_X7_isPossible_73 Q N v0 v1 v2 v4 v5 0 M)
set_option maxRecDepth 100000 in
set_option maxHeartbeats 4000000 in
theorem B_X7_isPossible_70 {g : GG} (Q : Int32 → Mem → Prop) (v0 : Nat) (v1 : Int32) (v2 : Int32) (v4 : Int32) (v5 : Int32) (M : Mem) (h : T_X7_isPossible_70 Q v0 v1 v2 v4 v5 M) : WP g 13 mX7_isPossible 70 [some (.ref (g.1 + v0)), some (.int v1), some (.int v2), none, some (.int v4), some (.int v5), none] [] M 0 (oZ Q noX) := by
  unfold T_X7_isPossible_70 at h
  refine R_iconst (pc := 70) (v := 0) d_X7_isPossible_70 (by decide) ?_
  refine R_istore (pc := 71) (L' := [some (.ref (g.1 + v0)), some (.int v1), some (.int v2), none, some (.int v4), some (.int v5), some (.int 0)]) d_X7_isPossible_71 (by decide) rfl ?_
  obtain ⟨N, h⟩ := h
  exact WP_sub (B_X7_isPossible_73 Q N v0 v1 v2 v4 v5 0 M h) (by decide) (ls_s (ls_s (ls_s (ls_n (ls_s (ls_s (ls_s ls_0)))))))
def T_X7_isPossible_41 (Q : Int32 → Mem → Prop) (M : Mem) : Prop := ((0 : Int32) = 0 ∨ (0 : Int32) = 1) ∧ Q 0 M
set_option maxRecDepth 100000 in
set_option maxHeartbeats 4000000 in
theorem B_X7_isPossible_41 {g : GG} (Q : Int32 → Mem → Prop) (M : Mem) (h : T_X7_isPossible_41 Q  M) : WP g 13 mX7_isPossible 41 [none, none, none, none, none, none, none] [] M 0 (oZ Q noX) := by
  unfold T_X7_isPossible_41 at h
  refine R_iconst (pc := 41) (v := 0) d_X7_isPossible_41 (by decide) ?_
  exact R_retv (pc := 42) d_X7_isPossible_42 h
def T_X7_isPossible (Q : Int32 → Mem → Prop) (v0 : Nat) (v1 : Int32) (v2 : Int32) (v3 : Int32) (v4 : Int32) (v5 : Int32) (M : Mem) : Prop := (kd v0 = 7) ∧ (kd (rf v0 1) = 9) ∧ (vp_in (72 + v1) (ln (rf v0 1))) ∧ if (M.1 (rf v0 1) (Int32.toNatClampNeg (72 + v1))) = 0 then (T_X7_isPossible_41 Q M) else ((vp_in (60 + v1) (ln (rf v0 1))) ∧ if (M.1 (rf v0 1) (Int32.toNatClampNeg (60 + v1))) < v3 then (T_X7_isPossible_41 Q M) else (T_X7_usedRooms (fun y6 M5 => if ((y6 >>> (v1 &&& 31)) &&& 1) = (1 : Int32) then (T_X7_isPossible_41 Q M5) else ((vp_in (32 + v2) (ln (rf v0 1))) ∧ if (M5.1 (rf v0 1) (Int32.toNatClampNeg (32 + v2))) = (1 : Int32) then ((vp_in (66 + v1) (ln (rf v0 1))) ∧ if (M5.1 (rf v0 1) (Int32.toNatClampNeg (66 + v1))) = 0 then (((0 : Int32) = 0 ∨ (0 : Int32) = 1) ∧ Q 0 M5) else (T_X7_isPossible_70 Q v0 v1 v2 v4 v5 M5)) else (T_X7_isPossible_70 Q v0 v1 v2 v4 v5 M5)))  v0 v4 v5 M))
set_option maxRecDepth 100000 in
set_option maxHeartbeats 4000000 in
theorem c_X7_isPossible {g : GG} (v0 : Nat) (v1 : Int32) (v2 : Int32) (v3 : Int32) (v4 : Int32) (v5 : Int32) (M : Mem) (Q : Int32 → Mem → Prop) (h : T_X7_isPossible Q v0 v1 v2 v3 v4 v5 M) : CT g 13 mX7_isPossible [.ref (g.1 + v0), .int v1, .int v2, .int v3, .int v4, .int v5] M 0 (oZ Q noX) := by
  refine CT_of (L := [some (.ref (g.1 + v0)), some (.int v1), some (.int v2), some (.int v3), some (.int v4), some (.int v5), none]) (by decide) rfl (Nat.le_of_ble_eq_true rfl) (ro_Z rfl) rfl ?_
  unfold T_X7_isPossible at h
  refine R_aload_n (pc := 0) d_X7_isPossible_0 rfl rfl ?_
  obtain ⟨k1, h⟩ := h
  refine R_getR (pc := 1) fld_RX7_7 rfl rfl k1 d_X7_isPossible_1 ?_
  refine R_bipush (pc := 4) (v := 72) d_X7_isPossible_4 (by decide) ?_
  refine R_iload_n (pc := 6) d_X7_isPossible_6 rfl rfl ?_
  refine R_iadd (pc := 7) d_X7_isPossible_7 ?_
  obtain ⟨k2, h⟩ := h
  obtain ⟨k3, h⟩ := h
  refine R_iald (pc := 8) k2 k3 d_X7_isPossible_8 ?_
  refine R_if_eq (pc := 9) (tgt := 41) d_X7_isPossible_9 (by decide) (fun c => ?_) (fun c => ?_)
  · rw [if_pos c] at h
    exact WP_sub (B_X7_isPossible_41 Q M h) (by decide) (ls_n (ls_n (ls_n (ls_n (ls_n (ls_n (ls_n ls_0)))))))
  · rw [if_neg c] at h
    refine R_aload_n (pc := 12) d_X7_isPossible_12 rfl rfl ?_
    refine R_getR (pc := 13) fld_RX7_7 rfl rfl k1 d_X7_isPossible_13 ?_
    refine R_bipush (pc := 16) (v := 60) d_X7_isPossible_16 (by decide) ?_
    refine R_iload_n (pc := 18) d_X7_isPossible_18 rfl rfl ?_
    refine R_iadd (pc := 19) d_X7_isPossible_19 ?_
    obtain ⟨k4, h⟩ := h
    refine R_iald (pc := 20) k2 k4 d_X7_isPossible_20 ?_
    refine R_iload_n (pc := 21) d_X7_isPossible_21 rfl rfl ?_
    refine R_icmp_lt (pc := 22) (tgt := 41) d_X7_isPossible_22 (by decide) (fun c => ?_) (fun c => ?_)
    · rw [if_pos c] at h
      exact WP_sub (B_X7_isPossible_41 Q M h) (by decide) (ls_n (ls_n (ls_n (ls_n (ls_n (ls_n (ls_n ls_0)))))))
    · rw [if_neg c] at h
      refine R_aload_n (pc := 25) d_X7_isPossible_25 rfl rfl ?_
      refine R_iload (pc := 26) d_X7_isPossible_26 rfl ?_
      refine R_iload (pc := 28) d_X7_isPossible_28 rfl ?_
      refine R_callV (pc := 30) (As := [.int v4, .int v5]) (rest := []) (c_X7_usedRooms (g := g) v0 v4 v5 M _ h) rfl rfl cal_RX7_78 ins_X7_usedRooms sel_X7_usedRooms (cls_at k1 clsOK7) (by decide) (by decide) rfl rfl (Nat.le_of_ble_eq_true rfl) d_X7_isPossible_30 (k_I (fun y6 M5 h => ?_)) (fun _ _ h9 => False.elim h9)
      try dsimp only at h
      refine R_iload_n (pc := 33) d_X7_isPossible_33 rfl rfl ?_
      refine R_ishr (pc := 34) d_X7_isPossible_34 ?_
      refine R_iconst (pc := 35) (v := 1) d_X7_isPossible_35 (by decide) ?_
      refine R_iand (pc := 36) d_X7_isPossible_36 ?_
      refine R_iconst (pc := 37) (v := 1) d_X7_isPossible_37 (by decide) ?_
      refine R_icmp_ne (pc := 38) (tgt := 43) d_X7_isPossible_38 (by decide) (fun c => ?_) (fun c => ?_)
      · rw [if_neg c] at h
        refine R_aload_n (pc := 43) d_X7_isPossible_43 rfl rfl ?_
        refine R_getR (pc := 44) fld_RX7_7 rfl rfl k1 d_X7_isPossible_44 ?_
        refine R_bipush (pc := 47) (v := 32) d_X7_isPossible_47 (by decide) ?_
        refine R_iload_n (pc := 49) d_X7_isPossible_49 rfl rfl ?_
        refine R_iadd (pc := 50) d_X7_isPossible_50 ?_
        obtain ⟨k7, h⟩ := h
        refine R_iald (pc := 51) k2 k7 d_X7_isPossible_51 ?_
        refine R_iconst (pc := 52) (v := 1) d_X7_isPossible_52 (by decide) ?_
        refine R_icmp_ne (pc := 53) (tgt := 70) d_X7_isPossible_53 (by decide) (fun c => ?_) (fun c => ?_)
        · rw [if_neg c] at h
          exact WP_sub (B_X7_isPossible_70 Q v0 v1 v2 v4 v5 M5 h) (by decide) (ls_s (ls_s (ls_s (ls_n (ls_s (ls_s (ls_n ls_0)))))))
        · rw [if_pos c] at h
          refine R_aload_n (pc := 56) d_X7_isPossible_56 rfl rfl ?_
          refine R_getR (pc := 57) fld_RX7_7 rfl rfl k1 d_X7_isPossible_57 ?_
          refine R_bipush (pc := 60) (v := 66) d_X7_isPossible_60 (by decide) ?_
          refine R_iload_n (pc := 62) d_X7_isPossible_62 rfl rfl ?_
          refine R_iadd (pc := 63) d_X7_isPossible_63 ?_
          obtain ⟨k8, h⟩ := h
          refine R_iald (pc := 64) k2 k8 d_X7_isPossible_64 ?_
          refine R_if_ne (pc := 65) (tgt := 70) d_X7_isPossible_65 (by decide) (fun c => ?_) (fun c => ?_)
          · rw [if_neg c] at h
            exact WP_sub (B_X7_isPossible_70 Q v0 v1 v2 v4 v5 M5 h) (by decide) (ls_s (ls_s (ls_s (ls_n (ls_s (ls_s (ls_n ls_0)))))))
          · rw [if_pos c] at h
            refine R_iconst (pc := 68) (v := 0) d_X7_isPossible_68 (by decide) ?_
            exact R_retv (pc := 69) d_X7_isPossible_69 h
      · rw [if_pos c] at h
        exact WP_sub (B_X7_isPossible_41 Q M5 h) (by decide) (ls_n (ls_n (ls_n (ls_n (ls_n (ls_n (ls_n ls_0)))))))
/-! X7_roomFor -/
theorem d_X7_roomFor_0 : decode mX7_roomFor.2.1 0 = .ok (.iconst 0, 1) := by decide +kernel
theorem d_X7_roomFor_1 : decode mX7_roomFor.2.1 1 = .ok (.istore 5, 2) := by decide +kernel
theorem d_X7_roomFor_3 : decode mX7_roomFor.2.1 3 = .ok (.iconst 0, 1) := by decide +kernel
theorem d_X7_roomFor_4 : decode mX7_roomFor.2.1 4 = .ok (.istore 6, 2) := by decide +kernel
theorem d_X7_roomFor_6 : decode mX7_roomFor.2.1 6 = .ok (.iload 6, 2) := by decide +kernel
theorem d_X7_roomFor_8 : decode mX7_roomFor.2.1 8 = .ok (.aload_n 0, 1) := by decide +kernel
theorem d_X7_roomFor_9 : decode mX7_roomFor.2.1 9 = .ok (.getfield 7, 3) := by decide +kernel
theorem d_X7_roomFor_12 : decode mX7_roomFor.2.1 12 = .ok (.iconst 3, 1) := by decide +kernel
theorem d_X7_roomFor_13 : decode mX7_roomFor.2.1 13 = .ok (.iaload, 1) := by decide +kernel
theorem d_X7_roomFor_14 : decode mX7_roomFor.2.1 14 = .ok (.if_icmp .ge 63, 3) := by decide +kernel
theorem d_X7_roomFor_17 : decode mX7_roomFor.2.1 17 = .ok (.aload_n 0, 1) := by decide +kernel
theorem d_X7_roomFor_18 : decode mX7_roomFor.2.1 18 = .ok (.iload_n 1, 1) := by decide +kernel
theorem d_X7_roomFor_19 : decode mX7_roomFor.2.1 19 = .ok (.iload 6, 2) := by decide +kernel
theorem d_X7_roomFor_21 : decode mX7_roomFor.2.1 21 = .ok (.invokevirtual 84, 3) := by decide +kernel
theorem d_X7_roomFor_24 : decode mX7_roomFor.2.1 24 = .ok (.istore 7, 2) := by decide +kernel
theorem d_X7_roomFor_26 : decode mX7_roomFor.2.1 26 = .ok (.aload_n 0, 1) := by decide +kernel
theorem d_X7_roomFor_27 : decode mX7_roomFor.2.1 27 = .ok (.iload 7, 2) := by decide +kernel
theorem d_X7_roomFor_29 : decode mX7_roomFor.2.1 29 = .ok (.iload_n 1, 1) := by decide +kernel
theorem d_X7_roomFor_30 : decode mX7_roomFor.2.1 30 = .ok (.iload_n 2, 1) := by decide +kernel
theorem d_X7_roomFor_31 : decode mX7_roomFor.2.1 31 = .ok (.iload_n 3, 1) := by decide +kernel
theorem d_X7_roomFor_32 : decode mX7_roomFor.2.1 32 = .ok (.iload 4, 2) := by decide +kernel
theorem d_X7_roomFor_34 : decode mX7_roomFor.2.1 34 = .ok (.invokevirtual 87, 3) := by decide +kernel
theorem d_X7_roomFor_37 : decode mX7_roomFor.2.1 37 = .ok (.ifCond .eq 34, 3) := by decide +kernel
theorem d_X7_roomFor_40 : decode mX7_roomFor.2.1 40 = .ok (.iconst 1, 1) := by decide +kernel
theorem d_X7_roomFor_41 : decode mX7_roomFor.2.1 41 = .ok (.istore 5, 2) := by decide +kernel
theorem d_X7_roomFor_43 : decode mX7_roomFor.2.1 43 = .ok (.aload_n 0, 1) := by decide +kernel
theorem d_X7_roomFor_44 : decode mX7_roomFor.2.1 44 = .ok (.getfield 7, 3) := by decide +kernel
theorem d_X7_roomFor_47 : decode mX7_roomFor.2.1 47 = .ok (.bipush 66, 2) := by decide +kernel
theorem d_X7_roomFor_49 : decode mX7_roomFor.2.1 49 = .ok (.iload 7, 2) := by decide +kernel
theorem d_X7_roomFor_51 : decode mX7_roomFor.2.1 51 = .ok (.iadd, 1) := by decide +kernel
theorem d_X7_roomFor_52 : decode mX7_roomFor.2.1 52 = .ok (.iaload, 1) := by decide +kernel
theorem d_X7_roomFor_53 : decode mX7_roomFor.2.1 53 = .ok (.iconst 1, 1) := by decide +kernel
theorem d_X7_roomFor_54 : decode mX7_roomFor.2.1 54 = .ok (.if_icmp .eq 14, 3) := by decide +kernel
theorem d_X7_roomFor_57 : decode mX7_roomFor.2.1 57 = .ok (.aload_n 0, 1) := by decide +kernel
theorem d_X7_roomFor_58 : decode mX7_roomFor.2.1 58 = .ok (.iload_n 3, 1) := by decide +kernel
theorem d_X7_roomFor_59 : decode mX7_roomFor.2.1 59 = .ok (.iload 4, 2) := by decide +kernel
theorem d_X7_roomFor_61 : decode mX7_roomFor.2.1 61 = .ok (.invokevirtual 91, 3) := by decide +kernel
theorem d_X7_roomFor_64 : decode mX7_roomFor.2.1 64 = .ok (.iload_n 2, 1) := by decide +kernel
theorem d_X7_roomFor_65 : decode mX7_roomFor.2.1 65 = .ok (.if_icmp .lt 6, 3) := by decide +kernel
theorem d_X7_roomFor_68 : decode mX7_roomFor.2.1 68 = .ok (.iload 7, 2) := by decide +kernel
theorem d_X7_roomFor_70 : decode mX7_roomFor.2.1 70 = .ok (.ireturn, 1) := by decide +kernel
theorem d_X7_roomFor_71 : decode mX7_roomFor.2.1 71 = .ok (.iinc 6 1, 3) := by decide +kernel
theorem d_X7_roomFor_74 : decode mX7_roomFor.2.1 74 = .ok (.goto (-68), 3) := by decide +kernel
theorem d_X7_roomFor_77 : decode mX7_roomFor.2.1 77 = .ok (.iload 5, 2) := by decide +kernel
theorem d_X7_roomFor_79 : decode mX7_roomFor.2.1 79 = .ok (.ifCond .eq 8, 3) := by decide +kernel
theorem d_X7_roomFor_82 : decode mX7_roomFor.2.1 82 = .ok (.bipush (-2), 2) := by decide +kernel
theorem d_X7_roomFor_84 : decode mX7_roomFor.2.1 84 = .ok (.goto 4, 3) := by decide +kernel
theorem d_X7_roomFor_87 : decode mX7_roomFor.2.1 87 = .ok (.iconst (-1), 1) := by decide +kernel
theorem d_X7_roomFor_88 : decode mX7_roomFor.2.1 88 = .ok (.ireturn, 1) := by decide +kernel
def T_X7_roomFor_88 (Q : Int32 → Mem → Prop) (s0 : Int32) (M : Mem) : Prop := Q s0 M
set_option maxRecDepth 100000 in
set_option maxHeartbeats 4000000 in
theorem B_X7_roomFor_88 {g : GG} (Q : Int32 → Mem → Prop) (s0 : Int32) (M : Mem) (h : T_X7_roomFor_88 Q s0 M) : WP g 14 mX7_roomFor 88 [none, none, none, none, none, none, none, none] [.int s0] M 0 (oI Q noX) := by
  unfold T_X7_roomFor_88 at h
  exact R_retv (pc := 88) d_X7_roomFor_88 h
def T_X7_roomFor_71 (κ6 : Nat → Int32 → Int32 → Int32 → Int32 → Int32 → Int32 → Mem → Prop) (Q : Int32 → Mem → Prop) (v0 : Nat) (v1 : Int32) (v2 : Int32) (v3 : Int32) (v4 : Int32) (v5 : Int32) (v6 : Int32) (M : Mem) : Prop := ∀ x1 : Int32, x1 = v6 + 1 → κ6 v0 v1 v2 v3 v4 v5 x1 M
set_option maxRecDepth 100000 in
set_option maxHeartbeats 4000000 in
theorem B_X7_roomFor_71 {g : GG} (Q : Int32 → Mem → Prop) (κ6 : Nat → Int32 → Int32 → Int32 → Int32 → Int32 → Int32 → Mem → Prop) (hκ6 : ∀ (v0 : Nat) (v1 : Int32) (v2 : Int32) (v3 : Int32) (v4 : Int32) (v5 : Int32) (v6 : Int32) (M : Mem), κ6 v0 v1 v2 v3 v4 v5 v6 M → WP g 14 mX7_roomFor 6 [some (.ref (g.1 + v0)), some (.int v1), some (.int v2), some (.int v3), some (.int v4), some (.int v5), some (.int v6), none] [] M 0 (oI Q noX)) (v0 : Nat) (v1 : Int32) (v2 : Int32) (v3 : Int32) (v4 : Int32) (v5 : Int32) (v6 : Int32) (M : Mem) (h : T_X7_roomFor_71 κ6 Q v0 v1 v2 v3 v4 v5 v6 M) : WP g 14 mX7_roomFor 71 [some (.ref (g.1 + v0)), some (.int v1), some (.int v2), some (.int v3), some (.int v4), some (.int v5), some (.int v6), none] [] M 0 (oI Q noX) := by
  unfold T_X7_roomFor_71 at h
  obtain ⟨x1, ex1⟩ : ∃ z : Int32, z = v6 + 1 := ⟨_, rfl⟩
  have h := h x1 ex1
  refine R_iinc (pc := 71) (v := x1) (L' := [some (.ref (g.1 + v0)), some (.int v1), some (.int v2), some (.int v3), some (.int v4), some (.int v5), some (.int x1), none]) d_X7_roomFor_71 rfl (by rw [ex1]; rfl) (by decide) rfl ?_
  refine R_goto (pc := 74) (tgt := 6) d_X7_roomFor_74 (by decide) ?_
  exact WP_sub (hκ6 v0 v1 v2 v3 v4 v5 x1 M h) (by decide) (ls_s (ls_s (ls_s (ls_s (ls_s (ls_s (ls_s (ls_n ls_0))))))))
def T_X7_roomFor_68 (κ6 : Nat → Int32 → Int32 → Int32 → Int32 → Int32 → Int32 → Mem → Prop) (Q : Int32 → Mem → Prop) (v7 : Int32) (M : Mem) : Prop := Q v7 M
set_option maxRecDepth 100000 in
set_option maxHeartbeats 4000000 in
theorem B_X7_roomFor_68 {g : GG} (Q : Int32 → Mem → Prop) (κ6 : Nat → Int32 → Int32 → Int32 → Int32 → Int32 → Int32 → Mem → Prop) (hκ6 : ∀ (v0 : Nat) (v1 : Int32) (v2 : Int32) (v3 : Int32) (v4 : Int32) (v5 : Int32) (v6 : Int32) (M : Mem), κ6 v0 v1 v2 v3 v4 v5 v6 M → WP g 14 mX7_roomFor 6 [some (.ref (g.1 + v0)), some (.int v1), some (.int v2), some (.int v3), some (.int v4), some (.int v5), some (.int v6), none] [] M 0 (oI Q noX)) (v7 : Int32) (M : Mem) (h : T_X7_roomFor_68 κ6 Q v7 M) : WP g 14 mX7_roomFor 68 [none, none, none, none, none, none, none, some (.int v7)] [] M 0 (oI Q noX) := by
  unfold T_X7_roomFor_68 at h
  refine R_iload (pc := 68) d_X7_roomFor_68 rfl ?_
  exact R_retv (pc := 70) d_X7_roomFor_70 h
def T_X7_roomFor_6 (Q : Int32 → Mem → Prop) : Nat → Nat → Int32 → Int32 → Int32 → Int32 → Int32 → Int32 → Mem → Prop
  | 0, _, _, _, _, _, _, _, _ => False
  | n + 1, v0, v1, v2, v3, v4, v5, v6, M => (kd v0 = 7) ∧ (kd (rf v0 1) = 9) ∧ (vp_in 3 (ln (rf v0 1))) ∧ if (M.1 (rf v0 1) (Int32.toNatClampNeg 3)) ≤ v6 then (if v5 = 0 then (T_X7_roomFor_88 Q (-1) M) else (T_X7_roomFor_88 Q (-2) M)) else (T_X7_orderedRoom (fun y5 M4 => T_X7_isPossible (fun y7 M6 => if y7 = 0 then (T_X7_roomFor_71 (T_X7_roomFor_6 Q n) Q v0 v1 v2 v3 v4 v5 v6 M6) else ((vp_in (66 + y5) (ln (rf v0 1))) ∧ if (M6.1 (rf v0 1) (Int32.toNatClampNeg (66 + y5))) = (1 : Int32) then (T_X7_roomFor_68 (T_X7_roomFor_6 Q n) Q y5 M6) else (T_X7_left (fun y10 M9 => if y10 < v2 then (T_X7_roomFor_71 (T_X7_roomFor_6 Q n) Q v0 v1 v2 v3 v4 1 v6 M9) else (T_X7_roomFor_68 (T_X7_roomFor_6 Q n) Q y5 M9))  v0 v3 v4 M6)))  v0 y5 v1 v2 v3 v4 M4)  v0 v1 v6 M)
set_option maxRecDepth 100000 in
set_option maxHeartbeats 4000000 in
theorem B_X7_roomFor_6 {g : GG} (Q : Int32 → Mem → Prop) : ∀ (n : Nat) (v0 : Nat) (v1 : Int32) (v2 : Int32) (v3 : Int32) (v4 : Int32) (v5 : Int32) (v6 : Int32) (M : Mem), T_X7_roomFor_6 Q n v0 v1 v2 v3 v4 v5 v6 M → WP g 14 mX7_roomFor 6 [some (.ref (g.1 + v0)), some (.int v1), some (.int v2), some (.int v3), some (.int v4), some (.int v5), some (.int v6), none] [] M 0 (oI Q noX) := by
  intro n
  induction n with
  | zero => intro v0 v1 v2 v3 v4 v5 v6 M h; exact h.elim
  | succ n hκ6 =>
    intro v0 v1 v2 v3 v4 v5 v6 M h
    unfold T_X7_roomFor_6 at h
    refine R_iload (pc := 6) d_X7_roomFor_6 rfl ?_
    refine R_aload_n (pc := 8) d_X7_roomFor_8 rfl rfl ?_
    obtain ⟨k1, h⟩ := h
    refine R_getR (pc := 9) fld_RX7_7 rfl rfl k1 d_X7_roomFor_9 ?_
    refine R_iconst (pc := 12) (v := 3) d_X7_roomFor_12 (by decide) ?_
    obtain ⟨k2, h⟩ := h
    obtain ⟨k3, h⟩ := h
    refine R_iald (pc := 13) k2 k3 d_X7_roomFor_13 ?_
    refine R_icmp_ge (pc := 14) (tgt := 77) d_X7_roomFor_14 (by decide) (fun c => ?_) (fun c => ?_)
    · rw [if_pos c] at h
      refine R_iload (pc := 77) d_X7_roomFor_77 rfl ?_
      refine R_if_eq (pc := 79) (tgt := 87) d_X7_roomFor_79 (by decide) (fun c => ?_) (fun c => ?_)
      · rw [if_pos c] at h
        refine R_iconst (pc := 87) (v := (-1)) d_X7_roomFor_87 (by decide) ?_
        exact WP_sub (B_X7_roomFor_88 Q (-1) M h) (by decide) (ls_n (ls_n (ls_n (ls_n (ls_n (ls_n (ls_n (ls_n ls_0))))))))
      · rw [if_neg c] at h
        refine R_bipush (pc := 82) (v := (-2)) d_X7_roomFor_82 (by decide) ?_
        refine R_goto (pc := 84) (tgt := 88) d_X7_roomFor_84 (by decide) ?_
        exact WP_sub (B_X7_roomFor_88 Q (-2) M h) (by decide) (ls_n (ls_n (ls_n (ls_n (ls_n (ls_n (ls_n (ls_n ls_0))))))))
    · rw [if_neg c] at h
      refine R_aload_n (pc := 17) d_X7_roomFor_17 rfl rfl ?_
      refine R_iload_n (pc := 18) d_X7_roomFor_18 rfl rfl ?_
      refine R_iload (pc := 19) d_X7_roomFor_19 rfl ?_
      refine R_callV (pc := 21) (As := [.int v1, .int v6]) (rest := []) (c_X7_orderedRoom (g := g) v0 v1 v6 M _ h) rfl rfl cal_RX7_84 ins_X7_orderedRoom sel_X7_orderedRoom (cls_at k1 clsOK7) (by decide) (by decide) rfl rfl (Nat.le_of_ble_eq_true rfl) d_X7_roomFor_21 (k_I (fun y5 M4 h => ?_)) (fun _ _ h9 => False.elim h9)
      try dsimp only at h
      refine R_istore (pc := 24) (L' := [some (.ref (g.1 + v0)), some (.int v1), some (.int v2), some (.int v3), some (.int v4), some (.int v5), some (.int v6), some (.int y5)]) d_X7_roomFor_24 (by decide) rfl ?_
      refine R_aload_n (pc := 26) d_X7_roomFor_26 rfl rfl ?_
      refine R_iload (pc := 27) d_X7_roomFor_27 rfl ?_
      refine R_iload_n (pc := 29) d_X7_roomFor_29 rfl rfl ?_
      refine R_iload_n (pc := 30) d_X7_roomFor_30 rfl rfl ?_
      refine R_iload_n (pc := 31) d_X7_roomFor_31 rfl rfl ?_
      refine R_iload (pc := 32) d_X7_roomFor_32 rfl ?_
      refine R_callV (pc := 34) (As := [.int y5, .int v1, .int v2, .int v3, .int v4]) (rest := []) (c_X7_isPossible (g := g) v0 y5 v1 v2 v3 v4 M4 _ h) rfl rfl cal_RX7_87 ins_X7_isPossible sel_X7_isPossible (cls_at k1 clsOK7) (by decide) (by decide) rfl rfl (Nat.le_of_ble_eq_true rfl) d_X7_roomFor_34 (k_Z (fun y7 M6 h => ?_)) (fun _ _ h9 => False.elim h9)
      try dsimp only at h
      refine R_if_eq (pc := 37) (tgt := 71) d_X7_roomFor_37 (by decide) (fun c => ?_) (fun c => ?_)
      · rw [if_pos c] at h
        exact WP_sub (B_X7_roomFor_71 Q (T_X7_roomFor_6 Q n) hκ6 v0 v1 v2 v3 v4 v5 v6 M6 h) (by decide) (ls_s (ls_s (ls_s (ls_s (ls_s (ls_s (ls_s (ls_n ls_0))))))))
      · rw [if_neg c] at h
        refine R_iconst (pc := 40) (v := 1) d_X7_roomFor_40 (by decide) ?_
        refine R_istore (pc := 41) (L' := [some (.ref (g.1 + v0)), some (.int v1), some (.int v2), some (.int v3), some (.int v4), some (.int 1), some (.int v6), some (.int y5)]) d_X7_roomFor_41 (by decide) rfl ?_
        refine R_aload_n (pc := 43) d_X7_roomFor_43 rfl rfl ?_
        refine R_getR (pc := 44) fld_RX7_7 rfl rfl k1 d_X7_roomFor_44 ?_
        refine R_bipush (pc := 47) (v := 66) d_X7_roomFor_47 (by decide) ?_
        refine R_iload (pc := 49) d_X7_roomFor_49 rfl ?_
        refine R_iadd (pc := 51) d_X7_roomFor_51 ?_
        obtain ⟨k8, h⟩ := h
        refine R_iald (pc := 52) k2 k8 d_X7_roomFor_52 ?_
        refine R_iconst (pc := 53) (v := 1) d_X7_roomFor_53 (by decide) ?_
        refine R_icmp_eq (pc := 54) (tgt := 68) d_X7_roomFor_54 (by decide) (fun c => ?_) (fun c => ?_)
        · rw [if_pos c] at h
          exact WP_sub (B_X7_roomFor_68 Q (T_X7_roomFor_6 Q n) hκ6 y5 M6 h) (by decide) (ls_n (ls_n (ls_n (ls_n (ls_n (ls_n (ls_n (ls_s ls_0))))))))
        · rw [if_neg c] at h
          refine R_aload_n (pc := 57) d_X7_roomFor_57 rfl rfl ?_
          refine R_iload_n (pc := 58) d_X7_roomFor_58 rfl rfl ?_
          refine R_iload (pc := 59) d_X7_roomFor_59 rfl ?_
          refine R_callV (pc := 61) (As := [.int v3, .int v4]) (rest := []) (c_X7_left (g := g) v0 v3 v4 M6 _ h) rfl rfl cal_RX7_91 ins_X7_left sel_X7_left (cls_at k1 clsOK7) (by decide) (by decide) rfl rfl (Nat.le_of_ble_eq_true rfl) d_X7_roomFor_61 (k_I (fun y10 M9 h => ?_)) (fun _ _ h9 => False.elim h9)
          try dsimp only at h
          refine R_iload_n (pc := 64) d_X7_roomFor_64 rfl rfl ?_
          refine R_icmp_lt (pc := 65) (tgt := 71) d_X7_roomFor_65 (by decide) (fun c => ?_) (fun c => ?_)
          · rw [if_pos c] at h
            exact WP_sub (B_X7_roomFor_71 Q (T_X7_roomFor_6 Q n) hκ6 v0 v1 v2 v3 v4 1 v6 M9 h) (by decide) (ls_s (ls_s (ls_s (ls_s (ls_s (ls_s (ls_s (ls_n ls_0))))))))
          · rw [if_neg c] at h
            exact WP_sub (B_X7_roomFor_68 Q (T_X7_roomFor_6 Q n) hκ6 y5 M9 h) (by decide) (ls_n (ls_n (ls_n (ls_n (ls_n (ls_n (ls_n (ls_s ls_0))))))))
def T_X7_roomFor (Q : Int32 → Mem → Prop) (v0 : Nat) (v1 : Int32) (v2 : Int32) (v3 : Int32) (v4 : Int32) (M : Mem) : Prop := (∃ N : Nat, T_X7_roomFor_6 Q N v0 v1 v2 v3 v4 0 0 M)
set_option maxRecDepth 100000 in
set_option maxHeartbeats 4000000 in
theorem c_X7_roomFor {g : GG} (v0 : Nat) (v1 : Int32) (v2 : Int32) (v3 : Int32) (v4 : Int32) (M : Mem) (Q : Int32 → Mem → Prop) (h : T_X7_roomFor Q v0 v1 v2 v3 v4 M) : CT g 14 mX7_roomFor [.ref (g.1 + v0), .int v1, .int v2, .int v3, .int v4] M 0 (oI Q noX) := by
  refine CT_of (L := [some (.ref (g.1 + v0)), some (.int v1), some (.int v2), some (.int v3), some (.int v4), none, none, none]) (by decide) rfl (Nat.le_of_ble_eq_true rfl) (ro_I rfl) rfl ?_
  unfold T_X7_roomFor at h
  refine R_iconst (pc := 0) (v := 0) d_X7_roomFor_0 (by decide) ?_
  refine R_istore (pc := 1) (L' := [some (.ref (g.1 + v0)), some (.int v1), some (.int v2), some (.int v3), some (.int v4), some (.int 0), none, none]) d_X7_roomFor_1 (by decide) rfl ?_
  refine R_iconst (pc := 3) (v := 0) d_X7_roomFor_3 (by decide) ?_
  refine R_istore (pc := 4) (L' := [some (.ref (g.1 + v0)), some (.int v1), some (.int v2), some (.int v3), some (.int v4), some (.int 0), some (.int 0), none]) d_X7_roomFor_4 (by decide) rfl ?_
  obtain ⟨N, h⟩ := h
  exact WP_sub (B_X7_roomFor_6 Q N v0 v1 v2 v3 v4 0 0 M h) (by decide) (ls_s (ls_s (ls_s (ls_s (ls_s (ls_s (ls_s (ls_n ls_0))))))))
/-! X7_doesCount -/
theorem d_X7_doesCount_0 : decode mX7_doesCount.2.1 0 = .ok (.iconst 0, 1) := by decide +kernel
theorem d_X7_doesCount_1 : decode mX7_doesCount.2.1 1 = .ok (.istore_n 2, 1) := by decide +kernel
theorem d_X7_doesCount_2 : decode mX7_doesCount.2.1 2 = .ok (.iconst 0, 1) := by decide +kernel
theorem d_X7_doesCount_3 : decode mX7_doesCount.2.1 3 = .ok (.istore_n 3, 1) := by decide +kernel
theorem d_X7_doesCount_4 : decode mX7_doesCount.2.1 4 = .ok (.iload_n 3, 1) := by decide +kernel
theorem d_X7_doesCount_5 : decode mX7_doesCount.2.1 5 = .ok (.aload_n 0, 1) := by decide +kernel
theorem d_X7_doesCount_6 : decode mX7_doesCount.2.1 6 = .ok (.getfield 7, 3) := by decide +kernel
theorem d_X7_doesCount_9 : decode mX7_doesCount.2.1 9 = .ok (.iconst 2, 1) := by decide +kernel
theorem d_X7_doesCount_10 : decode mX7_doesCount.2.1 10 = .ok (.iaload, 1) := by decide +kernel
theorem d_X7_doesCount_11 : decode mX7_doesCount.2.1 11 = .ok (.if_icmp .ge 41, 3) := by decide +kernel
theorem d_X7_doesCount_14 : decode mX7_doesCount.2.1 14 = .ok (.iload_n 2, 1) := by decide +kernel
theorem d_X7_doesCount_15 : decode mX7_doesCount.2.1 15 = .ok (.ifCond .ne 25, 3) := by decide +kernel
theorem d_X7_doesCount_18 : decode mX7_doesCount.2.1 18 = .ok (.iload_n 1, 1) := by decide +kernel
theorem d_X7_doesCount_19 : decode mX7_doesCount.2.1 19 = .ok (.iload_n 3, 1) := by decide +kernel
theorem d_X7_doesCount_20 : decode mX7_doesCount.2.1 20 = .ok (.ishr, 1) := by decide +kernel
theorem d_X7_doesCount_21 : decode mX7_doesCount.2.1 21 = .ok (.iconst 1, 1) := by decide +kernel
theorem d_X7_doesCount_22 : decode mX7_doesCount.2.1 22 = .ok (.iand, 1) := by decide +kernel
theorem d_X7_doesCount_23 : decode mX7_doesCount.2.1 23 = .ok (.iconst 1, 1) := by decide +kernel
theorem d_X7_doesCount_24 : decode mX7_doesCount.2.1 24 = .ok (.if_icmp .ne 20, 3) := by decide +kernel
theorem d_X7_doesCount_27 : decode mX7_doesCount.2.1 27 = .ok (.aload_n 0, 1) := by decide +kernel
theorem d_X7_doesCount_28 : decode mX7_doesCount.2.1 28 = .ok (.getfield 7, 3) := by decide +kernel
theorem d_X7_doesCount_31 : decode mX7_doesCount.2.1 31 = .ok (.bipush 42, 2) := by decide +kernel
theorem d_X7_doesCount_33 : decode mX7_doesCount.2.1 33 = .ok (.iload_n 3, 1) := by decide +kernel
theorem d_X7_doesCount_34 : decode mX7_doesCount.2.1 34 = .ok (.iadd, 1) := by decide +kernel
theorem d_X7_doesCount_35 : decode mX7_doesCount.2.1 35 = .ok (.iaload, 1) := by decide +kernel
theorem d_X7_doesCount_36 : decode mX7_doesCount.2.1 36 = .ok (.iconst 2, 1) := by decide +kernel
theorem d_X7_doesCount_37 : decode mX7_doesCount.2.1 37 = .ok (.if_icmp .eq 7, 3) := by decide +kernel
theorem d_X7_doesCount_40 : decode mX7_doesCount.2.1 40 = .ok (.iconst 1, 1) := by decide +kernel
theorem d_X7_doesCount_41 : decode mX7_doesCount.2.1 41 = .ok (.goto 4, 3) := by decide +kernel
theorem d_X7_doesCount_44 : decode mX7_doesCount.2.1 44 = .ok (.iconst 0, 1) := by decide +kernel
theorem d_X7_doesCount_45 : decode mX7_doesCount.2.1 45 = .ok (.istore_n 2, 1) := by decide +kernel
theorem d_X7_doesCount_46 : decode mX7_doesCount.2.1 46 = .ok (.iinc 3 1, 3) := by decide +kernel
theorem d_X7_doesCount_49 : decode mX7_doesCount.2.1 49 = .ok (.goto (-45), 3) := by decide +kernel
theorem d_X7_doesCount_52 : decode mX7_doesCount.2.1 52 = .ok (.iload_n 2, 1) := by decide +kernel
theorem d_X7_doesCount_53 : decode mX7_doesCount.2.1 53 = .ok (.ireturn, 1) := by decide +kernel
def T_X7_doesCount_45 (κ4 : Nat → Int32 → Int32 → Int32 → Mem → Prop) (Q : Int32 → Mem → Prop) (v0 : Nat) (v1 : Int32) (v3 : Int32) (s0 : Int32) (M : Mem) : Prop := ∀ x1 : Int32, x1 = v3 + 1 → κ4 v0 v1 s0 x1 M
set_option maxRecDepth 100000 in
set_option maxHeartbeats 4000000 in
theorem B_X7_doesCount_45 {g : GG} (Q : Int32 → Mem → Prop) (κ4 : Nat → Int32 → Int32 → Int32 → Mem → Prop) (hκ4 : ∀ (v0 : Nat) (v1 : Int32) (v2 : Int32) (v3 : Int32) (M : Mem), κ4 v0 v1 v2 v3 M → WP g 9 mX7_doesCount 4 [some (.ref (g.1 + v0)), some (.int v1), some (.int v2), some (.int v3)] [] M 0 (oZ Q noX)) (v0 : Nat) (v1 : Int32) (v3 : Int32) (s0 : Int32) (M : Mem) (h : T_X7_doesCount_45 κ4 Q v0 v1 v3 s0 M) : WP g 9 mX7_doesCount 45 [some (.ref (g.1 + v0)), some (.int v1), none, some (.int v3)] [.int s0] M 0 (oZ Q noX) := by
  unfold T_X7_doesCount_45 at h
  refine R_istore_n (pc := 45) (L' := [some (.ref (g.1 + v0)), some (.int v1), some (.int s0), some (.int v3)]) d_X7_doesCount_45 rfl (by decide) rfl ?_
  obtain ⟨x1, ex1⟩ : ∃ z : Int32, z = v3 + 1 := ⟨_, rfl⟩
  have h := h x1 ex1
  refine R_iinc (pc := 46) (v := x1) (L' := [some (.ref (g.1 + v0)), some (.int v1), some (.int s0), some (.int x1)]) d_X7_doesCount_46 rfl (by rw [ex1]; rfl) (by decide) rfl ?_
  refine R_goto (pc := 49) (tgt := 4) d_X7_doesCount_49 (by decide) ?_
  exact WP_sub (hκ4 v0 v1 s0 x1 M h) (by decide) (ls_s (ls_s (ls_s (ls_s ls_0))))
def T_X7_doesCount_44 (κ4 : Nat → Int32 → Int32 → Int32 → Mem → Prop) (Q : Int32 → Mem → Prop) (v0 : Nat) (v1 : Int32) (v3 : Int32) (M : Mem) : Prop := T_X7_doesCount_45 κ4 Q v0 v1 v3 0 M
set_option maxRecDepth 100000 in
set_option maxHeartbeats 4000000 in
theorem B_X7_doesCount_44 {g : GG} (Q : Int32 → Mem → Prop) (κ4 : Nat → Int32 → Int32 → Int32 → Mem → Prop) (hκ4 : ∀ (v0 : Nat) (v1 : Int32) (v2 : Int32) (v3 : Int32) (M : Mem), κ4 v0 v1 v2 v3 M → WP g 9 mX7_doesCount 4 [some (.ref (g.1 + v0)), some (.int v1), some (.int v2), some (.int v3)] [] M 0 (oZ Q noX)) (v0 : Nat) (v1 : Int32) (v3 : Int32) (M : Mem) (h : T_X7_doesCount_44 κ4 Q v0 v1 v3 M) : WP g 9 mX7_doesCount 44 [some (.ref (g.1 + v0)), some (.int v1), none, some (.int v3)] [] M 0 (oZ Q noX) := by
  unfold T_X7_doesCount_44 at h
  refine R_iconst (pc := 44) (v := 0) d_X7_doesCount_44 (by decide) ?_
  exact WP_sub (B_X7_doesCount_45 Q κ4 hκ4 v0 v1 v3 0 M h) (by decide) (ls_s (ls_s (ls_n (ls_s ls_0))))
def T_X7_doesCount_40 (κ4 : Nat → Int32 → Int32 → Int32 → Mem → Prop) (Q : Int32 → Mem → Prop) (v0 : Nat) (v1 : Int32) (v3 : Int32) (M : Mem) : Prop := T_X7_doesCount_45 κ4 Q v0 v1 v3 1 M
set_option maxRecDepth 100000 in
set_option maxHeartbeats 4000000 in
theorem B_X7_doesCount_40 {g : GG} (Q : Int32 → Mem → Prop) (κ4 : Nat → Int32 → Int32 → Int32 → Mem → Prop) (hκ4 : ∀ (v0 : Nat) (v1 : Int32) (v2 : Int32) (v3 : Int32) (M : Mem), κ4 v0 v1 v2 v3 M → WP g 9 mX7_doesCount 4 [some (.ref (g.1 + v0)), some (.int v1), some (.int v2), some (.int v3)] [] M 0 (oZ Q noX)) (v0 : Nat) (v1 : Int32) (v3 : Int32) (M : Mem) (h : T_X7_doesCount_40 κ4 Q v0 v1 v3 M) : WP g 9 mX7_doesCount 40 [some (.ref (g.1 + v0)), some (.int v1), none, some (.int v3)] [] M 0 (oZ Q noX) := by
  unfold T_X7_doesCount_40 at h
  refine R_iconst (pc := 40) (v := 1) d_X7_doesCount_40 (by decide) ?_
  refine R_goto (pc := 41) (tgt := 45) d_X7_doesCount_41 (by decide) ?_
  exact WP_sub (B_X7_doesCount_45 Q κ4 hκ4 v0 v1 v3 1 M h) (by decide) (ls_s (ls_s (ls_n (ls_s ls_0))))
def T_X7_doesCount_4 (Q : Int32 → Mem → Prop) : Nat → Nat → Int32 → Int32 → Int32 → Mem → Prop
  | 0, _, _, _, _, _ => False
  | n + 1, v0, v1, v2, v3, M => (kd v0 = 7) ∧ (kd (rf v0 1) = 9) ∧ (vp_in 2 (ln (rf v0 1))) ∧ if (M.1 (rf v0 1) (Int32.toNatClampNeg 2)) ≤ v3 then (((v2 : Int32) = 0 ∨ (v2 : Int32) = 1) ∧ Q v2 M) else (if v2 = 0 then (if ((v1 >>> (v3 &&& 31)) &&& 1) = (1 : Int32) then ((vp_in (42 + v3) (ln (rf v0 1))) ∧ if (M.1 (rf v0 1) (Int32.toNatClampNeg (42 + v3))) = (2 : Int32) then (T_X7_doesCount_44 (T_X7_doesCount_4 Q n) Q v0 v1 v3 M) else (T_X7_doesCount_40 (T_X7_doesCount_4 Q n) Q v0 v1 v3 M)) else (T_X7_doesCount_44 (T_X7_doesCount_4 Q n) Q v0 v1 v3 M)) else (T_X7_doesCount_40 (T_X7_doesCount_4 Q n) Q v0 v1 v3 M))
set_option maxRecDepth 100000 in
set_option maxHeartbeats 4000000 in
theorem B_X7_doesCount_4 {g : GG} (Q : Int32 → Mem → Prop) : ∀ (n : Nat) (v0 : Nat) (v1 : Int32) (v2 : Int32) (v3 : Int32) (M : Mem), T_X7_doesCount_4 Q n v0 v1 v2 v3 M → WP g 9 mX7_doesCount 4 [some (.ref (g.1 + v0)), some (.int v1), some (.int v2), some (.int v3)] [] M 0 (oZ Q noX) := by
  intro n
  induction n with
  | zero => intro v0 v1 v2 v3 M h; exact h.elim
  | succ n hκ4 =>
    intro v0 v1 v2 v3 M h
    unfold T_X7_doesCount_4 at h
    refine R_iload_n (pc := 4) d_X7_doesCount_4 rfl rfl ?_
    refine R_aload_n (pc := 5) d_X7_doesCount_5 rfl rfl ?_
    obtain ⟨k1, h⟩ := h
    refine R_getR (pc := 6) fld_RX7_7 rfl rfl k1 d_X7_doesCount_6 ?_
    refine R_iconst (pc := 9) (v := 2) d_X7_doesCount_9 (by decide) ?_
    obtain ⟨k2, h⟩ := h
    obtain ⟨k3, h⟩ := h
    refine R_iald (pc := 10) k2 k3 d_X7_doesCount_10 ?_
    refine R_icmp_ge (pc := 11) (tgt := 52) d_X7_doesCount_11 (by decide) (fun c => ?_) (fun c => ?_)
    · rw [if_pos c] at h
      refine R_iload_n (pc := 52) d_X7_doesCount_52 rfl rfl ?_
      exact R_retv (pc := 53) d_X7_doesCount_53 h
    · rw [if_neg c] at h
      refine R_iload_n (pc := 14) d_X7_doesCount_14 rfl rfl ?_
      refine R_if_ne (pc := 15) (tgt := 40) d_X7_doesCount_15 (by decide) (fun c => ?_) (fun c => ?_)
      · rw [if_neg c] at h
        exact WP_sub (B_X7_doesCount_40 Q (T_X7_doesCount_4 Q n) hκ4 v0 v1 v3 M h) (by decide) (ls_s (ls_s (ls_n (ls_s ls_0))))
      · rw [if_pos c] at h
        refine R_iload_n (pc := 18) d_X7_doesCount_18 rfl rfl ?_
        refine R_iload_n (pc := 19) d_X7_doesCount_19 rfl rfl ?_
        refine R_ishr (pc := 20) d_X7_doesCount_20 ?_
        refine R_iconst (pc := 21) (v := 1) d_X7_doesCount_21 (by decide) ?_
        refine R_iand (pc := 22) d_X7_doesCount_22 ?_
        refine R_iconst (pc := 23) (v := 1) d_X7_doesCount_23 (by decide) ?_
        refine R_icmp_ne (pc := 24) (tgt := 44) d_X7_doesCount_24 (by decide) (fun c => ?_) (fun c => ?_)
        · rw [if_neg c] at h
          exact WP_sub (B_X7_doesCount_44 Q (T_X7_doesCount_4 Q n) hκ4 v0 v1 v3 M h) (by decide) (ls_s (ls_s (ls_n (ls_s ls_0))))
        · rw [if_pos c] at h
          refine R_aload_n (pc := 27) d_X7_doesCount_27 rfl rfl ?_
          refine R_getR (pc := 28) fld_RX7_7 rfl rfl k1 d_X7_doesCount_28 ?_
          refine R_bipush (pc := 31) (v := 42) d_X7_doesCount_31 (by decide) ?_
          refine R_iload_n (pc := 33) d_X7_doesCount_33 rfl rfl ?_
          refine R_iadd (pc := 34) d_X7_doesCount_34 ?_
          obtain ⟨k4, h⟩ := h
          refine R_iald (pc := 35) k2 k4 d_X7_doesCount_35 ?_
          refine R_iconst (pc := 36) (v := 2) d_X7_doesCount_36 (by decide) ?_
          refine R_icmp_eq (pc := 37) (tgt := 44) d_X7_doesCount_37 (by decide) (fun c => ?_) (fun c => ?_)
          · rw [if_pos c] at h
            exact WP_sub (B_X7_doesCount_44 Q (T_X7_doesCount_4 Q n) hκ4 v0 v1 v3 M h) (by decide) (ls_s (ls_s (ls_n (ls_s ls_0))))
          · rw [if_neg c] at h
            exact WP_sub (B_X7_doesCount_40 Q (T_X7_doesCount_4 Q n) hκ4 v0 v1 v3 M h) (by decide) (ls_s (ls_s (ls_n (ls_s ls_0))))
def T_X7_doesCount (Q : Int32 → Mem → Prop) (v0 : Nat) (v1 : Int32) (M : Mem) : Prop := (∃ N : Nat, T_X7_doesCount_4 Q N v0 v1 0 0 M)
set_option maxRecDepth 100000 in
set_option maxHeartbeats 4000000 in
theorem c_X7_doesCount {g : GG} (v0 : Nat) (v1 : Int32) (M : Mem) (Q : Int32 → Mem → Prop) (h : T_X7_doesCount Q v0 v1 M) : CT g 9 mX7_doesCount [.ref (g.1 + v0), .int v1] M 0 (oZ Q noX) := by
  refine CT_of (L := [some (.ref (g.1 + v0)), some (.int v1), none, none]) (by decide) rfl (Nat.le_of_ble_eq_true rfl) (ro_Z rfl) rfl ?_
  unfold T_X7_doesCount at h
  refine R_iconst (pc := 0) (v := 0) d_X7_doesCount_0 (by decide) ?_
  refine R_istore_n (pc := 1) (L' := [some (.ref (g.1 + v0)), some (.int v1), some (.int 0), none]) d_X7_doesCount_1 rfl (by decide) rfl ?_
  refine R_iconst (pc := 2) (v := 0) d_X7_doesCount_2 (by decide) ?_
  refine R_istore_n (pc := 3) (L' := [some (.ref (g.1 + v0)), some (.int v1), some (.int 0), some (.int 0)]) d_X7_doesCount_3 rfl (by decide) rfl ?_
  obtain ⟨N, h⟩ := h
  exact WP_sub (B_X7_doesCount_4 Q N v0 v1 0 0 M h) (by decide) (ls_s (ls_s (ls_s (ls_s ls_0))))
/-! X7_breaks -/
theorem d_X7_breaks_0 : decode mX7_breaks.2.1 0 = .ok (.sipush 438, 3) := by decide +kernel
theorem d_X7_breaks_3 : decode mX7_breaks.2.1 3 = .ok (.iconst 5, 1) := by decide +kernel
theorem d_X7_breaks_4 : decode mX7_breaks.2.1 4 = .ok (.iload_n 1, 1) := by decide +kernel
theorem d_X7_breaks_5 : decode mX7_breaks.2.1 5 = .ok (.imul, 1) := by decide +kernel
theorem d_X7_breaks_6 : decode mX7_breaks.2.1 6 = .ok (.iadd, 1) := by decide +kernel
theorem d_X7_breaks_7 : decode mX7_breaks.2.1 7 = .ok (.istore 5, 2) := by decide +kernel
theorem d_X7_breaks_9 : decode mX7_breaks.2.1 9 = .ok (.aload_n 0, 1) := by decide +kernel
theorem d_X7_breaks_10 : decode mX7_breaks.2.1 10 = .ok (.getfield 7, 3) := by decide +kernel
theorem d_X7_breaks_13 : decode mX7_breaks.2.1 13 = .ok (.iload 5, 2) := by decide +kernel
theorem d_X7_breaks_15 : decode mX7_breaks.2.1 15 = .ok (.iaload, 1) := by decide +kernel
theorem d_X7_breaks_16 : decode mX7_breaks.2.1 16 = .ok (.iconst 2, 1) := by decide +kernel
theorem d_X7_breaks_17 : decode mX7_breaks.2.1 17 = .ok (.if_icmp .eq 42, 3) := by decide +kernel
theorem d_X7_breaks_20 : decode mX7_breaks.2.1 20 = .ok (.aload_n 0, 1) := by decide +kernel
theorem d_X7_breaks_21 : decode mX7_breaks.2.1 21 = .ok (.getfield 7, 3) := by decide +kernel
theorem d_X7_breaks_24 : decode mX7_breaks.2.1 24 = .ok (.iload 5, 2) := by decide +kernel
theorem d_X7_breaks_26 : decode mX7_breaks.2.1 26 = .ok (.iconst 1, 1) := by decide +kernel
theorem d_X7_breaks_27 : decode mX7_breaks.2.1 27 = .ok (.iadd, 1) := by decide +kernel
theorem d_X7_breaks_28 : decode mX7_breaks.2.1 28 = .ok (.iaload, 1) := by decide +kernel
theorem d_X7_breaks_29 : decode mX7_breaks.2.1 29 = .ok (.iload_n 2, 1) := by decide +kernel
theorem d_X7_breaks_30 : decode mX7_breaks.2.1 30 = .ok (.if_icmp .ne 29, 3) := by decide +kernel
theorem d_X7_breaks_33 : decode mX7_breaks.2.1 33 = .ok (.iload 4, 2) := by decide +kernel
theorem d_X7_breaks_35 : decode mX7_breaks.2.1 35 = .ok (.aload_n 0, 1) := by decide +kernel
theorem d_X7_breaks_36 : decode mX7_breaks.2.1 36 = .ok (.getfield 7, 3) := by decide +kernel
theorem d_X7_breaks_39 : decode mX7_breaks.2.1 39 = .ok (.iload 5, 2) := by decide +kernel
theorem d_X7_breaks_41 : decode mX7_breaks.2.1 41 = .ok (.iconst 3, 1) := by decide +kernel
theorem d_X7_breaks_42 : decode mX7_breaks.2.1 42 = .ok (.iadd, 1) := by decide +kernel
theorem d_X7_breaks_43 : decode mX7_breaks.2.1 43 = .ok (.iaload, 1) := by decide +kernel
theorem d_X7_breaks_44 : decode mX7_breaks.2.1 44 = .ok (.aload_n 0, 1) := by decide +kernel
theorem d_X7_breaks_45 : decode mX7_breaks.2.1 45 = .ok (.getfield 7, 3) := by decide +kernel
theorem d_X7_breaks_48 : decode mX7_breaks.2.1 48 = .ok (.iload 5, 2) := by decide +kernel
theorem d_X7_breaks_50 : decode mX7_breaks.2.1 50 = .ok (.iconst 4, 1) := by decide +kernel
theorem d_X7_breaks_51 : decode mX7_breaks.2.1 51 = .ok (.iadd, 1) := by decide +kernel
theorem d_X7_breaks_52 : decode mX7_breaks.2.1 52 = .ok (.iaload, 1) := by decide +kernel
theorem d_X7_breaks_53 : decode mX7_breaks.2.1 53 = .ok (.invokestatic 41, 3) := by decide +kernel
theorem d_X7_breaks_56 : decode mX7_breaks.2.1 56 = .ok (.ifCond .ne 5, 3) := by decide +kernel
theorem d_X7_breaks_59 : decode mX7_breaks.2.1 59 = .ok (.iconst 0, 1) := by decide +kernel
theorem d_X7_breaks_60 : decode mX7_breaks.2.1 60 = .ok (.ireturn, 1) := by decide +kernel
theorem d_X7_breaks_61 : decode mX7_breaks.2.1 61 = .ok (.aload_n 0, 1) := by decide +kernel
theorem d_X7_breaks_62 : decode mX7_breaks.2.1 62 = .ok (.getfield 7, 3) := by decide +kernel
theorem d_X7_breaks_65 : decode mX7_breaks.2.1 65 = .ok (.iload 5, 2) := by decide +kernel
theorem d_X7_breaks_67 : decode mX7_breaks.2.1 67 = .ok (.iaload, 1) := by decide +kernel
theorem d_X7_breaks_68 : decode mX7_breaks.2.1 68 = .ok (.ifCond .ne 26, 3) := by decide +kernel
theorem d_X7_breaks_71 : decode mX7_breaks.2.1 71 = .ok (.iload_n 3, 1) := by decide +kernel
theorem d_X7_breaks_72 : decode mX7_breaks.2.1 72 = .ok (.aload_n 0, 1) := by decide +kernel
theorem d_X7_breaks_73 : decode mX7_breaks.2.1 73 = .ok (.getfield 7, 3) := by decide +kernel
theorem d_X7_breaks_76 : decode mX7_breaks.2.1 76 = .ok (.iload 5, 2) := by decide +kernel
theorem d_X7_breaks_78 : decode mX7_breaks.2.1 78 = .ok (.iconst 2, 1) := by decide +kernel
theorem d_X7_breaks_79 : decode mX7_breaks.2.1 79 = .ok (.iadd, 1) := by decide +kernel
theorem d_X7_breaks_80 : decode mX7_breaks.2.1 80 = .ok (.iaload, 1) := by decide +kernel
theorem d_X7_breaks_81 : decode mX7_breaks.2.1 81 = .ok (.ishr, 1) := by decide +kernel
theorem d_X7_breaks_82 : decode mX7_breaks.2.1 82 = .ok (.iconst 1, 1) := by decide +kernel
theorem d_X7_breaks_83 : decode mX7_breaks.2.1 83 = .ok (.iand, 1) := by decide +kernel
theorem d_X7_breaks_84 : decode mX7_breaks.2.1 84 = .ok (.iconst 1, 1) := by decide +kernel
theorem d_X7_breaks_85 : decode mX7_breaks.2.1 85 = .ok (.if_icmp .ne 7, 3) := by decide +kernel
theorem d_X7_breaks_88 : decode mX7_breaks.2.1 88 = .ok (.iconst 1, 1) := by decide +kernel
theorem d_X7_breaks_89 : decode mX7_breaks.2.1 89 = .ok (.goto 4, 3) := by decide +kernel
theorem d_X7_breaks_92 : decode mX7_breaks.2.1 92 = .ok (.iconst 0, 1) := by decide +kernel
theorem d_X7_breaks_93 : decode mX7_breaks.2.1 93 = .ok (.ireturn, 1) := by decide +kernel
theorem d_X7_breaks_94 : decode mX7_breaks.2.1 94 = .ok (.iconst 0, 1) := by decide +kernel
theorem d_X7_breaks_95 : decode mX7_breaks.2.1 95 = .ok (.istore 6, 2) := by decide +kernel
theorem d_X7_breaks_97 : decode mX7_breaks.2.1 97 = .ok (.iconst 0, 1) := by decide +kernel
theorem d_X7_breaks_98 : decode mX7_breaks.2.1 98 = .ok (.istore 7, 2) := by decide +kernel
theorem d_X7_breaks_100 : decode mX7_breaks.2.1 100 = .ok (.iload 7, 2) := by decide +kernel
theorem d_X7_breaks_102 : decode mX7_breaks.2.1 102 = .ok (.aload_n 0, 1) := by decide +kernel
theorem d_X7_breaks_103 : decode mX7_breaks.2.1 103 = .ok (.getfield 7, 3) := by decide +kernel
theorem d_X7_breaks_106 : decode mX7_breaks.2.1 106 = .ok (.iconst 2, 1) := by decide +kernel
theorem d_X7_breaks_107 : decode mX7_breaks.2.1 107 = .ok (.iaload, 1) := by decide +kernel
theorem d_X7_breaks_108 : decode mX7_breaks.2.1 108 = .ok (.if_icmp .ge 53, 3) := by decide +kernel
theorem d_X7_breaks_111 : decode mX7_breaks.2.1 111 = .ok (.iload 6, 2) := by decide +kernel
theorem d_X7_breaks_113 : decode mX7_breaks.2.1 113 = .ok (.ifCond .ne 35, 3) := by decide +kernel
theorem d_X7_breaks_116 : decode mX7_breaks.2.1 116 = .ok (.iload_n 3, 1) := by decide +kernel
theorem d_X7_breaks_117 : decode mX7_breaks.2.1 117 = .ok (.iload 7, 2) := by decide +kernel
theorem d_X7_breaks_119 : decode mX7_breaks.2.1 119 = .ok (.ishr, 1) := by decide +kernel
theorem d_X7_breaks_120 : decode mX7_breaks.2.1 120 = .ok (.iconst 1, 1) := by decide +kernel
theorem d_X7_breaks_121 : decode mX7_breaks.2.1 121 = .ok (.iand, 1) := by decide +kernel
theorem d_X7_breaks_122 : decode mX7_breaks.2.1 122 = .ok (.iconst 1, 1) := by decide +kernel
theorem d_X7_breaks_123 : decode mX7_breaks.2.1 123 = .ok (.if_icmp .ne 29, 3) := by decide +kernel
theorem d_X7_breaks_126 : decode mX7_breaks.2.1 126 = .ok (.aload_n 0, 1) := by decide +kernel
theorem d_X7_breaks_127 : decode mX7_breaks.2.1 127 = .ok (.getfield 7, 3) := by decide +kernel
theorem d_X7_breaks_130 : decode mX7_breaks.2.1 130 = .ok (.bipush 42, 2) := by decide +kernel
theorem d_X7_breaks_132 : decode mX7_breaks.2.1 132 = .ok (.iload 7, 2) := by decide +kernel
theorem d_X7_breaks_134 : decode mX7_breaks.2.1 134 = .ok (.iadd, 1) := by decide +kernel
theorem d_X7_breaks_135 : decode mX7_breaks.2.1 135 = .ok (.iaload, 1) := by decide +kernel
theorem d_X7_breaks_136 : decode mX7_breaks.2.1 136 = .ok (.aload_n 0, 1) := by decide +kernel
theorem d_X7_breaks_137 : decode mX7_breaks.2.1 137 = .ok (.getfield 7, 3) := by decide +kernel
theorem d_X7_breaks_140 : decode mX7_breaks.2.1 140 = .ok (.iload 5, 2) := by decide +kernel
theorem d_X7_breaks_142 : decode mX7_breaks.2.1 142 = .ok (.iconst 2, 1) := by decide +kernel
theorem d_X7_breaks_143 : decode mX7_breaks.2.1 143 = .ok (.iadd, 1) := by decide +kernel
theorem d_X7_breaks_144 : decode mX7_breaks.2.1 144 = .ok (.iaload, 1) := by decide +kernel
theorem d_X7_breaks_145 : decode mX7_breaks.2.1 145 = .ok (.if_icmp .ne 7, 3) := by decide +kernel
theorem d_X7_breaks_148 : decode mX7_breaks.2.1 148 = .ok (.iconst 1, 1) := by decide +kernel
theorem d_X7_breaks_149 : decode mX7_breaks.2.1 149 = .ok (.goto 4, 3) := by decide +kernel
theorem d_X7_breaks_152 : decode mX7_breaks.2.1 152 = .ok (.iconst 0, 1) := by decide +kernel
theorem d_X7_breaks_153 : decode mX7_breaks.2.1 153 = .ok (.istore 6, 2) := by decide +kernel
theorem d_X7_breaks_155 : decode mX7_breaks.2.1 155 = .ok (.iinc 7 1, 3) := by decide +kernel
theorem d_X7_breaks_158 : decode mX7_breaks.2.1 158 = .ok (.goto (-58), 3) := by decide +kernel
theorem d_X7_breaks_161 : decode mX7_breaks.2.1 161 = .ok (.iload 6, 2) := by decide +kernel
theorem d_X7_breaks_163 : decode mX7_breaks.2.1 163 = .ok (.ireturn, 1) := by decide +kernel
def T_X7_breaks_153 (κ100 : Nat → Int32 → Int32 → Int32 → Int32 → Mem → Prop) (Q : Int32 → Mem → Prop) (v0 : Nat) (v3 : Int32) (v5 : Int32) (v7 : Int32) (s0 : Int32) (M : Mem) : Prop := ∀ x1 : Int32, x1 = v7 + 1 → κ100 v0 v3 v5 s0 x1 M
set_option maxRecDepth 100000 in
set_option maxHeartbeats 4000000 in
theorem B_X7_breaks_153 {g : GG} (Q : Int32 → Mem → Prop) (κ100 : Nat → Int32 → Int32 → Int32 → Int32 → Mem → Prop) (hκ100 : ∀ (v0 : Nat) (v3 : Int32) (v5 : Int32) (v6 : Int32) (v7 : Int32) (M : Mem), κ100 v0 v3 v5 v6 v7 M → WP g 10 mX7_breaks 100 [some (.ref (g.1 + v0)), none, none, some (.int v3), none, some (.int v5), some (.int v6), some (.int v7)] [] M 0 (oZ Q noX)) (v0 : Nat) (v3 : Int32) (v5 : Int32) (v7 : Int32) (s0 : Int32) (M : Mem) (h : T_X7_breaks_153 κ100 Q v0 v3 v5 v7 s0 M) : WP g 10 mX7_breaks 153 [some (.ref (g.1 + v0)), none, none, some (.int v3), none, some (.int v5), none, some (.int v7)] [.int s0] M 0 (oZ Q noX) := by
  unfold T_X7_breaks_153 at h
  refine R_istore (pc := 153) (L' := [some (.ref (g.1 + v0)), none, none, some (.int v3), none, some (.int v5), some (.int s0), some (.int v7)]) d_X7_breaks_153 (by decide) rfl ?_
  obtain ⟨x1, ex1⟩ : ∃ z : Int32, z = v7 + 1 := ⟨_, rfl⟩
  have h := h x1 ex1
  refine R_iinc (pc := 155) (v := x1) (L' := [some (.ref (g.1 + v0)), none, none, some (.int v3), none, some (.int v5), some (.int s0), some (.int x1)]) d_X7_breaks_155 rfl (by rw [ex1]; rfl) (by decide) rfl ?_
  refine R_goto (pc := 158) (tgt := 100) d_X7_breaks_158 (by decide) ?_
  exact WP_sub (hκ100 v0 v3 v5 s0 x1 M h) (by decide) (ls_s (ls_n (ls_n (ls_s (ls_n (ls_s (ls_s (ls_s ls_0))))))))
def T_X7_breaks_152 (κ100 : Nat → Int32 → Int32 → Int32 → Int32 → Mem → Prop) (Q : Int32 → Mem → Prop) (v0 : Nat) (v3 : Int32) (v5 : Int32) (v7 : Int32) (M : Mem) : Prop := T_X7_breaks_153 κ100 Q v0 v3 v5 v7 0 M
set_option maxRecDepth 100000 in
set_option maxHeartbeats 4000000 in
theorem B_X7_breaks_152 {g : GG} (Q : Int32 → Mem → Prop) (κ100 : Nat → Int32 → Int32 → Int32 → Int32 → Mem → Prop) (hκ100 : ∀ (v0 : Nat) (v3 : Int32) (v5 : Int32) (v6 : Int32) (v7 : Int32) (M : Mem), κ100 v0 v3 v5 v6 v7 M → WP g 10 mX7_breaks 100 [some (.ref (g.1 + v0)), none, none, some (.int v3), none, some (.int v5), some (.int v6), some (.int v7)] [] M 0 (oZ Q noX)) (v0 : Nat) (v3 : Int32) (v5 : Int32) (v7 : Int32) (M : Mem) (h : T_X7_breaks_152 κ100 Q v0 v3 v5 v7 M) : WP g 10 mX7_breaks 152 [some (.ref (g.1 + v0)), none, none, some (.int v3), none, some (.int v5), none, some (.int v7)] [] M 0 (oZ Q noX) := by
  unfold T_X7_breaks_152 at h
  refine R_iconst (pc := 152) (v := 0) d_X7_breaks_152 (by decide) ?_
  exact WP_sub (B_X7_breaks_153 Q κ100 hκ100 v0 v3 v5 v7 0 M h) (by decide) (ls_s (ls_n (ls_n (ls_s (ls_n (ls_s (ls_n (ls_s ls_0))))))))
def T_X7_breaks_148 (κ100 : Nat → Int32 → Int32 → Int32 → Int32 → Mem → Prop) (Q : Int32 → Mem → Prop) (v0 : Nat) (v3 : Int32) (v5 : Int32) (v7 : Int32) (M : Mem) : Prop := T_X7_breaks_153 κ100 Q v0 v3 v5 v7 1 M
set_option maxRecDepth 100000 in
set_option maxHeartbeats 4000000 in
theorem B_X7_breaks_148 {g : GG} (Q : Int32 → Mem → Prop) (κ100 : Nat → Int32 → Int32 → Int32 → Int32 → Mem → Prop) (hκ100 : ∀ (v0 : Nat) (v3 : Int32) (v5 : Int32) (v6 : Int32) (v7 : Int32) (M : Mem), κ100 v0 v3 v5 v6 v7 M → WP g 10 mX7_breaks 100 [some (.ref (g.1 + v0)), none, none, some (.int v3), none, some (.int v5), some (.int v6), some (.int v7)] [] M 0 (oZ Q noX)) (v0 : Nat) (v3 : Int32) (v5 : Int32) (v7 : Int32) (M : Mem) (h : T_X7_breaks_148 κ100 Q v0 v3 v5 v7 M) : WP g 10 mX7_breaks 148 [some (.ref (g.1 + v0)), none, none, some (.int v3), none, some (.int v5), none, some (.int v7)] [] M 0 (oZ Q noX) := by
  unfold T_X7_breaks_148 at h
  refine R_iconst (pc := 148) (v := 1) d_X7_breaks_148 (by decide) ?_
  refine R_goto (pc := 149) (tgt := 153) d_X7_breaks_149 (by decide) ?_
  exact WP_sub (B_X7_breaks_153 Q κ100 hκ100 v0 v3 v5 v7 1 M h) (by decide) (ls_s (ls_n (ls_n (ls_s (ls_n (ls_s (ls_n (ls_s ls_0))))))))
def T_X7_breaks_100 (Q : Int32 → Mem → Prop) : Nat → Nat → Int32 → Int32 → Int32 → Int32 → Mem → Prop
  | 0, _, _, _, _, _, _ => False
  | n + 1, v0, v3, v5, v6, v7, M => (kd v0 = 7) ∧ (kd (rf v0 1) = 9) ∧ (vp_in 2 (ln (rf v0 1))) ∧ if (M.1 (rf v0 1) (Int32.toNatClampNeg 2)) ≤ v7 then (((v6 : Int32) = 0 ∨ (v6 : Int32) = 1) ∧ Q v6 M) else (if v6 = 0 then (if ((v3 >>> (v7 &&& 31)) &&& 1) = (1 : Int32) then ((vp_in (42 + v7) (ln (rf v0 1))) ∧ (vp_in (v5 + 2) (ln (rf v0 1))) ∧ if (M.1 (rf v0 1) (Int32.toNatClampNeg (42 + v7))) = (M.1 (rf v0 1) (Int32.toNatClampNeg (v5 + 2))) then (T_X7_breaks_148 (T_X7_breaks_100 Q n) Q v0 v3 v5 v7 M) else (T_X7_breaks_152 (T_X7_breaks_100 Q n) Q v0 v3 v5 v7 M)) else (T_X7_breaks_152 (T_X7_breaks_100 Q n) Q v0 v3 v5 v7 M)) else (T_X7_breaks_148 (T_X7_breaks_100 Q n) Q v0 v3 v5 v7 M))
set_option maxRecDepth 100000 in
set_option maxHeartbeats 4000000 in
theorem B_X7_breaks_100 {g : GG} (Q : Int32 → Mem → Prop) : ∀ (n : Nat) (v0 : Nat) (v3 : Int32) (v5 : Int32) (v6 : Int32) (v7 : Int32) (M : Mem), T_X7_breaks_100 Q n v0 v3 v5 v6 v7 M → WP g 10 mX7_breaks 100 [some (.ref (g.1 + v0)), none, none, some (.int v3), none, some (.int v5), some (.int v6), some (.int v7)] [] M 0 (oZ Q noX) := by
  intro n
  induction n with
  | zero => intro v0 v3 v5 v6 v7 M h; exact h.elim
  | succ n hκ100 =>
    intro v0 v3 v5 v6 v7 M h
    unfold T_X7_breaks_100 at h
    refine R_iload (pc := 100) d_X7_breaks_100 rfl ?_
    refine R_aload_n (pc := 102) d_X7_breaks_102 rfl rfl ?_
    obtain ⟨k1, h⟩ := h
    refine R_getR (pc := 103) fld_RX7_7 rfl rfl k1 d_X7_breaks_103 ?_
    refine R_iconst (pc := 106) (v := 2) d_X7_breaks_106 (by decide) ?_
    obtain ⟨k2, h⟩ := h
    obtain ⟨k3, h⟩ := h
    refine R_iald (pc := 107) k2 k3 d_X7_breaks_107 ?_
    refine R_icmp_ge (pc := 108) (tgt := 161) d_X7_breaks_108 (by decide) (fun c => ?_) (fun c => ?_)
    · rw [if_pos c] at h
      refine R_iload (pc := 161) d_X7_breaks_161 rfl ?_
      exact R_retv (pc := 163) d_X7_breaks_163 h
    · rw [if_neg c] at h
      refine R_iload (pc := 111) d_X7_breaks_111 rfl ?_
      refine R_if_ne (pc := 113) (tgt := 148) d_X7_breaks_113 (by decide) (fun c => ?_) (fun c => ?_)
      · rw [if_neg c] at h
        exact WP_sub (B_X7_breaks_148 Q (T_X7_breaks_100 Q n) hκ100 v0 v3 v5 v7 M h) (by decide) (ls_s (ls_n (ls_n (ls_s (ls_n (ls_s (ls_n (ls_s ls_0))))))))
      · rw [if_pos c] at h
        refine R_iload_n (pc := 116) d_X7_breaks_116 rfl rfl ?_
        refine R_iload (pc := 117) d_X7_breaks_117 rfl ?_
        refine R_ishr (pc := 119) d_X7_breaks_119 ?_
        refine R_iconst (pc := 120) (v := 1) d_X7_breaks_120 (by decide) ?_
        refine R_iand (pc := 121) d_X7_breaks_121 ?_
        refine R_iconst (pc := 122) (v := 1) d_X7_breaks_122 (by decide) ?_
        refine R_icmp_ne (pc := 123) (tgt := 152) d_X7_breaks_123 (by decide) (fun c => ?_) (fun c => ?_)
        · rw [if_neg c] at h
          exact WP_sub (B_X7_breaks_152 Q (T_X7_breaks_100 Q n) hκ100 v0 v3 v5 v7 M h) (by decide) (ls_s (ls_n (ls_n (ls_s (ls_n (ls_s (ls_n (ls_s ls_0))))))))
        · rw [if_pos c] at h
          refine R_aload_n (pc := 126) d_X7_breaks_126 rfl rfl ?_
          refine R_getR (pc := 127) fld_RX7_7 rfl rfl k1 d_X7_breaks_127 ?_
          refine R_bipush (pc := 130) (v := 42) d_X7_breaks_130 (by decide) ?_
          refine R_iload (pc := 132) d_X7_breaks_132 rfl ?_
          refine R_iadd (pc := 134) d_X7_breaks_134 ?_
          obtain ⟨k4, h⟩ := h
          refine R_iald (pc := 135) k2 k4 d_X7_breaks_135 ?_
          refine R_aload_n (pc := 136) d_X7_breaks_136 rfl rfl ?_
          refine R_getR (pc := 137) fld_RX7_7 rfl rfl k1 d_X7_breaks_137 ?_
          refine R_iload (pc := 140) d_X7_breaks_140 rfl ?_
          refine R_iconst (pc := 142) (v := 2) d_X7_breaks_142 (by decide) ?_
          refine R_iadd (pc := 143) d_X7_breaks_143 ?_
          obtain ⟨k5, h⟩ := h
          refine R_iald (pc := 144) k2 k5 d_X7_breaks_144 ?_
          refine R_icmp_ne (pc := 145) (tgt := 152) d_X7_breaks_145 (by decide) (fun c => ?_) (fun c => ?_)
          · rw [if_neg c] at h
            exact WP_sub (B_X7_breaks_152 Q (T_X7_breaks_100 Q n) hκ100 v0 v3 v5 v7 M h) (by decide) (ls_s (ls_n (ls_n (ls_s (ls_n (ls_s (ls_n (ls_s ls_0))))))))
          · rw [if_pos c] at h
            exact WP_sub (B_X7_breaks_148 Q (T_X7_breaks_100 Q n) hκ100 v0 v3 v5 v7 M h) (by decide) (ls_s (ls_n (ls_n (ls_s (ls_n (ls_s (ls_n (ls_s ls_0))))))))
def T_X7_breaks_93 (Q : Int32 → Mem → Prop) (s0 : Int32) (M : Mem) : Prop := ((s0 : Int32) = 0 ∨ (s0 : Int32) = 1) ∧ Q s0 M
set_option maxRecDepth 100000 in
set_option maxHeartbeats 4000000 in
theorem B_X7_breaks_93 {g : GG} (Q : Int32 → Mem → Prop) (s0 : Int32) (M : Mem) (h : T_X7_breaks_93 Q s0 M) : WP g 10 mX7_breaks 93 [none, none, none, none, none, none, none, none] [.int s0] M 0 (oZ Q noX) := by
  unfold T_X7_breaks_93 at h
  exact R_retv (pc := 93) d_X7_breaks_93 h
def T_X7_breaks_59 (Q : Int32 → Mem → Prop) (M : Mem) : Prop := ((0 : Int32) = 0 ∨ (0 : Int32) = 1) ∧ Q 0 M
set_option maxRecDepth 100000 in
set_option maxHeartbeats 4000000 in
theorem B_X7_breaks_59 {g : GG} (Q : Int32 → Mem → Prop) (M : Mem) (h : T_X7_breaks_59 Q  M) : WP g 10 mX7_breaks 59 [none, none, none, none, none, none, none, none] [] M 0 (oZ Q noX) := by
  unfold T_X7_breaks_59 at h
  refine R_iconst (pc := 59) (v := 0) d_X7_breaks_59 (by decide) ?_
  exact R_retv (pc := 60) d_X7_breaks_60 h
def T_X7_breaks (Q : Int32 → Mem → Prop) (v0 : Nat) (v1 : Int32) (v2 : Int32) (v3 : Int32) (v4 : Int32) (M : Mem) : Prop := ∀ x1 : Int32, x1 = 438 + (5 * v1) → (kd v0 = 7) ∧ (kd (rf v0 1) = 9) ∧ (vp_in x1 (ln (rf v0 1))) ∧ if (M.1 (rf v0 1) (Int32.toNatClampNeg x1)) = (2 : Int32) then (T_X7_breaks_59 Q M) else ((vp_in (x1 + 1) (ln (rf v0 1))) ∧ if (M.1 (rf v0 1) (Int32.toNatClampNeg (x1 + 1))) = v2 then ((vp_in (x1 + 3) (ln (rf v0 1))) ∧ (vp_in (x1 + 4) (ln (rf v0 1))) ∧ T_X7_in (fun y9 M8 => if y9 = 0 then (T_X7_breaks_59 Q M8) else (if (M8.1 (rf v0 1) (Int32.toNatClampNeg x1)) = 0 then ((vp_in (x1 + 2) (ln (rf v0 1))) ∧ if ((v3 >>> ((M8.1 (rf v0 1) (Int32.toNatClampNeg (x1 + 2))) &&& 31)) &&& 1) = (1 : Int32) then (T_X7_breaks_93 Q 1 M8) else (T_X7_breaks_93 Q 0 M8)) else ((∃ N : Nat, T_X7_breaks_100 Q N v0 v3 x1 0 0 M8))))  v4 (M.1 (rf v0 1) (Int32.toNatClampNeg (x1 + 3))) (M.1 (rf v0 1) (Int32.toNatClampNeg (x1 + 4))) M) else (T_X7_breaks_59 Q M))
set_option maxRecDepth 100000 in
set_option maxHeartbeats 4000000 in
theorem c_X7_breaks {g : GG} (v0 : Nat) (v1 : Int32) (v2 : Int32) (v3 : Int32) (v4 : Int32) (M : Mem) (Q : Int32 → Mem → Prop) (h : T_X7_breaks Q v0 v1 v2 v3 v4 M) : CT g 10 mX7_breaks [.ref (g.1 + v0), .int v1, .int v2, .int v3, .int v4] M 0 (oZ Q noX) := by
  refine CT_of (L := [some (.ref (g.1 + v0)), some (.int v1), some (.int v2), some (.int v3), some (.int v4), none, none, none]) (by decide) rfl (Nat.le_of_ble_eq_true rfl) (ro_Z rfl) rfl ?_
  unfold T_X7_breaks at h
  refine R_sipush (pc := 0) (v := 438) d_X7_breaks_0 (by decide) ?_
  refine R_iconst (pc := 3) (v := 5) d_X7_breaks_3 (by decide) ?_
  refine R_iload_n (pc := 4) d_X7_breaks_4 rfl rfl ?_
  refine R_imul (pc := 5) d_X7_breaks_5 ?_
  refine R_iadd (pc := 6) d_X7_breaks_6 ?_
  refine N_i (fun x1 ex1 => ?_)
  have h := h x1 ex1
  refine R_istore (pc := 7) (L' := [some (.ref (g.1 + v0)), some (.int v1), some (.int v2), some (.int v3), some (.int v4), some (.int x1), none, none]) d_X7_breaks_7 (by decide) rfl ?_
  refine R_aload_n (pc := 9) d_X7_breaks_9 rfl rfl ?_
  obtain ⟨k2, h⟩ := h
  refine R_getR (pc := 10) fld_RX7_7 rfl rfl k2 d_X7_breaks_10 ?_
  refine R_iload (pc := 13) d_X7_breaks_13 rfl ?_
  obtain ⟨k3, h⟩ := h
  obtain ⟨k4, h⟩ := h
  refine R_iald (pc := 15) k3 k4 d_X7_breaks_15 ?_
  refine R_iconst (pc := 16) (v := 2) d_X7_breaks_16 (by decide) ?_
  refine R_icmp_eq (pc := 17) (tgt := 59) d_X7_breaks_17 (by decide) (fun c => ?_) (fun c => ?_)
  · rw [if_pos c] at h
    exact WP_sub (B_X7_breaks_59 Q M h) (by decide) (ls_n (ls_n (ls_n (ls_n (ls_n (ls_n (ls_n (ls_n ls_0))))))))
  · rw [if_neg c] at h
    refine R_aload_n (pc := 20) d_X7_breaks_20 rfl rfl ?_
    refine R_getR (pc := 21) fld_RX7_7 rfl rfl k2 d_X7_breaks_21 ?_
    refine R_iload (pc := 24) d_X7_breaks_24 rfl ?_
    refine R_iconst (pc := 26) (v := 1) d_X7_breaks_26 (by decide) ?_
    refine R_iadd (pc := 27) d_X7_breaks_27 ?_
    obtain ⟨k5, h⟩ := h
    refine R_iald (pc := 28) k3 k5 d_X7_breaks_28 ?_
    refine R_iload_n (pc := 29) d_X7_breaks_29 rfl rfl ?_
    refine R_icmp_ne (pc := 30) (tgt := 59) d_X7_breaks_30 (by decide) (fun c => ?_) (fun c => ?_)
    · rw [if_neg c] at h
      exact WP_sub (B_X7_breaks_59 Q M h) (by decide) (ls_n (ls_n (ls_n (ls_n (ls_n (ls_n (ls_n (ls_n ls_0))))))))
    · rw [if_pos c] at h
      refine R_iload (pc := 33) d_X7_breaks_33 rfl ?_
      refine R_aload_n (pc := 35) d_X7_breaks_35 rfl rfl ?_
      refine R_getR (pc := 36) fld_RX7_7 rfl rfl k2 d_X7_breaks_36 ?_
      refine R_iload (pc := 39) d_X7_breaks_39 rfl ?_
      refine R_iconst (pc := 41) (v := 3) d_X7_breaks_41 (by decide) ?_
      refine R_iadd (pc := 42) d_X7_breaks_42 ?_
      obtain ⟨k6, h⟩ := h
      refine R_iald (pc := 43) k3 k6 d_X7_breaks_43 ?_
      refine R_aload_n (pc := 44) d_X7_breaks_44 rfl rfl ?_
      refine R_getR (pc := 45) fld_RX7_7 rfl rfl k2 d_X7_breaks_45 ?_
      refine R_iload (pc := 48) d_X7_breaks_48 rfl ?_
      refine R_iconst (pc := 50) (v := 4) d_X7_breaks_50 (by decide) ?_
      refine R_iadd (pc := 51) d_X7_breaks_51 ?_
      obtain ⟨k7, h⟩ := h
      refine R_iald (pc := 52) k3 k7 d_X7_breaks_52 ?_
      refine R_callS (pc := 53) (As := [.int v4, .int (M.1 (rf v0 1) (Int32.toNatClampNeg (x1 + 3))), .int (M.1 (rf v0 1) (Int32.toNatClampNeg (x1 + 4)))]) (rest := []) (c_X7_in (g := g) v4 (M.1 (rf v0 1) (Int32.toNatClampNeg (x1 + 3))) (M.1 (rf v0 1) (Int32.toNatClampNeg (x1 + 4))) M _ h) rfl rfl cal_RX7_41 sta_X7_in (by decide) (by decide) rfl rfl (Nat.le_of_ble_eq_true rfl) d_X7_breaks_53 (k_Z (fun y9 M8 h => ?_)) (fun _ _ h9 => False.elim h9)
      try dsimp only at h
      refine R_if_ne (pc := 56) (tgt := 61) d_X7_breaks_56 (by decide) (fun c => ?_) (fun c => ?_)
      · rw [if_neg c] at h
        refine R_aload_n (pc := 61) d_X7_breaks_61 rfl rfl ?_
        refine R_getR (pc := 62) fld_RX7_7 rfl rfl k2 d_X7_breaks_62 ?_
        refine R_iload (pc := 65) d_X7_breaks_65 rfl ?_
        refine R_iald (pc := 67) k3 k4 d_X7_breaks_67 ?_
        refine R_if_ne (pc := 68) (tgt := 94) d_X7_breaks_68 (by decide) (fun c => ?_) (fun c => ?_)
        · rw [if_neg c] at h
          refine R_iconst (pc := 94) (v := 0) d_X7_breaks_94 (by decide) ?_
          refine R_istore (pc := 95) (L' := [some (.ref (g.1 + v0)), some (.int v1), some (.int v2), some (.int v3), some (.int v4), some (.int x1), some (.int 0), none]) d_X7_breaks_95 (by decide) rfl ?_
          refine R_iconst (pc := 97) (v := 0) d_X7_breaks_97 (by decide) ?_
          refine R_istore (pc := 98) (L' := [some (.ref (g.1 + v0)), some (.int v1), some (.int v2), some (.int v3), some (.int v4), some (.int x1), some (.int 0), some (.int 0)]) d_X7_breaks_98 (by decide) rfl ?_
          obtain ⟨N, h⟩ := h
          exact WP_sub (B_X7_breaks_100 Q N v0 v3 x1 0 0 M8 h) (by decide) (ls_s (ls_n (ls_n (ls_s (ls_n (ls_s (ls_s (ls_s ls_0))))))))
        · rw [if_pos c] at h
          refine R_iload_n (pc := 71) d_X7_breaks_71 rfl rfl ?_
          refine R_aload_n (pc := 72) d_X7_breaks_72 rfl rfl ?_
          refine R_getR (pc := 73) fld_RX7_7 rfl rfl k2 d_X7_breaks_73 ?_
          refine R_iload (pc := 76) d_X7_breaks_76 rfl ?_
          refine R_iconst (pc := 78) (v := 2) d_X7_breaks_78 (by decide) ?_
          refine R_iadd (pc := 79) d_X7_breaks_79 ?_
          obtain ⟨k10, h⟩ := h
          refine R_iald (pc := 80) k3 k10 d_X7_breaks_80 ?_
          refine R_ishr (pc := 81) d_X7_breaks_81 ?_
          refine R_iconst (pc := 82) (v := 1) d_X7_breaks_82 (by decide) ?_
          refine R_iand (pc := 83) d_X7_breaks_83 ?_
          refine R_iconst (pc := 84) (v := 1) d_X7_breaks_84 (by decide) ?_
          refine R_icmp_ne (pc := 85) (tgt := 92) d_X7_breaks_85 (by decide) (fun c => ?_) (fun c => ?_)
          · rw [if_neg c] at h
            refine R_iconst (pc := 92) (v := 0) d_X7_breaks_92 (by decide) ?_
            exact WP_sub (B_X7_breaks_93 Q 0 M8 h) (by decide) (ls_n (ls_n (ls_n (ls_n (ls_n (ls_n (ls_n (ls_n ls_0))))))))
          · rw [if_pos c] at h
            refine R_iconst (pc := 88) (v := 1) d_X7_breaks_88 (by decide) ?_
            refine R_goto (pc := 89) (tgt := 93) d_X7_breaks_89 (by decide) ?_
            exact WP_sub (B_X7_breaks_93 Q 1 M8 h) (by decide) (ls_n (ls_n (ls_n (ls_n (ls_n (ls_n (ls_n (ls_n ls_0))))))))
      · rw [if_pos c] at h
        exact WP_sub (B_X7_breaks_59 Q M8 h) (by decide) (ls_n (ls_n (ls_n (ls_n (ls_n (ls_n (ls_n (ls_n ls_0))))))))
/-! X7_counted -/
theorem d_X7_counted_0 : decode mX7_counted.2.1 0 = .ok (.iconst 0, 1) := by decide +kernel
theorem d_X7_counted_1 : decode mX7_counted.2.1 1 = .ok (.istore_n 3, 1) := by decide +kernel
theorem d_X7_counted_2 : decode mX7_counted.2.1 2 = .ok (.iconst 0, 1) := by decide +kernel
theorem d_X7_counted_3 : decode mX7_counted.2.1 3 = .ok (.istore 4, 2) := by decide +kernel
theorem d_X7_counted_5 : decode mX7_counted.2.1 5 = .ok (.iload 4, 2) := by decide +kernel
theorem d_X7_counted_7 : decode mX7_counted.2.1 7 = .ok (.aload_n 0, 1) := by decide +kernel
theorem d_X7_counted_8 : decode mX7_counted.2.1 8 = .ok (.getfield 7, 3) := by decide +kernel
theorem d_X7_counted_11 : decode mX7_counted.2.1 11 = .ok (.iconst 4, 1) := by decide +kernel
theorem d_X7_counted_12 : decode mX7_counted.2.1 12 = .ok (.iaload, 1) := by decide +kernel
theorem d_X7_counted_13 : decode mX7_counted.2.1 13 = .ok (.if_icmp .ge 67, 3) := by decide +kernel
theorem d_X7_counted_16 : decode mX7_counted.2.1 16 = .ok (.iload_n 3, 1) := by decide +kernel
theorem d_X7_counted_17 : decode mX7_counted.2.1 17 = .ok (.aload_n 0, 1) := by decide +kernel
theorem d_X7_counted_18 : decode mX7_counted.2.1 18 = .ok (.iload 4, 2) := by decide +kernel
theorem d_X7_counted_20 : decode mX7_counted.2.1 20 = .ok (.iconst 5, 1) := by decide +kernel
theorem d_X7_counted_21 : decode mX7_counted.2.1 21 = .ok (.invokevirtual 45, 3) := by decide +kernel
theorem d_X7_counted_24 : decode mX7_counted.2.1 24 = .ok (.iconst 2, 1) := by decide +kernel
theorem d_X7_counted_25 : decode mX7_counted.2.1 25 = .ok (.if_icmp .ge 46, 3) := by decide +kernel
theorem d_X7_counted_28 : decode mX7_counted.2.1 28 = .ok (.aload_n 0, 1) := by decide +kernel
theorem d_X7_counted_29 : decode mX7_counted.2.1 29 = .ok (.iload 4, 2) := by decide +kernel
theorem d_X7_counted_31 : decode mX7_counted.2.1 31 = .ok (.iconst 0, 1) := by decide +kernel
theorem d_X7_counted_32 : decode mX7_counted.2.1 32 = .ok (.invokevirtual 45, 3) := by decide +kernel
theorem d_X7_counted_35 : decode mX7_counted.2.1 35 = .ok (.iload_n 1, 1) := by decide +kernel
theorem d_X7_counted_36 : decode mX7_counted.2.1 36 = .ok (.if_icmp .ne 35, 3) := by decide +kernel
theorem d_X7_counted_39 : decode mX7_counted.2.1 39 = .ok (.aload_n 0, 1) := by decide +kernel
theorem d_X7_counted_40 : decode mX7_counted.2.1 40 = .ok (.iload 4, 2) := by decide +kernel
theorem d_X7_counted_42 : decode mX7_counted.2.1 42 = .ok (.iconst 2, 1) := by decide +kernel
theorem d_X7_counted_43 : decode mX7_counted.2.1 43 = .ok (.invokevirtual 45, 3) := by decide +kernel
theorem d_X7_counted_46 : decode mX7_counted.2.1 46 = .ok (.bipush 7, 2) := by decide +kernel
theorem d_X7_counted_48 : decode mX7_counted.2.1 48 = .ok (.idiv, 1) := by decide +kernel
theorem d_X7_counted_49 : decode mX7_counted.2.1 49 = .ok (.iload_n 2, 1) := by decide +kernel
theorem d_X7_counted_50 : decode mX7_counted.2.1 50 = .ok (.if_icmp .ne 21, 3) := by decide +kernel
theorem d_X7_counted_53 : decode mX7_counted.2.1 53 = .ok (.aload_n 0, 1) := by decide +kernel
theorem d_X7_counted_54 : decode mX7_counted.2.1 54 = .ok (.aload_n 0, 1) := by decide +kernel
theorem d_X7_counted_55 : decode mX7_counted.2.1 55 = .ok (.iload 4, 2) := by decide +kernel
theorem d_X7_counted_57 : decode mX7_counted.2.1 57 = .ok (.iconst 1, 1) := by decide +kernel
theorem d_X7_counted_58 : decode mX7_counted.2.1 58 = .ok (.invokevirtual 45, 3) := by decide +kernel
theorem d_X7_counted_61 : decode mX7_counted.2.1 61 = .ok (.invokevirtual 94, 3) := by decide +kernel
theorem d_X7_counted_64 : decode mX7_counted.2.1 64 = .ok (.ifCond .eq 7, 3) := by decide +kernel
theorem d_X7_counted_67 : decode mX7_counted.2.1 67 = .ok (.iconst 1, 1) := by decide +kernel
theorem d_X7_counted_68 : decode mX7_counted.2.1 68 = .ok (.goto 4, 3) := by decide +kernel
theorem d_X7_counted_71 : decode mX7_counted.2.1 71 = .ok (.iconst 0, 1) := by decide +kernel
theorem d_X7_counted_72 : decode mX7_counted.2.1 72 = .ok (.iadd, 1) := by decide +kernel
theorem d_X7_counted_73 : decode mX7_counted.2.1 73 = .ok (.istore_n 3, 1) := by decide +kernel
theorem d_X7_counted_74 : decode mX7_counted.2.1 74 = .ok (.iinc 4 1, 3) := by decide +kernel
theorem d_X7_counted_77 : decode mX7_counted.2.1 77 = .ok (.goto (-72), 3) := by decide +kernel
theorem d_X7_counted_80 : decode mX7_counted.2.1 80 = .ok (.iload_n 3, 1) := by decide +kernel
theorem d_X7_counted_81 : decode mX7_counted.2.1 81 = .ok (.ireturn, 1) := by decide +kernel
def T_X7_counted_72 (κ5 : Nat → Int32 → Int32 → Int32 → Int32 → Mem → Prop) (Q : Int32 → Mem → Prop) (v0 : Nat) (v1 : Int32) (v2 : Int32) (v4 : Int32) (s0 : Int32) (s1 : Int32) (M : Mem) : Prop := ∀ x1 : Int32, x1 = s1 + s0 → ∀ x2 : Int32, x2 = v4 + 1 → κ5 v0 v1 v2 x1 x2 M
set_option maxRecDepth 100000 in
set_option maxHeartbeats 4000000 in
theorem B_X7_counted_72 {g : GG} (Q : Int32 → Mem → Prop) (κ5 : Nat → Int32 → Int32 → Int32 → Int32 → Mem → Prop) (hκ5 : ∀ (v0 : Nat) (v1 : Int32) (v2 : Int32) (v3 : Int32) (v4 : Int32) (M : Mem), κ5 v0 v1 v2 v3 v4 M → WP g 10 mX7_counted 5 [some (.ref (g.1 + v0)), some (.int v1), some (.int v2), some (.int v3), some (.int v4)] [] M 0 (oI Q noX)) (v0 : Nat) (v1 : Int32) (v2 : Int32) (v4 : Int32) (s0 : Int32) (s1 : Int32) (M : Mem) (h : T_X7_counted_72 κ5 Q v0 v1 v2 v4 s0 s1 M) : WP g 10 mX7_counted 72 [some (.ref (g.1 + v0)), some (.int v1), some (.int v2), none, some (.int v4)] [.int s0, .int s1] M 0 (oI Q noX) := by
  unfold T_X7_counted_72 at h
  refine R_iadd (pc := 72) d_X7_counted_72 ?_
  refine N_i (fun x1 ex1 => ?_)
  have h := h x1 ex1
  refine R_istore_n (pc := 73) (L' := [some (.ref (g.1 + v0)), some (.int v1), some (.int v2), some (.int x1), some (.int v4)]) d_X7_counted_73 rfl (by decide) rfl ?_
  obtain ⟨x2, ex2⟩ : ∃ z : Int32, z = v4 + 1 := ⟨_, rfl⟩
  have h := h x2 ex2
  refine R_iinc (pc := 74) (v := x2) (L' := [some (.ref (g.1 + v0)), some (.int v1), some (.int v2), some (.int x1), some (.int x2)]) d_X7_counted_74 rfl (by rw [ex2]; rfl) (by decide) rfl ?_
  refine R_goto (pc := 77) (tgt := 5) d_X7_counted_77 (by decide) ?_
  exact WP_sub (hκ5 v0 v1 v2 x1 x2 M h) (by decide) (ls_s (ls_s (ls_s (ls_s (ls_s ls_0)))))
def T_X7_counted_71 (κ5 : Nat → Int32 → Int32 → Int32 → Int32 → Mem → Prop) (Q : Int32 → Mem → Prop) (v0 : Nat) (v1 : Int32) (v2 : Int32) (v4 : Int32) (s0 : Int32) (M : Mem) : Prop := T_X7_counted_72 κ5 Q v0 v1 v2 v4 0 s0 M
set_option maxRecDepth 100000 in
set_option maxHeartbeats 4000000 in
theorem B_X7_counted_71 {g : GG} (Q : Int32 → Mem → Prop) (κ5 : Nat → Int32 → Int32 → Int32 → Int32 → Mem → Prop) (hκ5 : ∀ (v0 : Nat) (v1 : Int32) (v2 : Int32) (v3 : Int32) (v4 : Int32) (M : Mem), κ5 v0 v1 v2 v3 v4 M → WP g 10 mX7_counted 5 [some (.ref (g.1 + v0)), some (.int v1), some (.int v2), some (.int v3), some (.int v4)] [] M 0 (oI Q noX)) (v0 : Nat) (v1 : Int32) (v2 : Int32) (v4 : Int32) (s0 : Int32) (M : Mem) (h : T_X7_counted_71 κ5 Q v0 v1 v2 v4 s0 M) : WP g 10 mX7_counted 71 [some (.ref (g.1 + v0)), some (.int v1), some (.int v2), none, some (.int v4)] [.int s0] M 0 (oI Q noX) := by
  unfold T_X7_counted_71 at h
  refine R_iconst (pc := 71) (v := 0) d_X7_counted_71 (by decide) ?_
  exact WP_sub (B_X7_counted_72 Q κ5 hκ5 v0 v1 v2 v4 0 s0 M h) (by decide) (ls_s (ls_s (ls_s (ls_n (ls_s ls_0)))))
def T_X7_counted_5 (Q : Int32 → Mem → Prop) : Nat → Nat → Int32 → Int32 → Int32 → Int32 → Mem → Prop
  | 0, _, _, _, _, _, _ => False
  | n + 1, v0, v1, v2, v3, v4, M => (kd v0 = 7) ∧ (kd (rf v0 1) = 9) ∧ (vp_in 4 (ln (rf v0 1))) ∧ if (M.1 (rf v0 1) (Int32.toNatClampNeg 4)) ≤ v4 then (Q v3 M) else (T_X7_of (fun y5 M4 => if (2 : Int32) ≤ y5 then (T_X7_counted_71 (T_X7_counted_5 Q n) Q v0 v1 v2 v4 v3 M4) else (T_X7_of (fun y7 M6 => if y7 = v1 then (T_X7_of (fun y9 M8 => if (y9 / 7) = v2 then (T_X7_of (fun y11 M10 => T_X7_doesCount (fun y13 M12 => if y13 = 0 then (T_X7_counted_71 (T_X7_counted_5 Q n) Q v0 v1 v2 v4 v3 M12) else (T_X7_counted_72 (T_X7_counted_5 Q n) Q v0 v1 v2 v4 1 v3 M12))  v0 y11 M10)  v0 v4 1 M8) else (T_X7_counted_71 (T_X7_counted_5 Q n) Q v0 v1 v2 v4 v3 M8))  v0 v4 2 M6) else (T_X7_counted_71 (T_X7_counted_5 Q n) Q v0 v1 v2 v4 v3 M6))  v0 v4 0 M4))  v0 v4 5 M)
set_option maxRecDepth 100000 in
set_option maxHeartbeats 4000000 in
theorem B_X7_counted_5 {g : GG} (Q : Int32 → Mem → Prop) : ∀ (n : Nat) (v0 : Nat) (v1 : Int32) (v2 : Int32) (v3 : Int32) (v4 : Int32) (M : Mem), T_X7_counted_5 Q n v0 v1 v2 v3 v4 M → WP g 10 mX7_counted 5 [some (.ref (g.1 + v0)), some (.int v1), some (.int v2), some (.int v3), some (.int v4)] [] M 0 (oI Q noX) := by
  intro n
  induction n with
  | zero => intro v0 v1 v2 v3 v4 M h; exact h.elim
  | succ n hκ5 =>
    intro v0 v1 v2 v3 v4 M h
    unfold T_X7_counted_5 at h
    refine R_iload (pc := 5) d_X7_counted_5 rfl ?_
    refine R_aload_n (pc := 7) d_X7_counted_7 rfl rfl ?_
    obtain ⟨k1, h⟩ := h
    refine R_getR (pc := 8) fld_RX7_7 rfl rfl k1 d_X7_counted_8 ?_
    refine R_iconst (pc := 11) (v := 4) d_X7_counted_11 (by decide) ?_
    obtain ⟨k2, h⟩ := h
    obtain ⟨k3, h⟩ := h
    refine R_iald (pc := 12) k2 k3 d_X7_counted_12 ?_
    refine R_icmp_ge (pc := 13) (tgt := 80) d_X7_counted_13 (by decide) (fun c => ?_) (fun c => ?_)
    · rw [if_pos c] at h
      refine R_iload_n (pc := 80) d_X7_counted_80 rfl rfl ?_
      exact R_retv (pc := 81) d_X7_counted_81 h
    · rw [if_neg c] at h
      refine R_iload_n (pc := 16) d_X7_counted_16 rfl rfl ?_
      refine R_aload_n (pc := 17) d_X7_counted_17 rfl rfl ?_
      refine R_iload (pc := 18) d_X7_counted_18 rfl ?_
      refine R_iconst (pc := 20) (v := 5) d_X7_counted_20 (by decide) ?_
      refine R_callV (pc := 21) (As := [.int v4, .int 5]) (rest := [.int v3]) (c_X7_of (g := g) v0 v4 5 M _ h) rfl rfl cal_RX7_45 ins_X7_of sel_X7_of (cls_at k1 clsOK7) (by decide) (by decide) rfl rfl (Nat.le_of_ble_eq_true rfl) d_X7_counted_21 (k_I (fun y5 M4 h => ?_)) (fun _ _ h9 => False.elim h9)
      try dsimp only at h
      refine R_iconst (pc := 24) (v := 2) d_X7_counted_24 (by decide) ?_
      refine R_icmp_ge (pc := 25) (tgt := 71) d_X7_counted_25 (by decide) (fun c => ?_) (fun c => ?_)
      · rw [if_pos c] at h
        exact WP_sub (B_X7_counted_71 Q (T_X7_counted_5 Q n) hκ5 v0 v1 v2 v4 v3 M4 h) (by decide) (ls_s (ls_s (ls_s (ls_n (ls_s ls_0)))))
      · rw [if_neg c] at h
        refine R_aload_n (pc := 28) d_X7_counted_28 rfl rfl ?_
        refine R_iload (pc := 29) d_X7_counted_29 rfl ?_
        refine R_iconst (pc := 31) (v := 0) d_X7_counted_31 (by decide) ?_
        refine R_callV (pc := 32) (As := [.int v4, .int 0]) (rest := [.int v3]) (c_X7_of (g := g) v0 v4 0 M4 _ h) rfl rfl cal_RX7_45 ins_X7_of sel_X7_of (cls_at k1 clsOK7) (by decide) (by decide) rfl rfl (Nat.le_of_ble_eq_true rfl) d_X7_counted_32 (k_I (fun y7 M6 h => ?_)) (fun _ _ h9 => False.elim h9)
        try dsimp only at h
        refine R_iload_n (pc := 35) d_X7_counted_35 rfl rfl ?_
        refine R_icmp_ne (pc := 36) (tgt := 71) d_X7_counted_36 (by decide) (fun c => ?_) (fun c => ?_)
        · rw [if_neg c] at h
          exact WP_sub (B_X7_counted_71 Q (T_X7_counted_5 Q n) hκ5 v0 v1 v2 v4 v3 M6 h) (by decide) (ls_s (ls_s (ls_s (ls_n (ls_s ls_0)))))
        · rw [if_pos c] at h
          refine R_aload_n (pc := 39) d_X7_counted_39 rfl rfl ?_
          refine R_iload (pc := 40) d_X7_counted_40 rfl ?_
          refine R_iconst (pc := 42) (v := 2) d_X7_counted_42 (by decide) ?_
          refine R_callV (pc := 43) (As := [.int v4, .int 2]) (rest := [.int v3]) (c_X7_of (g := g) v0 v4 2 M6 _ h) rfl rfl cal_RX7_45 ins_X7_of sel_X7_of (cls_at k1 clsOK7) (by decide) (by decide) rfl rfl (Nat.le_of_ble_eq_true rfl) d_X7_counted_43 (k_I (fun y9 M8 h => ?_)) (fun _ _ h9 => False.elim h9)
          try dsimp only at h
          refine R_bipush (pc := 46) (v := 7) d_X7_counted_46 (by decide) ?_
          refine R_idiv (pc := 48) d_X7_counted_48 (by decide) ?_
          refine R_iload_n (pc := 49) d_X7_counted_49 rfl rfl ?_
          refine R_icmp_ne (pc := 50) (tgt := 71) d_X7_counted_50 (by decide) (fun c => ?_) (fun c => ?_)
          · rw [if_neg c] at h
            exact WP_sub (B_X7_counted_71 Q (T_X7_counted_5 Q n) hκ5 v0 v1 v2 v4 v3 M8 h) (by decide) (ls_s (ls_s (ls_s (ls_n (ls_s ls_0)))))
          · rw [if_pos c] at h
            refine R_aload_n (pc := 53) d_X7_counted_53 rfl rfl ?_
            refine R_aload_n (pc := 54) d_X7_counted_54 rfl rfl ?_
            refine R_iload (pc := 55) d_X7_counted_55 rfl ?_
            refine R_iconst (pc := 57) (v := 1) d_X7_counted_57 (by decide) ?_
            refine R_callV (pc := 58) (As := [.int v4, .int 1]) (rest := [.ref (g.1 + v0), .int v3]) (c_X7_of (g := g) v0 v4 1 M8 _ h) rfl rfl cal_RX7_45 ins_X7_of sel_X7_of (cls_at k1 clsOK7) (by decide) (by decide) rfl rfl (Nat.le_of_ble_eq_true rfl) d_X7_counted_58 (k_I (fun y11 M10 h => ?_)) (fun _ _ h9 => False.elim h9)
            try dsimp only at h
            refine R_callV (pc := 61) (As := [.int y11]) (rest := [.int v3]) (c_X7_doesCount (g := g) v0 y11 M10 _ h) rfl rfl cal_RX7_94 ins_X7_doesCount sel_X7_doesCount (cls_at k1 clsOK7) (by decide) (by decide) rfl rfl (Nat.le_of_ble_eq_true rfl) d_X7_counted_61 (k_Z (fun y13 M12 h => ?_)) (fun _ _ h9 => False.elim h9)
            try dsimp only at h
            refine R_if_eq (pc := 64) (tgt := 71) d_X7_counted_64 (by decide) (fun c => ?_) (fun c => ?_)
            · rw [if_pos c] at h
              exact WP_sub (B_X7_counted_71 Q (T_X7_counted_5 Q n) hκ5 v0 v1 v2 v4 v3 M12 h) (by decide) (ls_s (ls_s (ls_s (ls_n (ls_s ls_0)))))
            · rw [if_neg c] at h
              refine R_iconst (pc := 67) (v := 1) d_X7_counted_67 (by decide) ?_
              refine R_goto (pc := 68) (tgt := 72) d_X7_counted_68 (by decide) ?_
              exact WP_sub (B_X7_counted_72 Q (T_X7_counted_5 Q n) hκ5 v0 v1 v2 v4 1 v3 M12 h) (by decide) (ls_s (ls_s (ls_s (ls_n (ls_s ls_0)))))
def T_X7_counted (Q : Int32 → Mem → Prop) (v0 : Nat) (v1 : Int32) (v2 : Int32) (M : Mem) : Prop := (∃ N : Nat, T_X7_counted_5 Q N v0 v1 v2 0 0 M)
set_option maxRecDepth 100000 in
set_option maxHeartbeats 4000000 in
theorem c_X7_counted {g : GG} (v0 : Nat) (v1 : Int32) (v2 : Int32) (M : Mem) (Q : Int32 → Mem → Prop) (h : T_X7_counted Q v0 v1 v2 M) : CT g 10 mX7_counted [.ref (g.1 + v0), .int v1, .int v2] M 0 (oI Q noX) := by
  refine CT_of (L := [some (.ref (g.1 + v0)), some (.int v1), some (.int v2), none, none]) (by decide) rfl (Nat.le_of_ble_eq_true rfl) (ro_I rfl) rfl ?_
  unfold T_X7_counted at h
  refine R_iconst (pc := 0) (v := 0) d_X7_counted_0 (by decide) ?_
  refine R_istore_n (pc := 1) (L' := [some (.ref (g.1 + v0)), some (.int v1), some (.int v2), some (.int 0), none]) d_X7_counted_1 rfl (by decide) rfl ?_
  refine R_iconst (pc := 2) (v := 0) d_X7_counted_2 (by decide) ?_
  refine R_istore (pc := 3) (L' := [some (.ref (g.1 + v0)), some (.int v1), some (.int v2), some (.int 0), some (.int 0)]) d_X7_counted_3 (by decide) rfl ?_
  obtain ⟨N, h⟩ := h
  exact WP_sub (B_X7_counted_5 Q N v0 v1 v2 0 0 M h) (by decide) (ls_s (ls_s (ls_s (ls_s (ls_s ls_0)))))
/-! X7_quotaOf -/
theorem d_X7_quotaOf_0 : decode mX7_quotaOf.2.1 0 = .ok (.aload_n 0, 1) := by decide +kernel
theorem d_X7_quotaOf_1 : decode mX7_quotaOf.2.1 1 = .ok (.getfield 7, 3) := by decide +kernel
theorem d_X7_quotaOf_4 : decode mX7_quotaOf.2.1 4 = .ok (.bipush 8, 2) := by decide +kernel
theorem d_X7_quotaOf_6 : decode mX7_quotaOf.2.1 6 = .ok (.aload_n 0, 1) := by decide +kernel
theorem d_X7_quotaOf_7 : decode mX7_quotaOf.2.1 7 = .ok (.getfield 7, 3) := by decide +kernel
theorem d_X7_quotaOf_10 : decode mX7_quotaOf.2.1 10 = .ok (.bipush 22, 2) := by decide +kernel
theorem d_X7_quotaOf_12 : decode mX7_quotaOf.2.1 12 = .ok (.iload_n 1, 1) := by decide +kernel
theorem d_X7_quotaOf_13 : decode mX7_quotaOf.2.1 13 = .ok (.iadd, 1) := by decide +kernel
theorem d_X7_quotaOf_14 : decode mX7_quotaOf.2.1 14 = .ok (.iaload, 1) := by decide +kernel
theorem d_X7_quotaOf_15 : decode mX7_quotaOf.2.1 15 = .ok (.iadd, 1) := by decide +kernel
theorem d_X7_quotaOf_16 : decode mX7_quotaOf.2.1 16 = .ok (.iaload, 1) := by decide +kernel
theorem d_X7_quotaOf_17 : decode mX7_quotaOf.2.1 17 = .ok (.ireturn, 1) := by decide +kernel
def T_X7_quotaOf (Q : Int32 → Mem → Prop) (v0 : Nat) (v1 : Int32) (M : Mem) : Prop := (kd v0 = 7) ∧ (kd (rf v0 1) = 9) ∧ (vp_in (22 + v1) (ln (rf v0 1))) ∧ (vp_in (8 + (M.1 (rf v0 1) (Int32.toNatClampNeg (22 + v1)))) (ln (rf v0 1))) ∧ Q (M.1 (rf v0 1) (Int32.toNatClampNeg (8 + (M.1 (rf v0 1) (Int32.toNatClampNeg (22 + v1)))))) M
set_option maxRecDepth 100000 in
set_option maxHeartbeats 4000000 in
theorem c_X7_quotaOf {g : GG} (v0 : Nat) (v1 : Int32) (M : Mem) (Q : Int32 → Mem → Prop) (h : T_X7_quotaOf Q v0 v1 M) : CT g 9 mX7_quotaOf [.ref (g.1 + v0), .int v1] M 0 (oI Q noX) := by
  refine CT_of (L := [some (.ref (g.1 + v0)), some (.int v1)]) (by decide) rfl (Nat.le_of_ble_eq_true rfl) (ro_I rfl) rfl ?_
  unfold T_X7_quotaOf at h
  refine R_aload_n (pc := 0) d_X7_quotaOf_0 rfl rfl ?_
  obtain ⟨k1, h⟩ := h
  refine R_getR (pc := 1) fld_RX7_7 rfl rfl k1 d_X7_quotaOf_1 ?_
  refine R_bipush (pc := 4) (v := 8) d_X7_quotaOf_4 (by decide) ?_
  refine R_aload_n (pc := 6) d_X7_quotaOf_6 rfl rfl ?_
  refine R_getR (pc := 7) fld_RX7_7 rfl rfl k1 d_X7_quotaOf_7 ?_
  refine R_bipush (pc := 10) (v := 22) d_X7_quotaOf_10 (by decide) ?_
  refine R_iload_n (pc := 12) d_X7_quotaOf_12 rfl rfl ?_
  refine R_iadd (pc := 13) d_X7_quotaOf_13 ?_
  obtain ⟨k2, h⟩ := h
  obtain ⟨k3, h⟩ := h
  refine R_iald (pc := 14) k2 k3 d_X7_quotaOf_14 ?_
  refine R_iadd (pc := 15) d_X7_quotaOf_15 ?_
  obtain ⟨k4, h⟩ := h
  refine R_iald (pc := 16) k2 k4 d_X7_quotaOf_16 ?_
  exact R_retv (pc := 17) d_X7_quotaOf_17 h
