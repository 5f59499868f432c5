/-! X7_isGranted -/
theorem d_X7_isGranted_0 : decode mX7_isGranted.2.1 0 = .ok (.sipush 488, 3) := by decide +kernel
theorem d_X7_isGranted_3 : decode mX7_isGranted.2.1 3 = .ok (.iconst 4, 1) := by decide +kernel
theorem d_X7_isGranted_4 : decode mX7_isGranted.2.1 4 = .ok (.iload_n 1, 1) := by decide +kernel
theorem d_X7_isGranted_5 : decode mX7_isGranted.2.1 5 = .ok (.imul, 1) := by decide +kernel
theorem d_X7_isGranted_6 : decode mX7_isGranted.2.1 6 = .ok (.iadd, 1) := by decide +kernel
theorem d_X7_isGranted_7 : decode mX7_isGranted.2.1 7 = .ok (.istore_n 2, 1) := by decide +kernel
theorem d_X7_isGranted_8 : decode mX7_isGranted.2.1 8 = .ok (.aload_n 0, 1) := by decide +kernel
theorem d_X7_isGranted_9 : decode mX7_isGranted.2.1 9 = .ok (.getfield 7, 3) := by decide +kernel
theorem d_X7_isGranted_12 : decode mX7_isGranted.2.1 12 = .ok (.iload_n 2, 1) := by decide +kernel
theorem d_X7_isGranted_13 : decode mX7_isGranted.2.1 13 = .ok (.iconst 2, 1) := by decide +kernel
theorem d_X7_isGranted_14 : decode mX7_isGranted.2.1 14 = .ok (.iadd, 1) := by decide +kernel
theorem d_X7_isGranted_15 : decode mX7_isGranted.2.1 15 = .ok (.iaload, 1) := by decide +kernel
theorem d_X7_isGranted_16 : decode mX7_isGranted.2.1 16 = .ok (.aload_n 0, 1) := by decide +kernel
theorem d_X7_isGranted_17 : decode mX7_isGranted.2.1 17 = .ok (.getfield 7, 3) := by decide +kernel
theorem d_X7_isGranted_20 : decode mX7_isGranted.2.1 20 = .ok (.iconst 0, 1) := by decide +kernel
theorem d_X7_isGranted_21 : decode mX7_isGranted.2.1 21 = .ok (.iaload, 1) := by decide +kernel
theorem d_X7_isGranted_22 : decode mX7_isGranted.2.1 22 = .ok (.if_icmp .le 14, 3) := by decide +kernel
theorem d_X7_isGranted_25 : decode mX7_isGranted.2.1 25 = .ok (.aload_n 0, 1) := by decide +kernel
theorem d_X7_isGranted_26 : decode mX7_isGranted.2.1 26 = .ok (.getfield 7, 3) := by decide +kernel
theorem d_X7_isGranted_29 : decode mX7_isGranted.2.1 29 = .ok (.iload_n 2, 1) := by decide +kernel
theorem d_X7_isGranted_30 : decode mX7_isGranted.2.1 30 = .ok (.iconst 2, 1) := by decide +kernel
theorem d_X7_isGranted_31 : decode mX7_isGranted.2.1 31 = .ok (.iadd, 1) := by decide +kernel
theorem d_X7_isGranted_32 : decode mX7_isGranted.2.1 32 = .ok (.iaload, 1) := by decide +kernel
theorem d_X7_isGranted_33 : decode mX7_isGranted.2.1 33 = .ok (.goto 9, 3) := by decide +kernel
theorem d_X7_isGranted_36 : decode mX7_isGranted.2.1 36 = .ok (.aload_n 0, 1) := by decide +kernel
theorem d_X7_isGranted_37 : decode mX7_isGranted.2.1 37 = .ok (.getfield 7, 3) := by decide +kernel
theorem d_X7_isGranted_40 : decode mX7_isGranted.2.1 40 = .ok (.iconst 0, 1) := by decide +kernel
theorem d_X7_isGranted_41 : decode mX7_isGranted.2.1 41 = .ok (.iaload, 1) := by decide +kernel
theorem d_X7_isGranted_42 : decode mX7_isGranted.2.1 42 = .ok (.istore_n 3, 1) := by decide +kernel
theorem d_X7_isGranted_43 : decode mX7_isGranted.2.1 43 = .ok (.iconst 4, 1) := by decide +kernel
theorem d_X7_isGranted_44 : decode mX7_isGranted.2.1 44 = .ok (.iload_n 3, 1) := by decide +kernel
theorem d_X7_isGranted_45 : decode mX7_isGranted.2.1 45 = .ok (.imul, 1) := by decide +kernel
theorem d_X7_isGranted_46 : decode mX7_isGranted.2.1 46 = .ok (.istore 4, 2) := by decide +kernel
theorem d_X7_isGranted_48 : decode mX7_isGranted.2.1 48 = .ok (.iload 4, 2) := by decide +kernel
theorem d_X7_isGranted_50 : decode mX7_isGranted.2.1 50 = .ok (.iconst 4, 1) := by decide +kernel
theorem d_X7_isGranted_51 : decode mX7_isGranted.2.1 51 = .ok (.aload_n 0, 1) := by decide +kernel
theorem d_X7_isGranted_52 : decode mX7_isGranted.2.1 52 = .ok (.getfield 7, 3) := by decide +kernel
theorem d_X7_isGranted_55 : decode mX7_isGranted.2.1 55 = .ok (.iload_n 2, 1) := by decide +kernel
theorem d_X7_isGranted_56 : decode mX7_isGranted.2.1 56 = .ok (.iconst 3, 1) := by decide +kernel
theorem d_X7_isGranted_57 : decode mX7_isGranted.2.1 57 = .ok (.iadd, 1) := by decide +kernel
theorem d_X7_isGranted_58 : decode mX7_isGranted.2.1 58 = .ok (.iaload, 1) := by decide +kernel
theorem d_X7_isGranted_59 : decode mX7_isGranted.2.1 59 = .ok (.imul, 1) := by decide +kernel
theorem d_X7_isGranted_60 : decode mX7_isGranted.2.1 60 = .ok (.iconst 4, 1) := by decide +kernel
theorem d_X7_isGranted_61 : decode mX7_isGranted.2.1 61 = .ok (.iadd, 1) := by decide +kernel
theorem d_X7_isGranted_62 : decode mX7_isGranted.2.1 62 = .ok (.if_icmp .ge 75, 3) := by decide +kernel
theorem d_X7_isGranted_65 : decode mX7_isGranted.2.1 65 = .ok (.aload_n 0, 1) := by decide +kernel
theorem d_X7_isGranted_66 : decode mX7_isGranted.2.1 66 = .ok (.aload_n 0, 1) := by decide +kernel
theorem d_X7_isGranted_67 : decode mX7_isGranted.2.1 67 = .ok (.getfield 7, 3) := by decide +kernel
theorem d_X7_isGranted_70 : decode mX7_isGranted.2.1 70 = .ok (.iload_n 2, 1) := by decide +kernel
theorem d_X7_isGranted_71 : decode mX7_isGranted.2.1 71 = .ok (.iaload, 1) := by decide +kernel
theorem d_X7_isGranted_72 : decode mX7_isGranted.2.1 72 = .ok (.aload_n 0, 1) := by decide +kernel
theorem d_X7_isGranted_73 : decode mX7_isGranted.2.1 73 = .ok (.getfield 7, 3) := by decide +kernel
theorem d_X7_isGranted_76 : decode mX7_isGranted.2.1 76 = .ok (.iload_n 2, 1) := by decide +kernel
theorem d_X7_isGranted_77 : decode mX7_isGranted.2.1 77 = .ok (.iconst 1, 1) := by decide +kernel
theorem d_X7_isGranted_78 : decode mX7_isGranted.2.1 78 = .ok (.iadd, 1) := by decide +kernel
theorem d_X7_isGranted_79 : decode mX7_isGranted.2.1 79 = .ok (.iaload, 1) := by decide +kernel
theorem d_X7_isGranted_80 : decode mX7_isGranted.2.1 80 = .ok (.iload 4, 2) := by decide +kernel
theorem d_X7_isGranted_82 : decode mX7_isGranted.2.1 82 = .ok (.iconst 4, 1) := by decide +kernel
theorem d_X7_isGranted_83 : decode mX7_isGranted.2.1 83 = .ok (.idiv, 1) := by decide +kernel
theorem d_X7_isGranted_84 : decode mX7_isGranted.2.1 84 = .ok (.iload 4, 2) := by decide +kernel
theorem d_X7_isGranted_86 : decode mX7_isGranted.2.1 86 = .ok (.iconst 4, 1) := by decide +kernel
theorem d_X7_isGranted_87 : decode mX7_isGranted.2.1 87 = .ok (.irem, 1) := by decide +kernel
theorem d_X7_isGranted_88 : decode mX7_isGranted.2.1 88 = .ok (.invokevirtual 140, 3) := by decide +kernel
theorem d_X7_isGranted_91 : decode mX7_isGranted.2.1 91 = .ok (.ifCond .ne 40, 3) := by decide +kernel
theorem d_X7_isGranted_94 : decode mX7_isGranted.2.1 94 = .ok (.aload_n 0, 1) := by decide +kernel
theorem d_X7_isGranted_95 : decode mX7_isGranted.2.1 95 = .ok (.aload_n 0, 1) := by decide +kernel
theorem d_X7_isGranted_96 : decode mX7_isGranted.2.1 96 = .ok (.aload_n 0, 1) := by decide +kernel
theorem d_X7_isGranted_97 : decode mX7_isGranted.2.1 97 = .ok (.getfield 7, 3) := by decide +kernel
theorem d_X7_isGranted_100 : decode mX7_isGranted.2.1 100 = .ok (.iload_n 2, 1) := by decide +kernel
theorem d_X7_isGranted_101 : decode mX7_isGranted.2.1 101 = .ok (.iaload, 1) := by decide +kernel
theorem d_X7_isGranted_102 : decode mX7_isGranted.2.1 102 = .ok (.aload_n 0, 1) := by decide +kernel
theorem d_X7_isGranted_103 : decode mX7_isGranted.2.1 103 = .ok (.getfield 7, 3) := by decide +kernel
theorem d_X7_isGranted_106 : decode mX7_isGranted.2.1 106 = .ok (.iload_n 2, 1) := by decide +kernel
theorem d_X7_isGranted_107 : decode mX7_isGranted.2.1 107 = .ok (.iconst 1, 1) := by decide +kernel
theorem d_X7_isGranted_108 : decode mX7_isGranted.2.1 108 = .ok (.iadd, 1) := by decide +kernel
theorem d_X7_isGranted_109 : decode mX7_isGranted.2.1 109 = .ok (.iaload, 1) := by decide +kernel
theorem d_X7_isGranted_110 : decode mX7_isGranted.2.1 110 = .ok (.iload 4, 2) := by decide +kernel
theorem d_X7_isGranted_112 : decode mX7_isGranted.2.1 112 = .ok (.iconst 4, 1) := by decide +kernel
theorem d_X7_isGranted_113 : decode mX7_isGranted.2.1 113 = .ok (.idiv, 1) := by decide +kernel
theorem d_X7_isGranted_114 : decode mX7_isGranted.2.1 114 = .ok (.iload 4, 2) := by decide +kernel
theorem d_X7_isGranted_116 : decode mX7_isGranted.2.1 116 = .ok (.iconst 4, 1) := by decide +kernel
theorem d_X7_isGranted_117 : decode mX7_isGranted.2.1 117 = .ok (.irem, 1) := by decide +kernel
theorem d_X7_isGranted_118 : decode mX7_isGranted.2.1 118 = .ok (.aload_n 0, 1) := by decide +kernel
theorem d_X7_isGranted_119 : decode mX7_isGranted.2.1 119 = .ok (.getfield 127, 3) := by decide +kernel
theorem d_X7_isGranted_122 : decode mX7_isGranted.2.1 122 = .ok (.invokevirtual 143, 3) := by decide +kernel
theorem d_X7_isGranted_125 : decode mX7_isGranted.2.1 125 = .ok (.iconst 3, 1) := by decide +kernel
theorem d_X7_isGranted_126 : decode mX7_isGranted.2.1 126 = .ok (.invokevirtual 137, 3) := by decide +kernel
theorem d_X7_isGranted_129 : decode mX7_isGranted.2.1 129 = .ok (.iconst 1, 1) := by decide +kernel
theorem d_X7_isGranted_130 : decode mX7_isGranted.2.1 130 = .ok (.ireturn, 1) := by decide +kernel
theorem d_X7_isGranted_131 : decode mX7_isGranted.2.1 131 = .ok (.iinc 4 1, 3) := by decide +kernel
theorem d_X7_isGranted_134 : decode mX7_isGranted.2.1 134 = .ok (.goto (-86), 3) := by decide +kernel
theorem d_X7_isGranted_137 : decode mX7_isGranted.2.1 137 = .ok (.iconst 0, 1) := by decide +kernel
theorem d_X7_isGranted_138 : decode mX7_isGranted.2.1 138 = .ok (.ireturn, 1) := by decide +kernel
def T_X7_isGranted_48 (Q : Int32 → Mem → Prop) : Nat → Nat → Int32 → Int32 → Mem → Prop
  | 0, _, _, _, _ => False
  | n + 1, v0, v2, v4, M => (kd v0 = 7) ∧ (kd (rf v0 1) = 9) ∧ (vp_in (v2 + 3) (ln (rf v0 1))) ∧ if ((4 * (M.1 (rf v0 1) (Int32.toNatClampNeg (v2 + 3)))) + 4) ≤ v4 then (((0 : Int32) = 0 ∨ (0 : Int32) = 1) ∧ Q 0 M) else ((vp_in v2 (ln (rf v0 1))) ∧ (vp_in (v2 + 1) (ln (rf v0 1))) ∧ T_X7_reasonOf (fun y7 M6 => if y7 = 0 then (T_X7_adds (fun y10 M9 => T_X7_notes (fun M11 => ((1 : Int32) = 0 ∨ (1 : Int32) = 1) ∧ Q 1 M11)  v0 y10 3 M9)  v0 (M6.1 (rf v0 1) (Int32.toNatClampNeg v2)) (M6.1 (rf v0 1) (Int32.toNatClampNeg (v2 + 1))) (v4 / 4) (v4 - v4 / 4 * 4) (M6.1 v0 14) M6) else (∀ x8 : Int32, x8 = v4 + 1 → (T_X7_isGranted_48 Q n) v0 v2 x8 M6))  v0 (M.1 (rf v0 1) (Int32.toNatClampNeg v2)) (M.1 (rf v0 1) (Int32.toNatClampNeg (v2 + 1))) (v4 / 4) (v4 - v4 / 4 * 4) M)
set_option maxRecDepth 100000 in
set_option maxHeartbeats 4000000 in
theorem B_X7_isGranted_48 {g : GG} (Q : Int32 → Mem → Prop) : ∀ (n : Nat) (v0 : Nat) (v2 : Int32) (v4 : Int32) (M : Mem), T_X7_isGranted_48 Q n v0 v2 v4 M → WP g 16 mX7_isGranted 48 [some (.ref (g.1 + v0)), none, some (.int v2), none, some (.int v4)] [] M 0 (oZ Q noX) := by
  intro n
  induction n with
  | zero => intro v0 v2 v4 M h; exact h.elim
  | succ n hκ48 =>
    intro v0 v2 v4 M h
    unfold T_X7_isGranted_48 at h
    refine R_iload (pc := 48) d_X7_isGranted_48 rfl ?_
    refine R_iconst (pc := 50) (v := 4) d_X7_isGranted_50 (by decide) ?_
    refine R_aload_n (pc := 51) d_X7_isGranted_51 rfl rfl ?_
    obtain ⟨k1, h⟩ := h
    refine R_getR (pc := 52) fld_RX7_7 rfl rfl k1 d_X7_isGranted_52 ?_
    refine R_iload_n (pc := 55) d_X7_isGranted_55 rfl rfl ?_
    refine R_iconst (pc := 56) (v := 3) d_X7_isGranted_56 (by decide) ?_
    refine R_iadd (pc := 57) d_X7_isGranted_57 ?_
    obtain ⟨k2, h⟩ := h
    obtain ⟨k3, h⟩ := h
    refine R_iald (pc := 58) k2 k3 d_X7_isGranted_58 ?_
    refine R_imul (pc := 59) d_X7_isGranted_59 ?_
    refine R_iconst (pc := 60) (v := 4) d_X7_isGranted_60 (by decide) ?_
    refine R_iadd (pc := 61) d_X7_isGranted_61 ?_
    refine R_icmp_ge (pc := 62) (tgt := 137) d_X7_isGranted_62 (by decide) (fun c => ?_) (fun c => ?_)
    · rw [if_pos c] at h
      refine R_iconst (pc := 137) (v := 0) d_X7_isGranted_137 (by decide) ?_
      exact R_retv (pc := 138) d_X7_isGranted_138 h
    · rw [if_neg c] at h
      refine R_aload_n (pc := 65) d_X7_isGranted_65 rfl rfl ?_
      refine R_aload_n (pc := 66) d_X7_isGranted_66 rfl rfl ?_
      refine R_getR (pc := 67) fld_RX7_7 rfl rfl k1 d_X7_isGranted_67 ?_
      refine R_iload_n (pc := 70) d_X7_isGranted_70 rfl rfl ?_
      obtain ⟨k4, h⟩ := h
      refine R_iald (pc := 71) k2 k4 d_X7_isGranted_71 ?_
      refine R_aload_n (pc := 72) d_X7_isGranted_72 rfl rfl ?_
      refine R_getR (pc := 73) fld_RX7_7 rfl rfl k1 d_X7_isGranted_73 ?_
      refine R_iload_n (pc := 76) d_X7_isGranted_76 rfl rfl ?_
      refine R_iconst (pc := 77) (v := 1) d_X7_isGranted_77 (by decide) ?_
      refine R_iadd (pc := 78) d_X7_isGranted_78 ?_
      obtain ⟨k5, h⟩ := h
      refine R_iald (pc := 79) k2 k5 d_X7_isGranted_79 ?_
      refine R_iload (pc := 80) d_X7_isGranted_80 rfl ?_
      refine R_iconst (pc := 82) (v := 4) d_X7_isGranted_82 (by decide) ?_
      refine R_idiv (pc := 83) d_X7_isGranted_83 (by decide) ?_
      refine R_iload (pc := 84) d_X7_isGranted_84 rfl ?_
      refine R_iconst (pc := 86) (v := 4) d_X7_isGranted_86 (by decide) ?_
      refine R_irem (pc := 87) d_X7_isGranted_87 (by decide) ?_
      refine R_callV (pc := 88) (As := [.int (M.1 (rf v0 1) (Int32.toNatClampNeg v2)), .int (M.1 (rf v0 1) (Int32.toNatClampNeg (v2 + 1))), .int (v4 / 4), .int (v4 - v4 / 4 * 4)]) (rest := []) (c_X7_reasonOf (g := g) v0 (M.1 (rf v0 1) (Int32.toNatClampNeg v2)) (M.1 (rf v0 1) (Int32.toNatClampNeg (v2 + 1))) (v4 / 4) (v4 - v4 / 4 * 4) M _ h) rfl rfl cal_RX7_140 ins_X7_reasonOf sel_X7_reasonOf (cls_at k1 clsOK7) (by decide) (by decide) rfl rfl (Nat.le_of_ble_eq_true rfl) d_X7_isGranted_88 (k_I (fun y7 M6 h => ?_)) (fun _ _ h9 => False.elim h9)
      try dsimp only at h
      refine R_if_ne (pc := 91) (tgt := 131) d_X7_isGranted_91 (by decide) (fun c => ?_) (fun c => ?_)
      · rw [if_neg c] at h
        obtain ⟨x8, ex8⟩ : ∃ z : Int32, z = v4 + 1 := ⟨_, rfl⟩
        have h := h x8 ex8
        refine R_iinc (pc := 131) (v := x8) (L' := [some (.ref (g.1 + v0)), none, some (.int v2), none, some (.int x8)]) d_X7_isGranted_131 rfl (by rw [ex8]; rfl) (by decide) rfl ?_
        refine R_goto (pc := 134) (tgt := 48) d_X7_isGranted_134 (by decide) ?_
        exact WP_sub (hκ48 v0 v2 x8 M6 h) (by decide) (ls_s (ls_n (ls_s (ls_n (ls_s ls_0)))))
      · rw [if_pos c] at h
        refine R_aload_n (pc := 94) d_X7_isGranted_94 rfl rfl ?_
        refine R_aload_n (pc := 95) d_X7_isGranted_95 rfl rfl ?_
        refine R_aload_n (pc := 96) d_X7_isGranted_96 rfl rfl ?_
        refine R_getR (pc := 97) fld_RX7_7 rfl rfl k1 d_X7_isGranted_97 ?_
        refine R_iload_n (pc := 100) d_X7_isGranted_100 rfl rfl ?_
        refine R_iald (pc := 101) k2 k4 d_X7_isGranted_101 ?_
        refine R_aload_n (pc := 102) d_X7_isGranted_102 rfl rfl ?_
        refine R_getR (pc := 103) fld_RX7_7 rfl rfl k1 d_X7_isGranted_103 ?_
        refine R_iload_n (pc := 106) d_X7_isGranted_106 rfl rfl ?_
        refine R_iconst (pc := 107) (v := 1) d_X7_isGranted_107 (by decide) ?_
        refine R_iadd (pc := 108) d_X7_isGranted_108 ?_
        refine R_iald (pc := 109) k2 k5 d_X7_isGranted_109 ?_
        refine R_iload (pc := 110) d_X7_isGranted_110 rfl ?_
        refine R_iconst (pc := 112) (v := 4) d_X7_isGranted_112 (by decide) ?_
        refine R_idiv (pc := 113) d_X7_isGranted_113 (by decide) ?_
        refine R_iload (pc := 114) d_X7_isGranted_114 rfl ?_
        refine R_iconst (pc := 116) (v := 4) d_X7_isGranted_116 (by decide) ?_
        refine R_irem (pc := 117) d_X7_isGranted_117 (by decide) ?_
        refine R_aload_n (pc := 118) d_X7_isGranted_118 rfl rfl ?_
        refine R_getI (pc := 119) fld_RX7_127 rfl rfl k1 d_X7_isGranted_119 ?_
        refine R_callV (pc := 122) (As := [.int (M6.1 (rf v0 1) (Int32.toNatClampNeg v2)), .int (M6.1 (rf v0 1) (Int32.toNatClampNeg (v2 + 1))), .int (v4 / 4), .int (v4 - v4 / 4 * 4), .int (M6.1 v0 14)]) (rest := [.ref (g.1 + v0)]) (c_X7_adds (g := g) v0 (M6.1 (rf v0 1) (Int32.toNatClampNeg v2)) (M6.1 (rf v0 1) (Int32.toNatClampNeg (v2 + 1))) (v4 / 4) (v4 - v4 / 4 * 4) (M6.1 v0 14) M6 _ h) rfl rfl cal_RX7_143 ins_X7_adds sel_X7_adds (cls_at k1 clsOK7) (by decide) (by decide) rfl rfl (Nat.le_of_ble_eq_true rfl) d_X7_isGranted_122 (k_I (fun y10 M9 h => ?_)) (fun _ _ h9 => False.elim h9)
        try dsimp only at h
        refine R_iconst (pc := 125) (v := 3) d_X7_isGranted_125 (by decide) ?_
        refine R_callV (pc := 126) (As := [.int y10, .int 3]) (rest := []) (c_X7_notes (g := g) v0 y10 3 M9 _ h) rfl rfl cal_RX7_137 ins_X7_notes sel_X7_notes (cls_at k1 clsOK7) (by decide) (by decide) rfl rfl (Nat.le_of_ble_eq_true rfl) d_X7_isGranted_126 (k_V (fun M11 h => ?_)) (fun _ _ h9 => False.elim h9)
        try dsimp only at h
        refine R_iconst (pc := 129) (v := 1) d_X7_isGranted_129 (by decide) ?_
        exact R_retv (pc := 130) d_X7_isGranted_130 h
def T_X7_isGranted_42 (Q : Int32 → Mem → Prop) (v0 : Nat) (v2 : Int32) (s0 : Int32) (M : Mem) : Prop := ∀ x1 : Int32, x1 = 4 * s0 → (∃ N : Nat, T_X7_isGranted_48 Q N v0 v2 x1 M)
set_option maxRecDepth 100000 in
set_option maxHeartbeats 4000000 in
theorem B_X7_isGranted_42 {g : GG} (Q : Int32 → Mem → Prop) (v0 : Nat) (v2 : Int32) (s0 : Int32) (M : Mem) (h : T_X7_isGranted_42 Q v0 v2 s0 M) : WP g 16 mX7_isGranted 42 [some (.ref (g.1 + v0)), none, some (.int v2), none, none] [.int s0] M 0 (oZ Q noX) := by
  unfold T_X7_isGranted_42 at h
  refine R_istore_n (pc := 42) (L' := [some (.ref (g.1 + v0)), none, some (.int v2), some (.int s0), none]) d_X7_isGranted_42 rfl (by decide) rfl ?_
  refine R_iconst (pc := 43) (v := 4) d_X7_isGranted_43 (by decide) ?_
  refine R_iload_n (pc := 44) d_X7_isGranted_44 rfl rfl ?_
  refine R_imul (pc := 45) d_X7_isGranted_45 ?_
  refine N_i (fun x1 ex1 => ?_)
  have h := h x1 ex1
  refine R_istore (pc := 46) (L' := [some (.ref (g.1 + v0)), none, some (.int v2), some (.int s0), some (.int x1)]) d_X7_isGranted_46 (by decide) rfl ?_
  obtain ⟨N, h⟩ := h
  exact WP_sub (B_X7_isGranted_48 Q N v0 v2 x1 M h) (by decide) (ls_s (ls_n (ls_s (ls_n (ls_s ls_0)))))
def T_X7_isGranted (Q : Int32 → Mem → Prop) (v0 : Nat) (v1 : Int32) (M : Mem) : Prop := ∀ x1 : Int32, x1 = 488 + (4 * v1) → (kd v0 = 7) ∧ (kd (rf v0 1) = 9) ∧ (vp_in (x1 + 2) (ln (rf v0 1))) ∧ (vp_in 0 (ln (rf v0 1))) ∧ if (M.1 (rf v0 1) (Int32.toNatClampNeg (x1 + 2))) ≤ (M.1 (rf v0 1) (Int32.toNatClampNeg 0)) then (T_X7_isGranted_42 Q v0 x1 (M.1 (rf v0 1) (Int32.toNatClampNeg 0)) M) else (T_X7_isGranted_42 Q v0 x1 (M.1 (rf v0 1) (Int32.toNatClampNeg (x1 + 2))) M)
set_option maxRecDepth 100000 in
set_option maxHeartbeats 4000000 in
theorem c_X7_isGranted {g : GG} (v0 : Nat) (v1 : Int32) (M : Mem) (Q : Int32 → Mem → Prop) (h : T_X7_isGranted Q v0 v1 M) : CT g 16 mX7_isGranted [.ref (g.1 + v0), .int v1] M 0 (oZ Q noX) := by
  refine CT_of (L := [some (.ref (g.1 + v0)), some (.int v1), none, none, none]) (by decide) rfl (Nat.le_of_ble_eq_true rfl) (ro_Z rfl) rfl ?_
  unfold T_X7_isGranted at h
  refine R_sipush (pc := 0) (v := 488) d_X7_isGranted_0 (by decide) ?_
  refine R_iconst (pc := 3) (v := 4) d_X7_isGranted_3 (by decide) ?_
  refine R_iload_n (pc := 4) d_X7_isGranted_4 rfl rfl ?_
  refine R_imul (pc := 5) d_X7_isGranted_5 ?_
  refine R_iadd (pc := 6) d_X7_isGranted_6 ?_
  refine N_i (fun x1 ex1 => ?_)
  have h := h x1 ex1
  refine R_istore_n (pc := 7) (L' := [some (.ref (g.1 + v0)), some (.int v1), some (.int x1), none, none]) d_X7_isGranted_7 rfl (by decide) rfl ?_
  refine R_aload_n (pc := 8) d_X7_isGranted_8 rfl rfl ?_
  obtain ⟨k2, h⟩ := h
  refine R_getR (pc := 9) fld_RX7_7 rfl rfl k2 d_X7_isGranted_9 ?_
  refine R_iload_n (pc := 12) d_X7_isGranted_12 rfl rfl ?_
  refine R_iconst (pc := 13) (v := 2) d_X7_isGranted_13 (by decide) ?_
  refine R_iadd (pc := 14) d_X7_isGranted_14 ?_
  obtain ⟨k3, h⟩ := h
  obtain ⟨k4, h⟩ := h
  refine R_iald (pc := 15) k3 k4 d_X7_isGranted_15 ?_
  refine R_aload_n (pc := 16) d_X7_isGranted_16 rfl rfl ?_
  refine R_getR (pc := 17) fld_RX7_7 rfl rfl k2 d_X7_isGranted_17 ?_
  refine R_iconst (pc := 20) (v := 0) d_X7_isGranted_20 (by decide) ?_
  obtain ⟨k5, h⟩ := h
  refine R_iald (pc := 21) k3 k5 d_X7_isGranted_21 ?_
  refine R_icmp_le (pc := 22) (tgt := 36) d_X7_isGranted_22 (by decide) (fun c => ?_) (fun c => ?_)
  · rw [if_pos c] at h
    refine R_aload_n (pc := 36) d_X7_isGranted_36 rfl rfl ?_
    refine R_getR (pc := 37) fld_RX7_7 rfl rfl k2 d_X7_isGranted_37 ?_
    refine R_iconst (pc := 40) (v := 0) d_X7_isGranted_40 (by decide) ?_
    refine R_iald (pc := 41) k3 k5 d_X7_isGranted_41 ?_
    exact WP_sub (B_X7_isGranted_42 Q v0 x1 (M.1 (rf v0 1) (Int32.toNatClampNeg 0)) M h) (by decide) (ls_s (ls_n (ls_s (ls_n (ls_n ls_0)))))
  · rw [if_neg c] at h
    refine R_aload_n (pc := 25) d_X7_isGranted_25 rfl rfl ?_
    refine R_getR (pc := 26) fld_RX7_7 rfl rfl k2 d_X7_isGranted_26 ?_
    refine R_iload_n (pc := 29) d_X7_isGranted_29 rfl rfl ?_
    refine R_iconst (pc := 30) (v := 2) d_X7_isGranted_30 (by decide) ?_
    refine R_iadd (pc := 31) d_X7_isGranted_31 ?_
    refine R_iald (pc := 32) k3 k4 d_X7_isGranted_32 ?_
    refine R_goto (pc := 33) (tgt := 42) d_X7_isGranted_33 (by decide) ?_
    exact WP_sub (B_X7_isGranted_42 Q v0 x1 (M.1 (rf v0 1) (Int32.toNatClampNeg (x1 + 2))) M h) (by decide) (ls_s (ls_n (ls_s (ls_n (ls_n ls_0)))))
/-! X7_dropsWish -/
theorem d_X7_dropsWish_0 : decode mX7_dropsWish.2.1 0 = .ok (.iconst 4, 1) := by decide +kernel
theorem d_X7_dropsWish_1 : decode mX7_dropsWish.2.1 1 = .ok (.iload_n 1, 1) := by decide +kernel
theorem d_X7_dropsWish_2 : decode mX7_dropsWish.2.1 2 = .ok (.imul, 1) := by decide +kernel
theorem d_X7_dropsWish_3 : decode mX7_dropsWish.2.1 3 = .ok (.istore_n 2, 1) := by decide +kernel
theorem d_X7_dropsWish_4 : decode mX7_dropsWish.2.1 4 = .ok (.iload_n 2, 1) := by decide +kernel
theorem d_X7_dropsWish_5 : decode mX7_dropsWish.2.1 5 = .ok (.iconst 4, 1) := by decide +kernel
theorem d_X7_dropsWish_6 : decode mX7_dropsWish.2.1 6 = .ok (.aload_n 0, 1) := by decide +kernel
theorem d_X7_dropsWish_7 : decode mX7_dropsWish.2.1 7 = .ok (.getfield 7, 3) := by decide +kernel
theorem d_X7_dropsWish_10 : decode mX7_dropsWish.2.1 10 = .ok (.bipush 6, 2) := by decide +kernel
theorem d_X7_dropsWish_12 : decode mX7_dropsWish.2.1 12 = .ok (.iaload, 1) := by decide +kernel
theorem d_X7_dropsWish_13 : decode mX7_dropsWish.2.1 13 = .ok (.imul, 1) := by decide +kernel
theorem d_X7_dropsWish_14 : decode mX7_dropsWish.2.1 14 = .ok (.iconst 4, 1) := by decide +kernel
theorem d_X7_dropsWish_15 : decode mX7_dropsWish.2.1 15 = .ok (.isub, 1) := by decide +kernel
theorem d_X7_dropsWish_16 : decode mX7_dropsWish.2.1 16 = .ok (.if_icmp .ge 31, 3) := by decide +kernel
theorem d_X7_dropsWish_19 : decode mX7_dropsWish.2.1 19 = .ok (.aload_n 0, 1) := by decide +kernel
theorem d_X7_dropsWish_20 : decode mX7_dropsWish.2.1 20 = .ok (.getfield 7, 3) := by decide +kernel
theorem d_X7_dropsWish_23 : decode mX7_dropsWish.2.1 23 = .ok (.sipush 488, 3) := by decide +kernel
theorem d_X7_dropsWish_26 : decode mX7_dropsWish.2.1 26 = .ok (.iload_n 2, 1) := by decide +kernel
theorem d_X7_dropsWish_27 : decode mX7_dropsWish.2.1 27 = .ok (.iadd, 1) := by decide +kernel
theorem d_X7_dropsWish_28 : decode mX7_dropsWish.2.1 28 = .ok (.aload_n 0, 1) := by decide +kernel
theorem d_X7_dropsWish_29 : decode mX7_dropsWish.2.1 29 = .ok (.getfield 7, 3) := by decide +kernel
theorem d_X7_dropsWish_32 : decode mX7_dropsWish.2.1 32 = .ok (.sipush 488, 3) := by decide +kernel
theorem d_X7_dropsWish_35 : decode mX7_dropsWish.2.1 35 = .ok (.iload_n 2, 1) := by decide +kernel
theorem d_X7_dropsWish_36 : decode mX7_dropsWish.2.1 36 = .ok (.iadd, 1) := by decide +kernel
theorem d_X7_dropsWish_37 : decode mX7_dropsWish.2.1 37 = .ok (.iconst 4, 1) := by decide +kernel
theorem d_X7_dropsWish_38 : decode mX7_dropsWish.2.1 38 = .ok (.iadd, 1) := by decide +kernel
theorem d_X7_dropsWish_39 : decode mX7_dropsWish.2.1 39 = .ok (.iaload, 1) := by decide +kernel
theorem d_X7_dropsWish_40 : decode mX7_dropsWish.2.1 40 = .ok (.iastore, 1) := by decide +kernel
theorem d_X7_dropsWish_41 : decode mX7_dropsWish.2.1 41 = .ok (.iinc 2 1, 3) := by decide +kernel
theorem d_X7_dropsWish_44 : decode mX7_dropsWish.2.1 44 = .ok (.goto (-40), 3) := by decide +kernel
theorem d_X7_dropsWish_47 : decode mX7_dropsWish.2.1 47 = .ok (.aload_n 0, 1) := by decide +kernel
theorem d_X7_dropsWish_48 : decode mX7_dropsWish.2.1 48 = .ok (.getfield 7, 3) := by decide +kernel
theorem d_X7_dropsWish_51 : decode mX7_dropsWish.2.1 51 = .ok (.bipush 6, 2) := by decide +kernel
theorem d_X7_dropsWish_53 : decode mX7_dropsWish.2.1 53 = .ok (.dup2, 1) := by decide +kernel
theorem d_X7_dropsWish_54 : decode mX7_dropsWish.2.1 54 = .ok (.iaload, 1) := by decide +kernel
theorem d_X7_dropsWish_55 : decode mX7_dropsWish.2.1 55 = .ok (.iconst 1, 1) := by decide +kernel
theorem d_X7_dropsWish_56 : decode mX7_dropsWish.2.1 56 = .ok (.isub, 1) := by decide +kernel
theorem d_X7_dropsWish_57 : decode mX7_dropsWish.2.1 57 = .ok (.iastore, 1) := by decide +kernel
theorem d_X7_dropsWish_58 : decode mX7_dropsWish.2.1 58 = .ok (.return_, 1) := by decide +kernel
def T_X7_dropsWish_4 (Q : Mem → Prop) : Nat → Nat → Int32 → Mem → Prop
  | 0, _, _, _ => False
  | n + 1, v0, v2, M => (kd v0 = 7) ∧ (kd (rf v0 1) = 9) ∧ (vp_in 6 (ln (rf v0 1))) ∧ if ((4 * (M.1 (rf v0 1) (Int32.toNatClampNeg 6))) - 4) ≤ v2 then (∀ M4 : Mem, M4 = mset M (rf v0 1) (Int32.toNatClampNeg 6) ((M.1 (rf v0 1) (Int32.toNatClampNeg 6)) - 1) → Q M4) else ((vp_in ((488 + v2) + 4) (ln (rf v0 1))) ∧ (vp_in (488 + v2) (ln (rf v0 1))) ∧ ∀ M7 : Mem, M7 = mset M (rf v0 1) (Int32.toNatClampNeg (488 + v2)) (M.1 (rf v0 1) (Int32.toNatClampNeg ((488 + v2) + 4))) → ∀ x8 : Int32, x8 = v2 + 1 → (T_X7_dropsWish_4 Q n) v0 x8 M7)
set_option maxRecDepth 100000 in
set_option maxHeartbeats 4000000 in
theorem B_X7_dropsWish_4 {g : GG} (Q : Mem → Prop) : ∀ (n : Nat) (v0 : Nat) (v2 : Int32) (M : Mem), T_X7_dropsWish_4 Q n v0 v2 M → WP g 9 mX7_dropsWish 4 [some (.ref (g.1 + v0)), none, some (.int v2)] [] M 0 (oV Q noX) := by
  intro n
  induction n with
  | zero => intro v0 v2 M h; exact h.elim
  | succ n hκ4 =>
    intro v0 v2 M h
    unfold T_X7_dropsWish_4 at h
    refine R_iload_n (pc := 4) d_X7_dropsWish_4 rfl rfl ?_
    refine R_iconst (pc := 5) (v := 4) d_X7_dropsWish_5 (by decide) ?_
    refine R_aload_n (pc := 6) d_X7_dropsWish_6 rfl rfl ?_
    obtain ⟨k1, h⟩ := h
    refine R_getR (pc := 7) fld_RX7_7 rfl rfl k1 d_X7_dropsWish_7 ?_
    refine R_bipush (pc := 10) (v := 6) d_X7_dropsWish_10 (by decide) ?_
    obtain ⟨k2, h⟩ := h
    obtain ⟨k3, h⟩ := h
    refine R_iald (pc := 12) k2 k3 d_X7_dropsWish_12 ?_
    refine R_imul (pc := 13) d_X7_dropsWish_13 ?_
    refine R_iconst (pc := 14) (v := 4) d_X7_dropsWish_14 (by decide) ?_
    refine R_isub (pc := 15) d_X7_dropsWish_15 ?_
    refine R_icmp_ge (pc := 16) (tgt := 47) d_X7_dropsWish_16 (by decide) (fun c => ?_) (fun c => ?_)
    · rw [if_pos c] at h
      refine R_aload_n (pc := 47) d_X7_dropsWish_47 rfl rfl ?_
      refine R_getR (pc := 48) fld_RX7_7 rfl rfl k1 d_X7_dropsWish_48 ?_
      refine R_bipush (pc := 51) (v := 6) d_X7_dropsWish_51 (by decide) ?_
      refine R_dup2 (pc := 53) d_X7_dropsWish_53 rfl rfl ?_
      refine R_iald (pc := 54) k2 k3 d_X7_dropsWish_54 ?_
      refine R_iconst (pc := 55) (v := 1) d_X7_dropsWish_55 (by decide) ?_
      refine R_isub (pc := 56) d_X7_dropsWish_56 ?_
      refine R_iast (pc := 57) k2 k3 d_X7_dropsWish_57 (N_M (fun M4 eM4 => ?_))
      have h := h M4 eM4
      exact R_ret (pc := 58) d_X7_dropsWish_58 h
    · rw [if_neg c] at h
      refine R_aload_n (pc := 19) d_X7_dropsWish_19 rfl rfl ?_
      refine R_getR (pc := 20) fld_RX7_7 rfl rfl k1 d_X7_dropsWish_20 ?_
      refine R_sipush (pc := 23) (v := 488) d_X7_dropsWish_23 (by decide) ?_
      refine R_iload_n (pc := 26) d_X7_dropsWish_26 rfl rfl ?_
      refine R_iadd (pc := 27) d_X7_dropsWish_27 ?_
      refine R_aload_n (pc := 28) d_X7_dropsWish_28 rfl rfl ?_
      refine R_getR (pc := 29) fld_RX7_7 rfl rfl k1 d_X7_dropsWish_29 ?_
      refine R_sipush (pc := 32) (v := 488) d_X7_dropsWish_32 (by decide) ?_
      refine R_iload_n (pc := 35) d_X7_dropsWish_35 rfl rfl ?_
      refine R_iadd (pc := 36) d_X7_dropsWish_36 ?_
      refine R_iconst (pc := 37) (v := 4) d_X7_dropsWish_37 (by decide) ?_
      refine R_iadd (pc := 38) d_X7_dropsWish_38 ?_
      obtain ⟨k5, h⟩ := h
      refine R_iald (pc := 39) k2 k5 d_X7_dropsWish_39 ?_
      obtain ⟨k6, h⟩ := h
      refine R_iast (pc := 40) k2 k6 d_X7_dropsWish_40 (N_M (fun M7 eM7 => ?_))
      have h := h M7 eM7
      obtain ⟨x8, ex8⟩ : ∃ z : Int32, z = v2 + 1 := ⟨_, rfl⟩
      have h := h x8 ex8
      refine R_iinc (pc := 41) (v := x8) (L' := [some (.ref (g.1 + v0)), none, some (.int x8)]) d_X7_dropsWish_41 rfl (by rw [ex8]; rfl) (by decide) rfl ?_
      refine R_goto (pc := 44) (tgt := 4) d_X7_dropsWish_44 (by decide) ?_
      exact WP_sub (hκ4 v0 x8 M7 h) (by decide) (ls_s (ls_n (ls_s ls_0)))
def T_X7_dropsWish (Q : Mem → Prop) (v0 : Nat) (v1 : Int32) (M : Mem) : Prop := ∀ x1 : Int32, x1 = 4 * v1 → (∃ N : Nat, T_X7_dropsWish_4 Q N v0 x1 M)
set_option maxRecDepth 100000 in
set_option maxHeartbeats 4000000 in
theorem c_X7_dropsWish {g : GG} (v0 : Nat) (v1 : Int32) (M : Mem) (Q : Mem → Prop) (h : T_X7_dropsWish Q v0 v1 M) : CT g 9 mX7_dropsWish [.ref (g.1 + v0), .int v1] M 0 (oV Q noX) := by
  refine CT_of (L := [some (.ref (g.1 + v0)), some (.int v1), none]) (by decide) rfl (Nat.le_of_ble_eq_true rfl) (ro_V rfl) rfl ?_
  unfold T_X7_dropsWish at h
  refine R_iconst (pc := 0) (v := 4) d_X7_dropsWish_0 (by decide) ?_
  refine R_iload_n (pc := 1) d_X7_dropsWish_1 rfl rfl ?_
  refine R_imul (pc := 2) d_X7_dropsWish_2 ?_
  refine N_i (fun x1 ex1 => ?_)
  have h := h x1 ex1
  refine R_istore_n (pc := 3) (L' := [some (.ref (g.1 + v0)), some (.int v1), some (.int x1)]) d_X7_dropsWish_3 rfl (by decide) rfl ?_
  obtain ⟨N, h⟩ := h
  exact WP_sub (B_X7_dropsWish_4 Q N v0 x1 M h) (by decide) (ls_s (ls_n (ls_s ls_0)))
/-! X7_grants -/
theorem d_X7_grants_0 : decode mX7_grants.2.1 0 = .ok (.iconst 0, 1) := by decide +kernel
theorem d_X7_grants_1 : decode mX7_grants.2.1 1 = .ok (.istore_n 1, 1) := by decide +kernel
theorem d_X7_grants_2 : decode mX7_grants.2.1 2 = .ok (.iconst 0, 1) := by decide +kernel
theorem d_X7_grants_3 : decode mX7_grants.2.1 3 = .ok (.istore_n 2, 1) := by decide +kernel
theorem d_X7_grants_4 : decode mX7_grants.2.1 4 = .ok (.iload_n 2, 1) := by decide +kernel
theorem d_X7_grants_5 : decode mX7_grants.2.1 5 = .ok (.aload_n 0, 1) := by decide +kernel
theorem d_X7_grants_6 : decode mX7_grants.2.1 6 = .ok (.getfield 7, 3) := by decide +kernel
theorem d_X7_grants_9 : decode mX7_grants.2.1 9 = .ok (.bipush 6, 2) := by decide +kernel
theorem d_X7_grants_11 : decode mX7_grants.2.1 11 = .ok (.iaload, 1) := by decide +kernel
theorem d_X7_grants_12 : decode mX7_grants.2.1 12 = .ok (.if_icmp .ge 28, 3) := by decide +kernel
theorem d_X7_grants_15 : decode mX7_grants.2.1 15 = .ok (.aload_n 0, 1) := by decide +kernel
theorem d_X7_grants_16 : decode mX7_grants.2.1 16 = .ok (.iload_n 2, 1) := by decide +kernel
theorem d_X7_grants_17 : decode mX7_grants.2.1 17 = .ok (.invokevirtual 147, 3) := by decide +kernel
theorem d_X7_grants_20 : decode mX7_grants.2.1 20 = .ok (.ifCond .eq 14, 3) := by decide +kernel
theorem d_X7_grants_23 : decode mX7_grants.2.1 23 = .ok (.aload_n 0, 1) := by decide +kernel
theorem d_X7_grants_24 : decode mX7_grants.2.1 24 = .ok (.iload_n 2, 1) := by decide +kernel
theorem d_X7_grants_25 : decode mX7_grants.2.1 25 = .ok (.invokevirtual 150, 3) := by decide +kernel
theorem d_X7_grants_28 : decode mX7_grants.2.1 28 = .ok (.iinc 1 1, 3) := by decide +kernel
theorem d_X7_grants_31 : decode mX7_grants.2.1 31 = .ok (.goto (-27), 3) := by decide +kernel
theorem d_X7_grants_34 : decode mX7_grants.2.1 34 = .ok (.iinc 2 1, 3) := by decide +kernel
theorem d_X7_grants_37 : decode mX7_grants.2.1 37 = .ok (.goto (-33), 3) := by decide +kernel
theorem d_X7_grants_40 : decode mX7_grants.2.1 40 = .ok (.iload_n 1, 1) := by decide +kernel
theorem d_X7_grants_41 : decode mX7_grants.2.1 41 = .ok (.ireturn, 1) := by decide +kernel
def T_X7_grants_4 (Q : Int32 → Mem → Prop) : Nat → Nat → Int32 → Int32 → Mem → Prop
  | 0, _, _, _, _ => False
  | n + 1, v0, v1, v2, M => (kd v0 = 7) ∧ (kd (rf v0 1) = 9) ∧ (vp_in 6 (ln (rf v0 1))) ∧ if (M.1 (rf v0 1) (Int32.toNatClampNeg 6)) ≤ v2 then (Q v1 M) else (T_X7_isGranted (fun y5 M4 => if y5 = 0 then (∀ x6 : Int32, x6 = v2 + 1 → (T_X7_grants_4 Q n) v0 v1 x6 M4) else (T_X7_dropsWish (fun M7 => ∀ x8 : Int32, x8 = v1 + 1 → (T_X7_grants_4 Q n) v0 x8 v2 M7)  v0 v2 M4))  v0 v2 M)
set_option maxRecDepth 100000 in
set_option maxHeartbeats 4000000 in
theorem B_X7_grants_4 {g : GG} (Q : Int32 → Mem → Prop) : ∀ (n : Nat) (v0 : Nat) (v1 : Int32) (v2 : Int32) (M : Mem), T_X7_grants_4 Q n v0 v1 v2 M → WP g 17 mX7_grants 4 [some (.ref (g.1 + v0)), some (.int v1), some (.int v2)] [] M 0 (oI Q noX) := by
  intro n
  induction n with
  | zero => intro v0 v1 v2 M h; exact h.elim
  | succ n hκ4 =>
    intro v0 v1 v2 M h
    unfold T_X7_grants_4 at h
    refine R_iload_n (pc := 4) d_X7_grants_4 rfl rfl ?_
    refine R_aload_n (pc := 5) d_X7_grants_5 rfl rfl ?_
    obtain ⟨k1, h⟩ := h
    refine R_getR (pc := 6) fld_RX7_7 rfl rfl k1 d_X7_grants_6 ?_
    refine R_bipush (pc := 9) (v := 6) d_X7_grants_9 (by decide) ?_
    obtain ⟨k2, h⟩ := h
    obtain ⟨k3, h⟩ := h
    refine R_iald (pc := 11) k2 k3 d_X7_grants_11 ?_
    refine R_icmp_ge (pc := 12) (tgt := 40) d_X7_grants_12 (by decide) (fun c => ?_) (fun c => ?_)
    · rw [if_pos c] at h
      refine R_iload_n (pc := 40) d_X7_grants_40 rfl rfl ?_
      exact R_retv (pc := 41) d_X7_grants_41 h
    · rw [if_neg c] at h
      refine R_aload_n (pc := 15) d_X7_grants_15 rfl rfl ?_
      refine R_iload_n (pc := 16) d_X7_grants_16 rfl rfl ?_
      refine R_callV (pc := 17) (As := [.int v2]) (rest := []) (c_X7_isGranted (g := g) v0 v2 M _ h) rfl rfl cal_RX7_147 ins_X7_isGranted sel_X7_isGranted (cls_at k1 clsOK7) (by decide) (by decide) rfl rfl (Nat.le_of_ble_eq_true rfl) d_X7_grants_17 (k_Z (fun y5 M4 h => ?_)) (fun _ _ h9 => False.elim h9)
      try dsimp only at h
      refine R_if_eq (pc := 20) (tgt := 34) d_X7_grants_20 (by decide) (fun c => ?_) (fun c => ?_)
      · rw [if_pos c] at h
        obtain ⟨x6, ex6⟩ : ∃ z : Int32, z = v2 + 1 := ⟨_, rfl⟩
        have h := h x6 ex6
        refine R_iinc (pc := 34) (v := x6) (L' := [some (.ref (g.1 + v0)), some (.int v1), some (.int x6)]) d_X7_grants_34 rfl (by rw [ex6]; rfl) (by decide) rfl ?_
        refine R_goto (pc := 37) (tgt := 4) d_X7_grants_37 (by decide) ?_
        exact WP_sub (hκ4 v0 v1 x6 M4 h) (by decide) (ls_s (ls_s (ls_s ls_0)))
      · rw [if_neg c] at h
        refine R_aload_n (pc := 23) d_X7_grants_23 rfl rfl ?_
        refine R_iload_n (pc := 24) d_X7_grants_24 rfl rfl ?_
        refine R_callV (pc := 25) (As := [.int v2]) (rest := []) (c_X7_dropsWish (g := g) v0 v2 M4 _ h) rfl rfl cal_RX7_150 ins_X7_dropsWish sel_X7_dropsWish (cls_at k1 clsOK7) (by decide) (by decide) rfl rfl (Nat.le_of_ble_eq_true rfl) d_X7_grants_25 (k_V (fun M7 h => ?_)) (fun _ _ h9 => False.elim h9)
        try dsimp only at h
        obtain ⟨x8, ex8⟩ : ∃ z : Int32, z = v1 + 1 := ⟨_, rfl⟩
        have h := h x8 ex8
        refine R_iinc (pc := 28) (v := x8) (L' := [some (.ref (g.1 + v0)), some (.int x8), some (.int v2)]) d_X7_grants_28 rfl (by rw [ex8]; rfl) (by decide) rfl ?_
        refine R_goto (pc := 31) (tgt := 4) d_X7_grants_31 (by decide) ?_
        exact WP_sub (hκ4 v0 x8 v2 M7 h) (by decide) (ls_s (ls_s (ls_s ls_0)))
def T_X7_grants (Q : Int32 → Mem → Prop) (v0 : Nat) (M : Mem) : Prop := (∃ N : Nat, T_X7_grants_4 Q N v0 0 0 M)
set_option maxRecDepth 100000 in
set_option maxHeartbeats 4000000 in
theorem c_X7_grants {g : GG} (v0 : Nat) (M : Mem) (Q : Int32 → Mem → Prop) (h : T_X7_grants Q v0 M) : CT g 17 mX7_grants [.ref (g.1 + v0)] M 0 (oI Q noX) := by
  refine CT_of (L := [some (.ref (g.1 + v0)), none, none]) (by decide) rfl (Nat.le_of_ble_eq_true rfl) (ro_I rfl) rfl ?_
  unfold T_X7_grants at h
  refine R_iconst (pc := 0) (v := 0) d_X7_grants_0 (by decide) ?_
  refine R_istore_n (pc := 1) (L' := [some (.ref (g.1 + v0)), some (.int 0), none]) d_X7_grants_1 rfl (by decide) rfl ?_
  refine R_iconst (pc := 2) (v := 0) d_X7_grants_2 (by decide) ?_
  refine R_istore_n (pc := 3) (L' := [some (.ref (g.1 + v0)), some (.int 0), some (.int 0)]) d_X7_grants_3 rfl (by decide) rfl ?_
  obtain ⟨N, h⟩ := h
  exact WP_sub (B_X7_grants_4 Q N v0 0 0 M h) (by decide) (ls_s (ls_s (ls_s ls_0)))
/-! X7_nextOf -/
theorem d_X7_nextOf_0 : decode mX7_nextOf.2.1 0 = .ok (.iconst (-1), 1) := by decide +kernel
theorem d_X7_nextOf_1 : decode mX7_nextOf.2.1 1 = .ok (.istore 4, 2) := by decide +kernel
theorem d_X7_nextOf_3 : decode mX7_nextOf.2.1 3 = .ok (.iconst 0, 1) := by decide +kernel
theorem d_X7_nextOf_4 : decode mX7_nextOf.2.1 4 = .ok (.istore 5, 2) := by decide +kernel
theorem d_X7_nextOf_6 : decode mX7_nextOf.2.1 6 = .ok (.iload 5, 2) := by decide +kernel
theorem d_X7_nextOf_8 : decode mX7_nextOf.2.1 8 = .ok (.aload_n 0, 1) := by decide +kernel
theorem d_X7_nextOf_9 : decode mX7_nextOf.2.1 9 = .ok (.getfield 7, 3) := by decide +kernel
theorem d_X7_nextOf_12 : decode mX7_nextOf.2.1 12 = .ok (.iconst 4, 1) := by decide +kernel
theorem d_X7_nextOf_13 : decode mX7_nextOf.2.1 13 = .ok (.iaload, 1) := by decide +kernel
theorem d_X7_nextOf_14 : decode mX7_nextOf.2.1 14 = .ok (.if_icmp .ge 117, 3) := by decide +kernel
theorem d_X7_nextOf_17 : decode mX7_nextOf.2.1 17 = .ok (.iconst 4, 1) := by decide +kernel
theorem d_X7_nextOf_18 : decode mX7_nextOf.2.1 18 = .ok (.aload_n 0, 1) := by decide +kernel
theorem d_X7_nextOf_19 : decode mX7_nextOf.2.1 19 = .ok (.iload 5, 2) := by decide +kernel
theorem d_X7_nextOf_21 : decode mX7_nextOf.2.1 21 = .ok (.iconst 2, 1) := by decide +kernel
theorem d_X7_nextOf_22 : decode mX7_nextOf.2.1 22 = .ok (.invokevirtual 45, 3) := by decide +kernel
theorem d_X7_nextOf_25 : decode mX7_nextOf.2.1 25 = .ok (.imul, 1) := by decide +kernel
theorem d_X7_nextOf_26 : decode mX7_nextOf.2.1 26 = .ok (.aload_n 0, 1) := by decide +kernel
theorem d_X7_nextOf_27 : decode mX7_nextOf.2.1 27 = .ok (.iload 5, 2) := by decide +kernel
theorem d_X7_nextOf_29 : decode mX7_nextOf.2.1 29 = .ok (.iconst 3, 1) := by decide +kernel
theorem d_X7_nextOf_30 : decode mX7_nextOf.2.1 30 = .ok (.invokevirtual 45, 3) := by decide +kernel
theorem d_X7_nextOf_33 : decode mX7_nextOf.2.1 33 = .ok (.iadd, 1) := by decide +kernel
theorem d_X7_nextOf_34 : decode mX7_nextOf.2.1 34 = .ok (.istore 6, 2) := by decide +kernel
theorem d_X7_nextOf_36 : decode mX7_nextOf.2.1 36 = .ok (.aload_n 0, 1) := by decide +kernel
theorem d_X7_nextOf_37 : decode mX7_nextOf.2.1 37 = .ok (.iload 5, 2) := by decide +kernel
theorem d_X7_nextOf_39 : decode mX7_nextOf.2.1 39 = .ok (.invokevirtual 49, 3) := by decide +kernel
theorem d_X7_nextOf_42 : decode mX7_nextOf.2.1 42 = .ok (.ifCond .eq 43, 3) := by decide +kernel
theorem d_X7_nextOf_45 : decode mX7_nextOf.2.1 45 = .ok (.iload 6, 2) := by decide +kernel
theorem d_X7_nextOf_47 : decode mX7_nextOf.2.1 47 = .ok (.iload_n 3, 1) := by decide +kernel
theorem d_X7_nextOf_48 : decode mX7_nextOf.2.1 48 = .ok (.if_icmp .le 37, 3) := by decide +kernel
theorem d_X7_nextOf_51 : decode mX7_nextOf.2.1 51 = .ok (.iload_n 1, 1) := by decide +kernel
theorem d_X7_nextOf_52 : decode mX7_nextOf.2.1 52 = .ok (.iconst (-1), 1) := by decide +kernel
theorem d_X7_nextOf_53 : decode mX7_nextOf.2.1 53 = .ok (.if_icmp .ne 17, 3) := by decide +kernel
theorem d_X7_nextOf_56 : decode mX7_nextOf.2.1 56 = .ok (.aload_n 0, 1) := by decide +kernel
theorem d_X7_nextOf_57 : decode mX7_nextOf.2.1 57 = .ok (.iload 5, 2) := by decide +kernel
theorem d_X7_nextOf_59 : decode mX7_nextOf.2.1 59 = .ok (.iconst 4, 1) := by decide +kernel
theorem d_X7_nextOf_60 : decode mX7_nextOf.2.1 60 = .ok (.invokevirtual 45, 3) := by decide +kernel
theorem d_X7_nextOf_63 : decode mX7_nextOf.2.1 63 = .ok (.iload_n 2, 1) := by decide +kernel
theorem d_X7_nextOf_64 : decode mX7_nextOf.2.1 64 = .ok (.if_icmp .ne 21, 3) := by decide +kernel
theorem d_X7_nextOf_67 : decode mX7_nextOf.2.1 67 = .ok (.goto 14, 3) := by decide +kernel
theorem d_X7_nextOf_70 : decode mX7_nextOf.2.1 70 = .ok (.aload_n 0, 1) := by decide +kernel
theorem d_X7_nextOf_71 : decode mX7_nextOf.2.1 71 = .ok (.iload 5, 2) := by decide +kernel
theorem d_X7_nextOf_73 : decode mX7_nextOf.2.1 73 = .ok (.iconst 0, 1) := by decide +kernel
theorem d_X7_nextOf_74 : decode mX7_nextOf.2.1 74 = .ok (.invokevirtual 45, 3) := by decide +kernel
theorem d_X7_nextOf_77 : decode mX7_nextOf.2.1 77 = .ok (.iload_n 1, 1) := by decide +kernel
theorem d_X7_nextOf_78 : decode mX7_nextOf.2.1 78 = .ok (.if_icmp .ne 7, 3) := by decide +kernel
theorem d_X7_nextOf_81 : decode mX7_nextOf.2.1 81 = .ok (.iconst 1, 1) := by decide +kernel
theorem d_X7_nextOf_82 : decode mX7_nextOf.2.1 82 = .ok (.goto 4, 3) := by decide +kernel
theorem d_X7_nextOf_85 : decode mX7_nextOf.2.1 85 = .ok (.iconst 0, 1) := by decide +kernel
theorem d_X7_nextOf_86 : decode mX7_nextOf.2.1 86 = .ok (.istore 7, 2) := by decide +kernel
theorem d_X7_nextOf_88 : decode mX7_nextOf.2.1 88 = .ok (.iload 7, 2) := by decide +kernel
theorem d_X7_nextOf_90 : decode mX7_nextOf.2.1 90 = .ok (.ifCond .eq 35, 3) := by decide +kernel
theorem d_X7_nextOf_93 : decode mX7_nextOf.2.1 93 = .ok (.iload 4, 2) := by decide +kernel
theorem d_X7_nextOf_95 : decode mX7_nextOf.2.1 95 = .ok (.iconst (-1), 1) := by decide +kernel
theorem d_X7_nextOf_96 : decode mX7_nextOf.2.1 96 = .ok (.if_icmp .eq 25, 3) := by decide +kernel
theorem d_X7_nextOf_99 : decode mX7_nextOf.2.1 99 = .ok (.iload 6, 2) := by decide +kernel
theorem d_X7_nextOf_101 : decode mX7_nextOf.2.1 101 = .ok (.iconst 4, 1) := by decide +kernel
theorem d_X7_nextOf_102 : decode mX7_nextOf.2.1 102 = .ok (.aload_n 0, 1) := by decide +kernel
theorem d_X7_nextOf_103 : decode mX7_nextOf.2.1 103 = .ok (.iload 4, 2) := by decide +kernel
theorem d_X7_nextOf_105 : decode mX7_nextOf.2.1 105 = .ok (.iconst 2, 1) := by decide +kernel
theorem d_X7_nextOf_106 : decode mX7_nextOf.2.1 106 = .ok (.invokevirtual 45, 3) := by decide +kernel
theorem d_X7_nextOf_109 : decode mX7_nextOf.2.1 109 = .ok (.imul, 1) := by decide +kernel
theorem d_X7_nextOf_110 : decode mX7_nextOf.2.1 110 = .ok (.aload_n 0, 1) := by decide +kernel
theorem d_X7_nextOf_111 : decode mX7_nextOf.2.1 111 = .ok (.iload 4, 2) := by decide +kernel
theorem d_X7_nextOf_113 : decode mX7_nextOf.2.1 113 = .ok (.iconst 3, 1) := by decide +kernel
theorem d_X7_nextOf_114 : decode mX7_nextOf.2.1 114 = .ok (.invokevirtual 45, 3) := by decide +kernel
theorem d_X7_nextOf_117 : decode mX7_nextOf.2.1 117 = .ok (.iadd, 1) := by decide +kernel
theorem d_X7_nextOf_118 : decode mX7_nextOf.2.1 118 = .ok (.if_icmp .ge 7, 3) := by decide +kernel
theorem d_X7_nextOf_121 : decode mX7_nextOf.2.1 121 = .ok (.iload 5, 2) := by decide +kernel
theorem d_X7_nextOf_123 : decode mX7_nextOf.2.1 123 = .ok (.istore 4, 2) := by decide +kernel
theorem d_X7_nextOf_125 : decode mX7_nextOf.2.1 125 = .ok (.iinc 5 1, 3) := by decide +kernel
theorem d_X7_nextOf_128 : decode mX7_nextOf.2.1 128 = .ok (.goto (-122), 3) := by decide +kernel
theorem d_X7_nextOf_131 : decode mX7_nextOf.2.1 131 = .ok (.iload 4, 2) := by decide +kernel
theorem d_X7_nextOf_133 : decode mX7_nextOf.2.1 133 = .ok (.ireturn, 1) := by decide +kernel
def T_X7_nextOf_125 (κ6 : Nat → Int32 → Int32 → Int32 → Int32 → Int32 → Mem → Prop) (Q : Int32 → Mem → Prop) (v0 : Nat) (v1 : Int32) (v2 : Int32) (v3 : Int32) (v4 : Int32) (v5 : Int32) (M : Mem) : Prop := ∀ x1 : Int32, x1 = v5 + 1 → κ6 v0 v1 v2 v3 v4 x1 M
set_option maxRecDepth 100000 in
set_option maxHeartbeats 4000000 in
theorem B_X7_nextOf_125 {g : GG} (Q : Int32 → Mem → Prop) (κ6 : Nat → Int32 → Int32 → Int32 → Int32 → Int32 → Mem → Prop) (hκ6 : ∀ (v0 : Nat) (v1 : Int32) (v2 : Int32) (v3 : Int32) (v4 : Int32) (v5 : Int32) (M : Mem), κ6 v0 v1 v2 v3 v4 v5 M → WP g 11 mX7_nextOf 6 [some (.ref (g.1 + v0)), some (.int v1), some (.int v2), some (.int v3), some (.int v4), some (.int v5), none, none] [] M 0 (oI Q noX)) (v0 : Nat) (v1 : Int32) (v2 : Int32) (v3 : Int32) (v4 : Int32) (v5 : Int32) (M : Mem) (h : T_X7_nextOf_125 κ6 Q v0 v1 v2 v3 v4 v5 M) : WP g 11 mX7_nextOf 125 [some (.ref (g.1 + v0)), some (.int v1), some (.int v2), some (.int v3), some (.int v4), some (.int v5), none, none] [] M 0 (oI Q noX) := by
  unfold T_X7_nextOf_125 at h
  obtain ⟨x1, ex1⟩ : ∃ z : Int32, z = v5 + 1 := ⟨_, rfl⟩
  have h := h x1 ex1
  refine R_iinc (pc := 125) (v := x1) (L' := [some (.ref (g.1 + v0)), some (.int v1), some (.int v2), some (.int v3), some (.int v4), some (.int x1), none, none]) d_X7_nextOf_125 rfl (by rw [ex1]; rfl) (by decide) rfl ?_
  refine R_goto (pc := 128) (tgt := 6) d_X7_nextOf_128 (by decide) ?_
  exact WP_sub (hκ6 v0 v1 v2 v3 v4 x1 M h) (by decide) (ls_s (ls_s (ls_s (ls_s (ls_s (ls_s (ls_n (ls_n ls_0))))))))
def T_X7_nextOf_121 (κ6 : Nat → Int32 → Int32 → Int32 → Int32 → Int32 → Mem → Prop) (Q : Int32 → Mem → Prop) (v0 : Nat) (v1 : Int32) (v2 : Int32) (v3 : Int32) (v5 : Int32) (M : Mem) : Prop := T_X7_nextOf_125 κ6 Q v0 v1 v2 v3 v5 v5 M
set_option maxRecDepth 100000 in
set_option maxHeartbeats 4000000 in
theorem B_X7_nextOf_121 {g : GG} (Q : Int32 → Mem → Prop) (κ6 : Nat → Int32 → Int32 → Int32 → Int32 → Int32 → Mem → Prop) (hκ6 : ∀ (v0 : Nat) (v1 : Int32) (v2 : Int32) (v3 : Int32) (v4 : Int32) (v5 : Int32) (M : Mem), κ6 v0 v1 v2 v3 v4 v5 M → WP g 11 mX7_nextOf 6 [some (.ref (g.1 + v0)), some (.int v1), some (.int v2), some (.int v3), some (.int v4), some (.int v5), none, none] [] M 0 (oI Q noX)) (v0 : Nat) (v1 : Int32) (v2 : Int32) (v3 : Int32) (v5 : Int32) (M : Mem) (h : T_X7_nextOf_121 κ6 Q v0 v1 v2 v3 v5 M) : WP g 11 mX7_nextOf 121 [some (.ref (g.1 + v0)), some (.int v1), some (.int v2), some (.int v3), none, some (.int v5), none, none] [] M 0 (oI Q noX) := by
  unfold T_X7_nextOf_121 at h
  refine R_iload (pc := 121) d_X7_nextOf_121 rfl ?_
  refine R_istore (pc := 123) (L' := [some (.ref (g.1 + v0)), some (.int v1), some (.int v2), some (.int v3), some (.int v5), some (.int v5), none, none]) d_X7_nextOf_123 (by decide) rfl ?_
  exact WP_sub (B_X7_nextOf_125 Q κ6 hκ6 v0 v1 v2 v3 v5 v5 M h) (by decide) (ls_s (ls_s (ls_s (ls_s (ls_s (ls_s (ls_n (ls_n ls_0))))))))
def T_X7_nextOf_86 (κ6 : Nat → Int32 → Int32 → Int32 → Int32 → Int32 → Mem → Prop) (Q : Int32 → Mem → Prop) (v0 : Nat) (v1 : Int32) (v2 : Int32) (v3 : Int32) (v4 : Int32) (v5 : Int32) (v6 : Int32) (s0 : Int32) (M : Mem) : Prop := if s0 = 0 then (T_X7_nextOf_125 κ6 Q v0 v1 v2 v3 v4 v5 M) else (if v4 = ((-1) : Int32) then (T_X7_nextOf_121 κ6 Q v0 v1 v2 v3 v5 M) else ((kd v0 = 7) ∧ T_X7_of (fun y3 M2 => T_X7_of (fun y5 M4 => if ((4 * y3) + y5) ≤ v6 then (T_X7_nextOf_125 κ6 Q v0 v1 v2 v3 v4 v5 M4) else (T_X7_nextOf_121 κ6 Q v0 v1 v2 v3 v5 M4))  v0 v4 3 M2)  v0 v4 2 M))
set_option maxRecDepth 100000 in
set_option maxHeartbeats 4000000 in
theorem B_X7_nextOf_86 {g : GG} (Q : Int32 → Mem → Prop) (κ6 : Nat → Int32 → Int32 → Int32 → Int32 → Int32 → Mem → Prop) (hκ6 : ∀ (v0 : Nat) (v1 : Int32) (v2 : Int32) (v3 : Int32) (v4 : Int32) (v5 : Int32) (M : Mem), κ6 v0 v1 v2 v3 v4 v5 M → WP g 11 mX7_nextOf 6 [some (.ref (g.1 + v0)), some (.int v1), some (.int v2), some (.int v3), some (.int v4), some (.int v5), none, none] [] M 0 (oI Q noX)) (v0 : Nat) (v1 : Int32) (v2 : Int32) (v3 : Int32) (v4 : Int32) (v5 : Int32) (v6 : Int32) (s0 : Int32) (M : Mem) (h : T_X7_nextOf_86 κ6 Q v0 v1 v2 v3 v4 v5 v6 s0 M) : WP g 11 mX7_nextOf 86 [some (.ref (g.1 + v0)), some (.int v1), some (.int v2), some (.int v3), some (.int v4), some (.int v5), some (.int v6), none] [.int s0] M 0 (oI Q noX) := by
  unfold T_X7_nextOf_86 at h
  refine R_istore (pc := 86) (L' := [some (.ref (g.1 + v0)), some (.int v1), some (.int v2), some (.int v3), some (.int v4), some (.int v5), some (.int v6), some (.int s0)]) d_X7_nextOf_86 (by decide) rfl ?_
  refine R_iload (pc := 88) d_X7_nextOf_88 rfl ?_
  refine R_if_eq (pc := 90) (tgt := 125) d_X7_nextOf_90 (by decide) (fun c => ?_) (fun c => ?_)
  · rw [if_pos c] at h
    exact WP_sub (B_X7_nextOf_125 Q κ6 hκ6 v0 v1 v2 v3 v4 v5 M h) (by decide) (ls_s (ls_s (ls_s (ls_s (ls_s (ls_s (ls_n (ls_n ls_0))))))))
  · rw [if_neg c] at h
    refine R_iload (pc := 93) d_X7_nextOf_93 rfl ?_
    refine R_iconst (pc := 95) (v := (-1)) d_X7_nextOf_95 (by decide) ?_
    refine R_icmp_eq (pc := 96) (tgt := 121) d_X7_nextOf_96 (by decide) (fun c => ?_) (fun c => ?_)
    · rw [if_pos c] at h
      exact WP_sub (B_X7_nextOf_121 Q κ6 hκ6 v0 v1 v2 v3 v5 M h) (by decide) (ls_s (ls_s (ls_s (ls_s (ls_n (ls_s (ls_n (ls_n ls_0))))))))
    · rw [if_neg c] at h
      refine R_iload (pc := 99) d_X7_nextOf_99 rfl ?_
      refine R_iconst (pc := 101) (v := 4) d_X7_nextOf_101 (by decide) ?_
      refine R_aload_n (pc := 102) d_X7_nextOf_102 rfl rfl ?_
      refine R_iload (pc := 103) d_X7_nextOf_103 rfl ?_
      refine R_iconst (pc := 105) (v := 2) d_X7_nextOf_105 (by decide) ?_
      obtain ⟨k1, h⟩ := h
      refine R_callV (pc := 106) (As := [.int v4, .int 2]) (rest := [.int 4, .int v6]) (c_X7_of (g := g) v0 v4 2 M _ h) rfl rfl cal_RX7_45 ins_X7_of sel_X7_of (cls_at k1 clsOK7) (by decide) (by decide) rfl rfl (Nat.le_of_ble_eq_true rfl) d_X7_nextOf_106 (k_I (fun y3 M2 h => ?_)) (fun _ _ h9 => False.elim h9)
      try dsimp only at h
      refine R_imul (pc := 109) d_X7_nextOf_109 ?_
      refine R_aload_n (pc := 110) d_X7_nextOf_110 rfl rfl ?_
      refine R_iload (pc := 111) d_X7_nextOf_111 rfl ?_
      refine R_iconst (pc := 113) (v := 3) d_X7_nextOf_113 (by decide) ?_
      refine R_callV (pc := 114) (As := [.int v4, .int 3]) (rest := [.int (4 * y3), .int v6]) (c_X7_of (g := g) v0 v4 3 M2 _ h) rfl rfl cal_RX7_45 ins_X7_of sel_X7_of (cls_at k1 clsOK7) (by decide) (by decide) rfl rfl (Nat.le_of_ble_eq_true rfl) d_X7_nextOf_114 (k_I (fun y5 M4 h => ?_)) (fun _ _ h9 => False.elim h9)
      try dsimp only at h
      refine R_iadd (pc := 117) d_X7_nextOf_117 ?_
      refine R_icmp_ge (pc := 118) (tgt := 125) d_X7_nextOf_118 (by decide) (fun c => ?_) (fun c => ?_)
      · rw [if_pos c] at h
        exact WP_sub (B_X7_nextOf_125 Q κ6 hκ6 v0 v1 v2 v3 v4 v5 M4 h) (by decide) (ls_s (ls_s (ls_s (ls_s (ls_s (ls_s (ls_n (ls_n ls_0))))))))
      · rw [if_neg c] at h
        exact WP_sub (B_X7_nextOf_121 Q κ6 hκ6 v0 v1 v2 v3 v5 M4 h) (by decide) (ls_s (ls_s (ls_s (ls_s (ls_n (ls_s (ls_n (ls_n ls_0))))))))
def T_X7_nextOf_85 (κ6 : Nat → Int32 → Int32 → Int32 → Int32 → Int32 → Mem → Prop) (Q : Int32 → Mem → Prop) (v0 : Nat) (v1 : Int32) (v2 : Int32) (v3 : Int32) (v4 : Int32) (v5 : Int32) (v6 : Int32) (M : Mem) : Prop := T_X7_nextOf_86 κ6 Q v0 v1 v2 v3 v4 v5 v6 0 M
set_option maxRecDepth 100000 in
set_option maxHeartbeats 4000000 in
theorem B_X7_nextOf_85 {g : GG} (Q : Int32 → Mem → Prop) (κ6 : Nat → Int32 → Int32 → Int32 → Int32 → Int32 → Mem → Prop) (hκ6 : ∀ (v0 : Nat) (v1 : Int32) (v2 : Int32) (v3 : Int32) (v4 : Int32) (v5 : Int32) (M : Mem), κ6 v0 v1 v2 v3 v4 v5 M → WP g 11 mX7_nextOf 6 [some (.ref (g.1 + v0)), some (.int v1), some (.int v2), some (.int v3), some (.int v4), some (.int v5), none, none] [] M 0 (oI Q noX)) (v0 : Nat) (v1 : Int32) (v2 : Int32) (v3 : Int32) (v4 : Int32) (v5 : Int32) (v6 : Int32) (M : Mem) (h : T_X7_nextOf_85 κ6 Q v0 v1 v2 v3 v4 v5 v6 M) : WP g 11 mX7_nextOf 85 [some (.ref (g.1 + v0)), some (.int v1), some (.int v2), some (.int v3), some (.int v4), some (.int v5), some (.int v6), none] [] M 0 (oI Q noX) := by
  unfold T_X7_nextOf_85 at h
  refine R_iconst (pc := 85) (v := 0) d_X7_nextOf_85 (by decide) ?_
  exact WP_sub (B_X7_nextOf_86 Q κ6 hκ6 v0 v1 v2 v3 v4 v5 v6 0 M h) (by decide) (ls_s (ls_s (ls_s (ls_s (ls_s (ls_s (ls_s (ls_n ls_0))))))))
def T_X7_nextOf_81 (κ6 : Nat → Int32 → Int32 → Int32 → Int32 → Int32 → Mem → Prop) (Q : Int32 → Mem → Prop) (v0 : Nat) (v1 : Int32) (v2 : Int32) (v3 : Int32) (v4 : Int32) (v5 : Int32) (v6 : Int32) (M : Mem) : Prop := T_X7_nextOf_86 κ6 Q v0 v1 v2 v3 v4 v5 v6 1 M
set_option maxRecDepth 100000 in
set_option maxHeartbeats 4000000 in
theorem B_X7_nextOf_81 {g : GG} (Q : Int32 → Mem → Prop) (κ6 : Nat → Int32 → Int32 → Int32 → Int32 → Int32 → Mem → Prop) (hκ6 : ∀ (v0 : Nat) (v1 : Int32) (v2 : Int32) (v3 : Int32) (v4 : Int32) (v5 : Int32) (M : Mem), κ6 v0 v1 v2 v3 v4 v5 M → WP g 11 mX7_nextOf 6 [some (.ref (g.1 + v0)), some (.int v1), some (.int v2), some (.int v3), some (.int v4), some (.int v5), none, none] [] M 0 (oI Q noX)) (v0 : Nat) (v1 : Int32) (v2 : Int32) (v3 : Int32) (v4 : Int32) (v5 : Int32) (v6 : Int32) (M : Mem) (h : T_X7_nextOf_81 κ6 Q v0 v1 v2 v3 v4 v5 v6 M) : WP g 11 mX7_nextOf 81 [some (.ref (g.1 + v0)), some (.int v1), some (.int v2), some (.int v3), some (.int v4), some (.int v5), some (.int v6), none] [] M 0 (oI Q noX) := by
  unfold T_X7_nextOf_81 at h
  refine R_iconst (pc := 81) (v := 1) d_X7_nextOf_81 (by decide) ?_
  refine R_goto (pc := 82) (tgt := 86) d_X7_nextOf_82 (by decide) ?_
  exact WP_sub (B_X7_nextOf_86 Q κ6 hκ6 v0 v1 v2 v3 v4 v5 v6 1 M h) (by decide) (ls_s (ls_s (ls_s (ls_s (ls_s (ls_s (ls_s (ls_n ls_0))))))))
def T_X7_nextOf_6 (Q : Int32 → Mem → Prop) : Nat → Nat → Int32 → Int32 → Int32 → Int32 → Int32 → Mem → Prop
  | 0, _, _, _, _, _, _, _ => False
  | n + 1, v0, v1, v2, v3, v4, v5, M => (kd v0 = 7) ∧ (kd (rf v0 1) = 9) ∧ (vp_in 4 (ln (rf v0 1))) ∧ if (M.1 (rf v0 1) (Int32.toNatClampNeg 4)) ≤ v5 then (Q v4 M) else (T_X7_of (fun y5 M4 => T_X7_of (fun y7 M6 => ∀ x8 : Int32, x8 = (4 * y5) + y7 → T_X7_isBooked (fun y10 M9 => if y10 = 0 then (T_X7_nextOf_85 (T_X7_nextOf_6 Q n) Q v0 v1 v2 v3 v4 v5 x8 M9) else (if x8 ≤ v3 then (T_X7_nextOf_85 (T_X7_nextOf_6 Q n) Q v0 v1 v2 v3 v4 v5 x8 M9) else (if v1 = ((-1) : Int32) then (T_X7_of (fun y14 M13 => if y14 = v2 then (T_X7_nextOf_81 (T_X7_nextOf_6 Q n) Q v0 v1 v2 v3 v4 v5 x8 M13) else (T_X7_nextOf_85 (T_X7_nextOf_6 Q n) Q v0 v1 v2 v3 v4 v5 x8 M13))  v0 v5 4 M9) else (T_X7_of (fun y12 M11 => if y12 = v1 then (T_X7_nextOf_81 (T_X7_nextOf_6 Q n) Q v0 v1 v2 v3 v4 v5 x8 M11) else (T_X7_nextOf_85 (T_X7_nextOf_6 Q n) Q v0 v1 v2 v3 v4 v5 x8 M11))  v0 v5 0 M9))))  v0 v5 M6)  v0 v5 3 M4)  v0 v5 2 M)
set_option maxRecDepth 100000 in
set_option maxHeartbeats 4000000 in
theorem B_X7_nextOf_6 {g : GG} (Q : Int32 → Mem → Prop) : ∀ (n : Nat) (v0 : Nat) (v1 : Int32) (v2 : Int32) (v3 : Int32) (v4 : Int32) (v5 : Int32) (M : Mem), T_X7_nextOf_6 Q n v0 v1 v2 v3 v4 v5 M → WP g 11 mX7_nextOf 6 [some (.ref (g.1 + v0)), some (.int v1), some (.int v2), some (.int v3), some (.int v4), some (.int v5), none, none] [] M 0 (oI Q noX) := by
  intro n
  induction n with
  | zero => intro v0 v1 v2 v3 v4 v5 M h; exact h.elim
  | succ n hκ6 =>
    intro v0 v1 v2 v3 v4 v5 M h
    unfold T_X7_nextOf_6 at h
    refine R_iload (pc := 6) d_X7_nextOf_6 rfl ?_
    refine R_aload_n (pc := 8) d_X7_nextOf_8 rfl rfl ?_
    obtain ⟨k1, h⟩ := h
    refine R_getR (pc := 9) fld_RX7_7 rfl rfl k1 d_X7_nextOf_9 ?_
    refine R_iconst (pc := 12) (v := 4) d_X7_nextOf_12 (by decide) ?_
    obtain ⟨k2, h⟩ := h
    obtain ⟨k3, h⟩ := h
    refine R_iald (pc := 13) k2 k3 d_X7_nextOf_13 ?_
    refine R_icmp_ge (pc := 14) (tgt := 131) d_X7_nextOf_14 (by decide) (fun c => ?_) (fun c => ?_)
    · rw [if_pos c] at h
      refine R_iload (pc := 131) d_X7_nextOf_131 rfl ?_
      exact R_retv (pc := 133) d_X7_nextOf_133 h
    · rw [if_neg c] at h
      refine R_iconst (pc := 17) (v := 4) d_X7_nextOf_17 (by decide) ?_
      refine R_aload_n (pc := 18) d_X7_nextOf_18 rfl rfl ?_
      refine R_iload (pc := 19) d_X7_nextOf_19 rfl ?_
      refine R_iconst (pc := 21) (v := 2) d_X7_nextOf_21 (by decide) ?_
      refine R_callV (pc := 22) (As := [.int v5, .int 2]) (rest := [.int 4]) (c_X7_of (g := g) v0 v5 2 M _ h) rfl rfl cal_RX7_45 ins_X7_of sel_X7_of (cls_at k1 clsOK7) (by decide) (by decide) rfl rfl (Nat.le_of_ble_eq_true rfl) d_X7_nextOf_22 (k_I (fun y5 M4 h => ?_)) (fun _ _ h9 => False.elim h9)
      try dsimp only at h
      refine R_imul (pc := 25) d_X7_nextOf_25 ?_
      refine R_aload_n (pc := 26) d_X7_nextOf_26 rfl rfl ?_
      refine R_iload (pc := 27) d_X7_nextOf_27 rfl ?_
      refine R_iconst (pc := 29) (v := 3) d_X7_nextOf_29 (by decide) ?_
      refine R_callV (pc := 30) (As := [.int v5, .int 3]) (rest := [.int (4 * y5)]) (c_X7_of (g := g) v0 v5 3 M4 _ h) rfl rfl cal_RX7_45 ins_X7_of sel_X7_of (cls_at k1 clsOK7) (by decide) (by decide) rfl rfl (Nat.le_of_ble_eq_true rfl) d_X7_nextOf_30 (k_I (fun y7 M6 h => ?_)) (fun _ _ h9 => False.elim h9)
      try dsimp only at h
      refine R_iadd (pc := 33) d_X7_nextOf_33 ?_
      refine N_i (fun x8 ex8 => ?_)
      have h := h x8 ex8
      refine R_istore (pc := 34) (L' := [some (.ref (g.1 + v0)), some (.int v1), some (.int v2), some (.int v3), some (.int v4), some (.int v5), some (.int x8), none]) d_X7_nextOf_34 (by decide) rfl ?_
      refine R_aload_n (pc := 36) d_X7_nextOf_36 rfl rfl ?_
      refine R_iload (pc := 37) d_X7_nextOf_37 rfl ?_
      refine R_callV (pc := 39) (As := [.int v5]) (rest := []) (c_X7_isBooked (g := g) v0 v5 M6 _ h) rfl rfl cal_RX7_49 ins_X7_isBooked sel_X7_isBooked (cls_at k1 clsOK7) (by decide) (by decide) rfl rfl (Nat.le_of_ble_eq_true rfl) d_X7_nextOf_39 (k_Z (fun y10 M9 h => ?_)) (fun _ _ h9 => False.elim h9)
      try dsimp only at h
      refine R_if_eq (pc := 42) (tgt := 85) d_X7_nextOf_42 (by decide) (fun c => ?_) (fun c => ?_)
      · rw [if_pos c] at h
        exact WP_sub (B_X7_nextOf_85 Q (T_X7_nextOf_6 Q n) hκ6 v0 v1 v2 v3 v4 v5 x8 M9 h) (by decide) (ls_s (ls_s (ls_s (ls_s (ls_s (ls_s (ls_s (ls_n ls_0))))))))
      · rw [if_neg c] at h
        refine R_iload (pc := 45) d_X7_nextOf_45 rfl ?_
        refine R_iload_n (pc := 47) d_X7_nextOf_47 rfl rfl ?_
        refine R_icmp_le (pc := 48) (tgt := 85) d_X7_nextOf_48 (by decide) (fun c => ?_) (fun c => ?_)
        · rw [if_pos c] at h
          exact WP_sub (B_X7_nextOf_85 Q (T_X7_nextOf_6 Q n) hκ6 v0 v1 v2 v3 v4 v5 x8 M9 h) (by decide) (ls_s (ls_s (ls_s (ls_s (ls_s (ls_s (ls_s (ls_n ls_0))))))))
        · rw [if_neg c] at h
          refine R_iload_n (pc := 51) d_X7_nextOf_51 rfl rfl ?_
          refine R_iconst (pc := 52) (v := (-1)) d_X7_nextOf_52 (by decide) ?_
          refine R_icmp_ne (pc := 53) (tgt := 70) d_X7_nextOf_53 (by decide) (fun c => ?_) (fun c => ?_)
          · rw [if_neg c] at h
            refine R_aload_n (pc := 70) d_X7_nextOf_70 rfl rfl ?_
            refine R_iload (pc := 71) d_X7_nextOf_71 rfl ?_
            refine R_iconst (pc := 73) (v := 0) d_X7_nextOf_73 (by decide) ?_
            refine R_callV (pc := 74) (As := [.int v5, .int 0]) (rest := []) (c_X7_of (g := g) v0 v5 0 M9 _ h) rfl rfl cal_RX7_45 ins_X7_of sel_X7_of (cls_at k1 clsOK7) (by decide) (by decide) rfl rfl (Nat.le_of_ble_eq_true rfl) d_X7_nextOf_74 (k_I (fun y12 M11 h => ?_)) (fun _ _ h9 => False.elim h9)
            try dsimp only at h
            refine R_iload_n (pc := 77) d_X7_nextOf_77 rfl rfl ?_
            refine R_icmp_ne (pc := 78) (tgt := 85) d_X7_nextOf_78 (by decide) (fun c => ?_) (fun c => ?_)
            · rw [if_neg c] at h
              exact WP_sub (B_X7_nextOf_85 Q (T_X7_nextOf_6 Q n) hκ6 v0 v1 v2 v3 v4 v5 x8 M11 h) (by decide) (ls_s (ls_s (ls_s (ls_s (ls_s (ls_s (ls_s (ls_n ls_0))))))))
            · rw [if_pos c] at h
              exact WP_sub (B_X7_nextOf_81 Q (T_X7_nextOf_6 Q n) hκ6 v0 v1 v2 v3 v4 v5 x8 M11 h) (by decide) (ls_s (ls_s (ls_s (ls_s (ls_s (ls_s (ls_s (ls_n ls_0))))))))
          · rw [if_pos c] at h
            refine R_aload_n (pc := 56) d_X7_nextOf_56 rfl rfl ?_
            refine R_iload (pc := 57) d_X7_nextOf_57 rfl ?_
            refine R_iconst (pc := 59) (v := 4) d_X7_nextOf_59 (by decide) ?_
            refine R_callV (pc := 60) (As := [.int v5, .int 4]) (rest := []) (c_X7_of (g := g) v0 v5 4 M9 _ h) rfl rfl cal_RX7_45 ins_X7_of sel_X7_of (cls_at k1 clsOK7) (by decide) (by decide) rfl rfl (Nat.le_of_ble_eq_true rfl) d_X7_nextOf_60 (k_I (fun y14 M13 h => ?_)) (fun _ _ h9 => False.elim h9)
            try dsimp only at h
            refine R_iload_n (pc := 63) d_X7_nextOf_63 rfl rfl ?_
            refine R_icmp_ne (pc := 64) (tgt := 85) d_X7_nextOf_64 (by decide) (fun c => ?_) (fun c => ?_)
            · rw [if_neg c] at h
              exact WP_sub (B_X7_nextOf_85 Q (T_X7_nextOf_6 Q n) hκ6 v0 v1 v2 v3 v4 v5 x8 M13 h) (by decide) (ls_s (ls_s (ls_s (ls_s (ls_s (ls_s (ls_s (ls_n ls_0))))))))
            · rw [if_pos c] at h
              refine R_goto (pc := 67) (tgt := 81) d_X7_nextOf_67 (by decide) ?_
              exact WP_sub (B_X7_nextOf_81 Q (T_X7_nextOf_6 Q n) hκ6 v0 v1 v2 v3 v4 v5 x8 M13 h) (by decide) (ls_s (ls_s (ls_s (ls_s (ls_s (ls_s (ls_s (ls_n ls_0))))))))
def T_X7_nextOf (Q : Int32 → Mem → Prop) (v0 : Nat) (v1 : Int32) (v2 : Int32) (v3 : Int32) (M : Mem) : Prop := (∃ N : Nat, T_X7_nextOf_6 Q N v0 v1 v2 v3 (-1) 0 M)
set_option maxRecDepth 100000 in
set_option maxHeartbeats 4000000 in
theorem c_X7_nextOf {g : GG} (v0 : Nat) (v1 : Int32) (v2 : Int32) (v3 : Int32) (M : Mem) (Q : Int32 → Mem → Prop) (h : T_X7_nextOf Q v0 v1 v2 v3 M) : CT g 11 mX7_nextOf [.ref (g.1 + v0), .int v1, .int v2, .int v3] M 0 (oI Q noX) := by
  refine CT_of (L := [some (.ref (g.1 + v0)), some (.int v1), some (.int v2), some (.int v3), none, none, none, none]) (by decide) rfl (Nat.le_of_ble_eq_true rfl) (ro_I rfl) rfl ?_
  unfold T_X7_nextOf at h
  refine R_iconst (pc := 0) (v := (-1)) d_X7_nextOf_0 (by decide) ?_
  refine R_istore (pc := 1) (L' := [some (.ref (g.1 + v0)), some (.int v1), some (.int v2), some (.int v3), some (.int (-1)), none, none, none]) d_X7_nextOf_1 (by decide) rfl ?_
  refine R_iconst (pc := 3) (v := 0) d_X7_nextOf_3 (by decide) ?_
  refine R_istore (pc := 4) (L' := [some (.ref (g.1 + v0)), some (.int v1), some (.int v2), some (.int v3), some (.int (-1)), some (.int 0), none, none]) d_X7_nextOf_4 (by decide) rfl ?_
  obtain ⟨N, h⟩ := h
  exact WP_sub (B_X7_nextOf_6 Q N v0 v1 v2 v3 (-1) 0 M h) (by decide) (ls_s (ls_s (ls_s (ls_s (ls_s (ls_s (ls_n (ls_n ls_0))))))))
/-! X7_rehouses -/
theorem d_X7_rehouses_0 : decode mX7_rehouses.2.1 0 = .ok (.aload_n 0, 1) := by decide +kernel
theorem d_X7_rehouses_1 : decode mX7_rehouses.2.1 1 = .ok (.iload_n 1, 1) := by decide +kernel
theorem d_X7_rehouses_2 : decode mX7_rehouses.2.1 2 = .ok (.iload_n 2, 1) := by decide +kernel
theorem d_X7_rehouses_3 : decode mX7_rehouses.2.1 3 = .ok (.iconst (-1), 1) := by decide +kernel
theorem d_X7_rehouses_4 : decode mX7_rehouses.2.1 4 = .ok (.invokevirtual 154, 3) := by decide +kernel
theorem d_X7_rehouses_7 : decode mX7_rehouses.2.1 7 = .ok (.istore_n 3, 1) := by decide +kernel
theorem d_X7_rehouses_8 : decode mX7_rehouses.2.1 8 = .ok (.iload_n 3, 1) := by decide +kernel
theorem d_X7_rehouses_9 : decode mX7_rehouses.2.1 9 = .ok (.iconst (-1), 1) := by decide +kernel
theorem d_X7_rehouses_10 : decode mX7_rehouses.2.1 10 = .ok (.if_icmp .eq 120, 3) := by decide +kernel
theorem d_X7_rehouses_13 : decode mX7_rehouses.2.1 13 = .ok (.aload_n 0, 1) := by decide +kernel
theorem d_X7_rehouses_14 : decode mX7_rehouses.2.1 14 = .ok (.iload_n 3, 1) := by decide +kernel
theorem d_X7_rehouses_15 : decode mX7_rehouses.2.1 15 = .ok (.iconst 3, 1) := by decide +kernel
theorem d_X7_rehouses_16 : decode mX7_rehouses.2.1 16 = .ok (.invokevirtual 133, 3) := by decide +kernel
theorem d_X7_rehouses_19 : decode mX7_rehouses.2.1 19 = .ok (.aload_n 0, 1) := by decide +kernel
theorem d_X7_rehouses_20 : decode mX7_rehouses.2.1 20 = .ok (.aload_n 0, 1) := by decide +kernel
theorem d_X7_rehouses_21 : decode mX7_rehouses.2.1 21 = .ok (.iload_n 3, 1) := by decide +kernel
theorem d_X7_rehouses_22 : decode mX7_rehouses.2.1 22 = .ok (.iconst 0, 1) := by decide +kernel
theorem d_X7_rehouses_23 : decode mX7_rehouses.2.1 23 = .ok (.invokevirtual 45, 3) := by decide +kernel
theorem d_X7_rehouses_26 : decode mX7_rehouses.2.1 26 = .ok (.aload_n 0, 1) := by decide +kernel
theorem d_X7_rehouses_27 : decode mX7_rehouses.2.1 27 = .ok (.iload_n 3, 1) := by decide +kernel
theorem d_X7_rehouses_28 : decode mX7_rehouses.2.1 28 = .ok (.iconst 1, 1) := by decide +kernel
theorem d_X7_rehouses_29 : decode mX7_rehouses.2.1 29 = .ok (.invokevirtual 45, 3) := by decide +kernel
theorem d_X7_rehouses_32 : decode mX7_rehouses.2.1 32 = .ok (.invokestatic 72, 3) := by decide +kernel
theorem d_X7_rehouses_35 : decode mX7_rehouses.2.1 35 = .ok (.aload_n 0, 1) := by decide +kernel
theorem d_X7_rehouses_36 : decode mX7_rehouses.2.1 36 = .ok (.iload_n 3, 1) := by decide +kernel
theorem d_X7_rehouses_37 : decode mX7_rehouses.2.1 37 = .ok (.iconst 2, 1) := by decide +kernel
theorem d_X7_rehouses_38 : decode mX7_rehouses.2.1 38 = .ok (.invokevirtual 45, 3) := by decide +kernel
theorem d_X7_rehouses_41 : decode mX7_rehouses.2.1 41 = .ok (.aload_n 0, 1) := by decide +kernel
theorem d_X7_rehouses_42 : decode mX7_rehouses.2.1 42 = .ok (.iload_n 3, 1) := by decide +kernel
theorem d_X7_rehouses_43 : decode mX7_rehouses.2.1 43 = .ok (.iconst 3, 1) := by decide +kernel
theorem d_X7_rehouses_44 : decode mX7_rehouses.2.1 44 = .ok (.invokevirtual 45, 3) := by decide +kernel
theorem d_X7_rehouses_47 : decode mX7_rehouses.2.1 47 = .ok (.invokevirtual 123, 3) := by decide +kernel
theorem d_X7_rehouses_50 : decode mX7_rehouses.2.1 50 = .ok (.istore 4, 2) := by decide +kernel
theorem d_X7_rehouses_52 : decode mX7_rehouses.2.1 52 = .ok (.aload_n 0, 1) := by decide +kernel
theorem d_X7_rehouses_53 : decode mX7_rehouses.2.1 53 = .ok (.iload_n 3, 1) := by decide +kernel
theorem d_X7_rehouses_54 : decode mX7_rehouses.2.1 54 = .ok (.iconst 0, 1) := by decide +kernel
theorem d_X7_rehouses_55 : decode mX7_rehouses.2.1 55 = .ok (.invokevirtual 133, 3) := by decide +kernel
theorem d_X7_rehouses_58 : decode mX7_rehouses.2.1 58 = .ok (.iload 4, 2) := by decide +kernel
theorem d_X7_rehouses_60 : decode mX7_rehouses.2.1 60 = .ok (.ifCond .ge 12, 3) := by decide +kernel
theorem d_X7_rehouses_63 : decode mX7_rehouses.2.1 63 = .ok (.aload_n 0, 1) := by decide +kernel
theorem d_X7_rehouses_64 : decode mX7_rehouses.2.1 64 = .ok (.iload_n 3, 1) := by decide +kernel
theorem d_X7_rehouses_65 : decode mX7_rehouses.2.1 65 = .ok (.iconst 2, 1) := by decide +kernel
theorem d_X7_rehouses_66 : decode mX7_rehouses.2.1 66 = .ok (.invokevirtual 157, 3) := by decide +kernel
theorem d_X7_rehouses_69 : decode mX7_rehouses.2.1 69 = .ok (.goto 36, 3) := by decide +kernel
theorem d_X7_rehouses_72 : decode mX7_rehouses.2.1 72 = .ok (.iload 4, 2) := by decide +kernel
theorem d_X7_rehouses_74 : decode mX7_rehouses.2.1 74 = .ok (.aload_n 0, 1) := by decide +kernel
theorem d_X7_rehouses_75 : decode mX7_rehouses.2.1 75 = .ok (.iload_n 3, 1) := by decide +kernel
theorem d_X7_rehouses_76 : decode mX7_rehouses.2.1 76 = .ok (.iconst 4, 1) := by decide +kernel
theorem d_X7_rehouses_77 : decode mX7_rehouses.2.1 77 = .ok (.invokevirtual 45, 3) := by decide +kernel
theorem d_X7_rehouses_80 : decode mX7_rehouses.2.1 80 = .ok (.if_icmp .eq 25, 3) := by decide +kernel
theorem d_X7_rehouses_83 : decode mX7_rehouses.2.1 83 = .ok (.aload_n 0, 1) := by decide +kernel
theorem d_X7_rehouses_84 : decode mX7_rehouses.2.1 84 = .ok (.getfield 7, 3) := by decide +kernel
theorem d_X7_rehouses_87 : decode mX7_rehouses.2.1 87 = .ok (.bipush 78, 2) := by decide +kernel
theorem d_X7_rehouses_89 : decode mX7_rehouses.2.1 89 = .ok (.bipush 6, 2) := by decide +kernel
theorem d_X7_rehouses_91 : decode mX7_rehouses.2.1 91 = .ok (.iload_n 3, 1) := by decide +kernel
theorem d_X7_rehouses_92 : decode mX7_rehouses.2.1 92 = .ok (.imul, 1) := by decide +kernel
theorem d_X7_rehouses_93 : decode mX7_rehouses.2.1 93 = .ok (.iadd, 1) := by decide +kernel
theorem d_X7_rehouses_94 : decode mX7_rehouses.2.1 94 = .ok (.iconst 4, 1) := by decide +kernel
theorem d_X7_rehouses_95 : decode mX7_rehouses.2.1 95 = .ok (.iadd, 1) := by decide +kernel
theorem d_X7_rehouses_96 : decode mX7_rehouses.2.1 96 = .ok (.iload 4, 2) := by decide +kernel
theorem d_X7_rehouses_98 : decode mX7_rehouses.2.1 98 = .ok (.iastore, 1) := by decide +kernel
theorem d_X7_rehouses_99 : decode mX7_rehouses.2.1 99 = .ok (.aload_n 0, 1) := by decide +kernel
theorem d_X7_rehouses_100 : decode mX7_rehouses.2.1 100 = .ok (.iload_n 3, 1) := by decide +kernel
theorem d_X7_rehouses_101 : decode mX7_rehouses.2.1 101 = .ok (.iconst 0, 1) := by decide +kernel
theorem d_X7_rehouses_102 : decode mX7_rehouses.2.1 102 = .ok (.invokevirtual 137, 3) := by decide +kernel
theorem d_X7_rehouses_105 : decode mX7_rehouses.2.1 105 = .ok (.aload_n 0, 1) := by decide +kernel
theorem d_X7_rehouses_106 : decode mX7_rehouses.2.1 106 = .ok (.iload_n 1, 1) := by decide +kernel
theorem d_X7_rehouses_107 : decode mX7_rehouses.2.1 107 = .ok (.iload_n 2, 1) := by decide +kernel
theorem d_X7_rehouses_108 : decode mX7_rehouses.2.1 108 = .ok (.iconst 4, 1) := by decide +kernel
theorem d_X7_rehouses_109 : decode mX7_rehouses.2.1 109 = .ok (.aload_n 0, 1) := by decide +kernel
theorem d_X7_rehouses_110 : decode mX7_rehouses.2.1 110 = .ok (.iload_n 3, 1) := by decide +kernel
theorem d_X7_rehouses_111 : decode mX7_rehouses.2.1 111 = .ok (.iconst 2, 1) := by decide +kernel
theorem d_X7_rehouses_112 : decode mX7_rehouses.2.1 112 = .ok (.invokevirtual 45, 3) := by decide +kernel
theorem d_X7_rehouses_115 : decode mX7_rehouses.2.1 115 = .ok (.imul, 1) := by decide +kernel
theorem d_X7_rehouses_116 : decode mX7_rehouses.2.1 116 = .ok (.aload_n 0, 1) := by decide +kernel
theorem d_X7_rehouses_117 : decode mX7_rehouses.2.1 117 = .ok (.iload_n 3, 1) := by decide +kernel
theorem d_X7_rehouses_118 : decode mX7_rehouses.2.1 118 = .ok (.iconst 3, 1) := by decide +kernel
theorem d_X7_rehouses_119 : decode mX7_rehouses.2.1 119 = .ok (.invokevirtual 45, 3) := by decide +kernel
theorem d_X7_rehouses_122 : decode mX7_rehouses.2.1 122 = .ok (.iadd, 1) := by decide +kernel
theorem d_X7_rehouses_123 : decode mX7_rehouses.2.1 123 = .ok (.invokevirtual 154, 3) := by decide +kernel
theorem d_X7_rehouses_126 : decode mX7_rehouses.2.1 126 = .ok (.istore_n 3, 1) := by decide +kernel
theorem d_X7_rehouses_127 : decode mX7_rehouses.2.1 127 = .ok (.goto (-119), 3) := by decide +kernel
theorem d_X7_rehouses_130 : decode mX7_rehouses.2.1 130 = .ok (.return_, 1) := by decide +kernel
def T_X7_rehouses_105 (κ8 : Nat → Int32 → Int32 → Int32 → Mem → Prop) (Q : Mem → Prop) (v0 : Nat) (v1 : Int32) (v2 : Int32) (v3 : Int32) (M : Mem) : Prop := (kd v0 = 7) ∧ T_X7_of (fun y3 M2 => T_X7_of (fun y5 M4 => T_X7_nextOf (fun y7 M6 => κ8 v0 v1 v2 y7 M6)  v0 v1 v2 ((4 * y3) + y5) M4)  v0 v3 3 M2)  v0 v3 2 M
set_option maxRecDepth 100000 in
set_option maxHeartbeats 4000000 in
theorem B_X7_rehouses_105 {g : GG} (Q : Mem → Prop) (κ8 : Nat → Int32 → Int32 → Int32 → Mem → Prop) (hκ8 : ∀ (v0 : Nat) (v1 : Int32) (v2 : Int32) (v3 : Int32) (M : Mem), κ8 v0 v1 v2 v3 M → WP g 15 mX7_rehouses 8 [some (.ref (g.1 + v0)), some (.int v1), some (.int v2), some (.int v3), none] [] M 0 (oV Q noX)) (v0 : Nat) (v1 : Int32) (v2 : Int32) (v3 : Int32) (M : Mem) (h : T_X7_rehouses_105 κ8 Q v0 v1 v2 v3 M) : WP g 15 mX7_rehouses 105 [some (.ref (g.1 + v0)), some (.int v1), some (.int v2), some (.int v3), none] [] M 0 (oV Q noX) := by
  unfold T_X7_rehouses_105 at h
  refine R_aload_n (pc := 105) d_X7_rehouses_105 rfl rfl ?_
  refine R_iload_n (pc := 106) d_X7_rehouses_106 rfl rfl ?_
  refine R_iload_n (pc := 107) d_X7_rehouses_107 rfl rfl ?_
  refine R_iconst (pc := 108) (v := 4) d_X7_rehouses_108 (by decide) ?_
  refine R_aload_n (pc := 109) d_X7_rehouses_109 rfl rfl ?_
  refine R_iload_n (pc := 110) d_X7_rehouses_110 rfl rfl ?_
  refine R_iconst (pc := 111) (v := 2) d_X7_rehouses_111 (by decide) ?_
  obtain ⟨k1, h⟩ := h
  refine R_callV (pc := 112) (As := [.int v3, .int 2]) (rest := [.int 4, .int v2, .int v1, .ref (g.1 + v0)]) (c_X7_of (g := g) v0 v3 2 M _ h) rfl rfl cal_RX7_45 ins_X7_of sel_X7_of (cls_at k1 clsOK7) (by decide) (by decide) rfl rfl (Nat.le_of_ble_eq_true rfl) d_X7_rehouses_112 (k_I (fun y3 M2 h => ?_)) (fun _ _ h9 => False.elim h9)
  try dsimp only at h
  refine R_imul (pc := 115) d_X7_rehouses_115 ?_
  refine R_aload_n (pc := 116) d_X7_rehouses_116 rfl rfl ?_
  refine R_iload_n (pc := 117) d_X7_rehouses_117 rfl rfl ?_
  refine R_iconst (pc := 118) (v := 3) d_X7_rehouses_118 (by decide) ?_
  refine R_callV (pc := 119) (As := [.int v3, .int 3]) (rest := [.int (4 * y3), .int v2, .int v1, .ref (g.1 + v0)]) (c_X7_of (g := g) v0 v3 3 M2 _ h) rfl rfl cal_RX7_45 ins_X7_of sel_X7_of (cls_at k1 clsOK7) (by decide) (by decide) rfl rfl (Nat.le_of_ble_eq_true rfl) d_X7_rehouses_119 (k_I (fun y5 M4 h => ?_)) (fun _ _ h9 => False.elim h9)
  try dsimp only at h
  refine R_iadd (pc := 122) d_X7_rehouses_122 ?_
  refine R_callV (pc := 123) (As := [.int v1, .int v2, .int ((4 * y3) + y5)]) (rest := []) (c_X7_nextOf (g := g) v0 v1 v2 ((4 * y3) + y5) M4 _ h) rfl rfl cal_RX7_154 ins_X7_nextOf sel_X7_nextOf (cls_at k1 clsOK7) (by decide) (by decide) rfl rfl (Nat.le_of_ble_eq_true rfl) d_X7_rehouses_123 (k_I (fun y7 M6 h => ?_)) (fun _ _ h9 => False.elim h9)
  try dsimp only at h
  refine R_istore_n (pc := 126) (L' := [some (.ref (g.1 + v0)), some (.int v1), some (.int v2), some (.int y7), none]) d_X7_rehouses_126 rfl (by decide) rfl ?_
  refine R_goto (pc := 127) (tgt := 8) d_X7_rehouses_127 (by decide) ?_
  exact WP_sub (hκ8 v0 v1 v2 y7 M6 h) (by decide) (ls_s (ls_s (ls_s (ls_s (ls_n ls_0)))))
def T_X7_rehouses_8 (Q : Mem → Prop) : Nat → Nat → Int32 → Int32 → Int32 → Mem → Prop
  | 0, _, _, _, _, _ => False
  | n + 1, v0, v1, v2, v3, M => if v3 = ((-1) : Int32) then (Q M) else ((kd v0 = 7) ∧ T_X7_setState (fun M2 => T_X7_of (fun y4 M3 => T_X7_of (fun y6 M5 => T_X7_bits (fun y8 M7 => T_X7_of (fun y10 M9 => T_X7_of (fun y12 M11 => T_X7_roomFor (fun y14 M13 => T_X7_setState (fun M15 => if 0 ≤ y14 then (T_X7_of (fun y17 M16 => if y14 = y17 then (T_X7_rehouses_105 (T_X7_rehouses_8 Q n) Q v0 v1 v2 v3 M16) else ((kd (rf v0 1) = 9) ∧ (vp_in ((78 + (6 * v3)) + 4) (ln (rf v0 1))) ∧ ∀ M20 : Mem, M20 = mset M16 (rf v0 1) (Int32.toNatClampNeg ((78 + (6 * v3)) + 4)) y14 → T_X7_notes (fun M21 => T_X7_rehouses_105 (T_X7_rehouses_8 Q n) Q v0 v1 v2 v3 M21)  v0 v3 0 M20))  v0 v3 4 M15) else (T_X7_cancels (fun M22 => T_X7_rehouses_105 (T_X7_rehouses_8 Q n) Q v0 v1 v2 v3 M22)  v0 v3 2 M15))  v0 v3 0 M13)  v0 y4 y8 y10 y12 M11)  v0 v3 3 M9)  v0 v3 2 M7)  y6 M5)  v0 v3 1 M3)  v0 v3 0 M2)  v0 v3 3 M)
set_option maxRecDepth 100000 in
set_option maxHeartbeats 4000000 in
theorem B_X7_rehouses_8 {g : GG} (Q : Mem → Prop) : ∀ (n : Nat) (v0 : Nat) (v1 : Int32) (v2 : Int32) (v3 : Int32) (M : Mem), T_X7_rehouses_8 Q n v0 v1 v2 v3 M → WP g 15 mX7_rehouses 8 [some (.ref (g.1 + v0)), some (.int v1), some (.int v2), some (.int v3), none] [] M 0 (oV Q noX) := by
  intro n
  induction n with
  | zero => intro v0 v1 v2 v3 M h; exact h.elim
  | succ n hκ8 =>
    intro v0 v1 v2 v3 M h
    unfold T_X7_rehouses_8 at h
    refine R_iload_n (pc := 8) d_X7_rehouses_8 rfl rfl ?_
    refine R_iconst (pc := 9) (v := (-1)) d_X7_rehouses_9 (by decide) ?_
    refine R_icmp_eq (pc := 10) (tgt := 130) d_X7_rehouses_10 (by decide) (fun c => ?_) (fun c => ?_)
    · rw [if_pos c] at h
      exact R_ret (pc := 130) d_X7_rehouses_130 h
    · rw [if_neg c] at h
      refine R_aload_n (pc := 13) d_X7_rehouses_13 rfl rfl ?_
      refine R_iload_n (pc := 14) d_X7_rehouses_14 rfl rfl ?_
      refine R_iconst (pc := 15) (v := 3) d_X7_rehouses_15 (by decide) ?_
      obtain ⟨k1, h⟩ := h
      refine R_callV (pc := 16) (As := [.int v3, .int 3]) (rest := []) (c_X7_setState (g := g) v0 v3 3 M _ h) rfl rfl cal_RX7_133 ins_X7_setState sel_X7_setState (cls_at k1 clsOK7) (by decide) (by decide) rfl rfl (Nat.le_of_ble_eq_true rfl) d_X7_rehouses_16 (k_V (fun M2 h => ?_)) (fun _ _ h9 => False.elim h9)
      try dsimp only at h
      refine R_aload_n (pc := 19) d_X7_rehouses_19 rfl rfl ?_
      refine R_aload_n (pc := 20) d_X7_rehouses_20 rfl rfl ?_
      refine R_iload_n (pc := 21) d_X7_rehouses_21 rfl rfl ?_
      refine R_iconst (pc := 22) (v := 0) d_X7_rehouses_22 (by decide) ?_
      refine R_callV (pc := 23) (As := [.int v3, .int 0]) (rest := [.ref (g.1 + v0)]) (c_X7_of (g := g) v0 v3 0 M2 _ h) rfl rfl cal_RX7_45 ins_X7_of sel_X7_of (cls_at k1 clsOK7) (by decide) (by decide) rfl rfl (Nat.le_of_ble_eq_true rfl) d_X7_rehouses_23 (k_I (fun y4 M3 h => ?_)) (fun _ _ h9 => False.elim h9)
      try dsimp only at h
      refine R_aload_n (pc := 26) d_X7_rehouses_26 rfl rfl ?_
      refine R_iload_n (pc := 27) d_X7_rehouses_27 rfl rfl ?_
      refine R_iconst (pc := 28) (v := 1) d_X7_rehouses_28 (by decide) ?_
      refine R_callV (pc := 29) (As := [.int v3, .int 1]) (rest := [.int y4, .ref (g.1 + v0)]) (c_X7_of (g := g) v0 v3 1 M3 _ h) rfl rfl cal_RX7_45 ins_X7_of sel_X7_of (cls_at k1 clsOK7) (by decide) (by decide) rfl rfl (Nat.le_of_ble_eq_true rfl) d_X7_rehouses_29 (k_I (fun y6 M5 h => ?_)) (fun _ _ h9 => False.elim h9)
      try dsimp only at h
      refine R_callS (pc := 32) (As := [.int y6]) (rest := [.int y4, .ref (g.1 + v0)]) (c_X7_bits (g := g) y6 M5 _ h) rfl rfl cal_RX7_72 sta_X7_bits (by decide) (by decide) rfl rfl (Nat.le_of_ble_eq_true rfl) d_X7_rehouses_32 (k_I (fun y8 M7 h => ?_)) (fun _ _ h9 => False.elim h9)
      try dsimp only at h
      refine R_aload_n (pc := 35) d_X7_rehouses_35 rfl rfl ?_
      refine R_iload_n (pc := 36) d_X7_rehouses_36 rfl rfl ?_
      refine R_iconst (pc := 37) (v := 2) d_X7_rehouses_37 (by decide) ?_
      refine R_callV (pc := 38) (As := [.int v3, .int 2]) (rest := [.int y8, .int y4, .ref (g.1 + v0)]) (c_X7_of (g := g) v0 v3 2 M7 _ h) rfl rfl cal_RX7_45 ins_X7_of sel_X7_of (cls_at k1 clsOK7) (by decide) (by decide) rfl rfl (Nat.le_of_ble_eq_true rfl) d_X7_rehouses_38 (k_I (fun y10 M9 h => ?_)) (fun _ _ h9 => False.elim h9)
      try dsimp only at h
      refine R_aload_n (pc := 41) d_X7_rehouses_41 rfl rfl ?_
      refine R_iload_n (pc := 42) d_X7_rehouses_42 rfl rfl ?_
      refine R_iconst (pc := 43) (v := 3) d_X7_rehouses_43 (by decide) ?_
      refine R_callV (pc := 44) (As := [.int v3, .int 3]) (rest := [.int y10, .int y8, .int y4, .ref (g.1 + v0)]) (c_X7_of (g := g) v0 v3 3 M9 _ h) rfl rfl cal_RX7_45 ins_X7_of sel_X7_of (cls_at k1 clsOK7) (by decide) (by decide) rfl rfl (Nat.le_of_ble_eq_true rfl) d_X7_rehouses_44 (k_I (fun y12 M11 h => ?_)) (fun _ _ h9 => False.elim h9)
      try dsimp only at h
      refine R_callV (pc := 47) (As := [.int y4, .int y8, .int y10, .int y12]) (rest := []) (c_X7_roomFor (g := g) v0 y4 y8 y10 y12 M11 _ h) rfl rfl cal_RX7_123 ins_X7_roomFor sel_X7_roomFor (cls_at k1 clsOK7) (by decide) (by decide) rfl rfl (Nat.le_of_ble_eq_true rfl) d_X7_rehouses_47 (k_I (fun y14 M13 h => ?_)) (fun _ _ h9 => False.elim h9)
      try dsimp only at h
      refine R_istore (pc := 50) (L' := [some (.ref (g.1 + v0)), some (.int v1), some (.int v2), some (.int v3), some (.int y14)]) d_X7_rehouses_50 (by decide) rfl ?_
      refine R_aload_n (pc := 52) d_X7_rehouses_52 rfl rfl ?_
      refine R_iload_n (pc := 53) d_X7_rehouses_53 rfl rfl ?_
      refine R_iconst (pc := 54) (v := 0) d_X7_rehouses_54 (by decide) ?_
      refine R_callV (pc := 55) (As := [.int v3, .int 0]) (rest := []) (c_X7_setState (g := g) v0 v3 0 M13 _ h) rfl rfl cal_RX7_133 ins_X7_setState sel_X7_setState (cls_at k1 clsOK7) (by decide) (by decide) rfl rfl (Nat.le_of_ble_eq_true rfl) d_X7_rehouses_55 (k_V (fun M15 h => ?_)) (fun _ _ h9 => False.elim h9)
      try dsimp only at h
      refine R_iload (pc := 58) d_X7_rehouses_58 rfl ?_
      refine R_if_ge (pc := 60) (tgt := 72) d_X7_rehouses_60 (by decide) (fun c => ?_) (fun c => ?_)
      · rw [if_pos c] at h
        refine R_iload (pc := 72) d_X7_rehouses_72 rfl ?_
        refine R_aload_n (pc := 74) d_X7_rehouses_74 rfl rfl ?_
        refine R_iload_n (pc := 75) d_X7_rehouses_75 rfl rfl ?_
        refine R_iconst (pc := 76) (v := 4) d_X7_rehouses_76 (by decide) ?_
        refine R_callV (pc := 77) (As := [.int v3, .int 4]) (rest := [.int y14]) (c_X7_of (g := g) v0 v3 4 M15 _ h) rfl rfl cal_RX7_45 ins_X7_of sel_X7_of (cls_at k1 clsOK7) (by decide) (by decide) rfl rfl (Nat.le_of_ble_eq_true rfl) d_X7_rehouses_77 (k_I (fun y17 M16 h => ?_)) (fun _ _ h9 => False.elim h9)
        try dsimp only at h
        refine R_icmp_eq (pc := 80) (tgt := 105) d_X7_rehouses_80 (by decide) (fun c => ?_) (fun c => ?_)
        · rw [if_pos c] at h
          exact WP_sub (B_X7_rehouses_105 Q (T_X7_rehouses_8 Q n) hκ8 v0 v1 v2 v3 M16 h) (by decide) (ls_s (ls_s (ls_s (ls_s (ls_n ls_0)))))
        · rw [if_neg c] at h
          refine R_aload_n (pc := 83) d_X7_rehouses_83 rfl rfl ?_
          refine R_getR (pc := 84) fld_RX7_7 rfl rfl k1 d_X7_rehouses_84 ?_
          refine R_bipush (pc := 87) (v := 78) d_X7_rehouses_87 (by decide) ?_
          refine R_bipush (pc := 89) (v := 6) d_X7_rehouses_89 (by decide) ?_
          refine R_iload_n (pc := 91) d_X7_rehouses_91 rfl rfl ?_
          refine R_imul (pc := 92) d_X7_rehouses_92 ?_
          refine R_iadd (pc := 93) d_X7_rehouses_93 ?_
          refine R_iconst (pc := 94) (v := 4) d_X7_rehouses_94 (by decide) ?_
          refine R_iadd (pc := 95) d_X7_rehouses_95 ?_
          refine R_iload (pc := 96) d_X7_rehouses_96 rfl ?_
          obtain ⟨k18, h⟩ := h
          obtain ⟨k19, h⟩ := h
          refine R_iast (pc := 98) k18 k19 d_X7_rehouses_98 (N_M (fun M20 eM20 => ?_))
          have h := h M20 eM20
          refine R_aload_n (pc := 99) d_X7_rehouses_99 rfl rfl ?_
          refine R_iload_n (pc := 100) d_X7_rehouses_100 rfl rfl ?_
          refine R_iconst (pc := 101) (v := 0) d_X7_rehouses_101 (by decide) ?_
          refine R_callV (pc := 102) (As := [.int v3, .int 0]) (rest := []) (c_X7_notes (g := g) v0 v3 0 M20 _ h) rfl rfl cal_RX7_137 ins_X7_notes sel_X7_notes (cls_at k1 clsOK7) (by decide) (by decide) rfl rfl (Nat.le_of_ble_eq_true rfl) d_X7_rehouses_102 (k_V (fun M21 h => ?_)) (fun _ _ h9 => False.elim h9)
          try dsimp only at h
          exact WP_sub (B_X7_rehouses_105 Q (T_X7_rehouses_8 Q n) hκ8 v0 v1 v2 v3 M21 h) (by decide) (ls_s (ls_s (ls_s (ls_s (ls_n ls_0)))))
      · rw [if_neg c] at h
        refine R_aload_n (pc := 63) d_X7_rehouses_63 rfl rfl ?_
        refine R_iload_n (pc := 64) d_X7_rehouses_64 rfl rfl ?_
        refine R_iconst (pc := 65) (v := 2) d_X7_rehouses_65 (by decide) ?_
        refine R_callV (pc := 66) (As := [.int v3, .int 2]) (rest := []) (c_X7_cancels (g := g) v0 v3 2 M15 _ h) rfl rfl cal_RX7_157 ins_X7_cancels sel_X7_cancels (cls_at k1 clsOK7) (by decide) (by decide) rfl rfl (Nat.le_of_ble_eq_true rfl) d_X7_rehouses_66 (k_V (fun M22 h => ?_)) (fun _ _ h9 => False.elim h9)
        try dsimp only at h
        refine R_goto (pc := 69) (tgt := 105) d_X7_rehouses_69 (by decide) ?_
        exact WP_sub (B_X7_rehouses_105 Q (T_X7_rehouses_8 Q n) hκ8 v0 v1 v2 v3 M22 h) (by decide) (ls_s (ls_s (ls_s (ls_s (ls_n ls_0)))))
def T_X7_rehouses (Q : Mem → Prop) (v0 : Nat) (v1 : Int32) (v2 : Int32) (M : Mem) : Prop := (kd v0 = 7) ∧ T_X7_nextOf (fun y3 M2 => (∃ N : Nat, T_X7_rehouses_8 Q N v0 v1 v2 y3 M2))  v0 v1 v2 (-1) M
set_option maxRecDepth 100000 in
set_option maxHeartbeats 4000000 in
theorem c_X7_rehouses {g : GG} (v0 : Nat) (v1 : Int32) (v2 : Int32) (M : Mem) (Q : Mem → Prop) (h : T_X7_rehouses Q v0 v1 v2 M) : CT g 15 mX7_rehouses [.ref (g.1 + v0), .int v1, .int v2] M 0 (oV Q noX) := by
  refine CT_of (L := [some (.ref (g.1 + v0)), some (.int v1), some (.int v2), none, none]) (by decide) rfl (Nat.le_of_ble_eq_true rfl) (ro_V rfl) rfl ?_
  unfold T_X7_rehouses at h
  refine R_aload_n (pc := 0) d_X7_rehouses_0 rfl rfl ?_
  refine R_iload_n (pc := 1) d_X7_rehouses_1 rfl rfl ?_
  refine R_iload_n (pc := 2) d_X7_rehouses_2 rfl rfl ?_
  refine R_iconst (pc := 3) (v := (-1)) d_X7_rehouses_3 (by decide) ?_
  obtain ⟨k1, h⟩ := h
  refine R_callV (pc := 4) (As := [.int v1, .int v2, .int (-1)]) (rest := []) (c_X7_nextOf (g := g) v0 v1 v2 (-1) M _ h) rfl rfl cal_RX7_154 ins_X7_nextOf sel_X7_nextOf (cls_at k1 clsOK7) (by decide) (by decide) rfl rfl (Nat.le_of_ble_eq_true rfl) d_X7_rehouses_4 (k_I (fun y3 M2 h => ?_)) (fun _ _ h9 => False.elim h9)
  try dsimp only at h
  refine R_istore_n (pc := 7) (L' := [some (.ref (g.1 + v0)), some (.int v1), some (.int v2), some (.int y3), none]) d_X7_rehouses_7 rfl (by decide) rfl ?_
  obtain ⟨N, h⟩ := h
  exact WP_sub (B_X7_rehouses_8 Q N v0 v1 v2 y3 M2 h) (by decide) (ls_s (ls_s (ls_s (ls_s (ls_n ls_0)))))
/-! X7_addInmate -/
theorem d_X7_addInmate_0 : decode mX7_addInmate.2.1 0 = .ok (.aload_n 0, 1) := by decide +kernel
theorem d_X7_addInmate_1 : decode mX7_addInmate.2.1 1 = .ok (.iconst 0, 1) := by decide +kernel
theorem d_X7_addInmate_2 : decode mX7_addInmate.2.1 2 = .ok (.putfield 37, 3) := by decide +kernel
theorem d_X7_addInmate_5 : decode mX7_addInmate.2.1 5 = .ok (.aload_n 0, 1) := by decide +kernel
theorem d_X7_addInmate_6 : decode mX7_addInmate.2.1 6 = .ok (.invokevirtual 160, 3) := by decide +kernel
theorem d_X7_addInmate_9 : decode mX7_addInmate.2.1 9 = .ok (.iload_n 1, 1) := by decide +kernel
theorem d_X7_addInmate_10 : decode mX7_addInmate.2.1 10 = .ok (.iconst 0, 1) := by decide +kernel
theorem d_X7_addInmate_11 : decode mX7_addInmate.2.1 11 = .ok (.iconst 3, 1) := by decide +kernel
theorem d_X7_addInmate_12 : decode mX7_addInmate.2.1 12 = .ok (.invokestatic 41, 3) := by decide +kernel
theorem d_X7_addInmate_15 : decode mX7_addInmate.2.1 15 = .ok (.ifCond .eq 12, 3) := by decide +kernel
theorem d_X7_addInmate_18 : decode mX7_addInmate.2.1 18 = .ok (.iload_n 2, 1) := by decide +kernel
theorem d_X7_addInmate_19 : decode mX7_addInmate.2.1 19 = .ok (.iconst 0, 1) := by decide +kernel
theorem d_X7_addInmate_20 : decode mX7_addInmate.2.1 20 = .ok (.iconst 2, 1) := by decide +kernel
theorem d_X7_addInmate_21 : decode mX7_addInmate.2.1 21 = .ok (.invokestatic 41, 3) := by decide +kernel
theorem d_X7_addInmate_24 : decode mX7_addInmate.2.1 24 = .ok (.ifCond .ne 9, 3) := by decide +kernel
theorem d_X7_addInmate_27 : decode mX7_addInmate.2.1 27 = .ok (.aload_n 0, 1) := by decide +kernel
theorem d_X7_addInmate_28 : decode mX7_addInmate.2.1 28 = .ok (.iconst 1, 1) := by decide +kernel
theorem d_X7_addInmate_29 : decode mX7_addInmate.2.1 29 = .ok (.invokevirtual 163, 3) := by decide +kernel
theorem d_X7_addInmate_32 : decode mX7_addInmate.2.1 32 = .ok (.ireturn, 1) := by decide +kernel
theorem d_X7_addInmate_33 : decode mX7_addInmate.2.1 33 = .ok (.aload_n 0, 1) := by decide +kernel
theorem d_X7_addInmate_34 : decode mX7_addInmate.2.1 34 = .ok (.getfield 7, 3) := by decide +kernel
theorem d_X7_addInmate_37 : decode mX7_addInmate.2.1 37 = .ok (.iconst 1, 1) := by decide +kernel
theorem d_X7_addInmate_38 : decode mX7_addInmate.2.1 38 = .ok (.iaload, 1) := by decide +kernel
theorem d_X7_addInmate_39 : decode mX7_addInmate.2.1 39 = .ok (.bipush 10, 2) := by decide +kernel
theorem d_X7_addInmate_41 : decode mX7_addInmate.2.1 41 = .ok (.if_icmp .ne 9, 3) := by decide +kernel
theorem d_X7_addInmate_44 : decode mX7_addInmate.2.1 44 = .ok (.aload_n 0, 1) := by decide +kernel
theorem d_X7_addInmate_45 : decode mX7_addInmate.2.1 45 = .ok (.iconst 2, 1) := by decide +kernel
theorem d_X7_addInmate_46 : decode mX7_addInmate.2.1 46 = .ok (.invokevirtual 163, 3) := by decide +kernel
theorem d_X7_addInmate_49 : decode mX7_addInmate.2.1 49 = .ok (.ireturn, 1) := by decide +kernel
theorem d_X7_addInmate_50 : decode mX7_addInmate.2.1 50 = .ok (.aload_n 0, 1) := by decide +kernel
theorem d_X7_addInmate_51 : decode mX7_addInmate.2.1 51 = .ok (.getfield 7, 3) := by decide +kernel
theorem d_X7_addInmate_54 : decode mX7_addInmate.2.1 54 = .ok (.bipush 12, 2) := by decide +kernel
theorem d_X7_addInmate_56 : decode mX7_addInmate.2.1 56 = .ok (.aload_n 0, 1) := by decide +kernel
theorem d_X7_addInmate_57 : decode mX7_addInmate.2.1 57 = .ok (.getfield 7, 3) := by decide +kernel
theorem d_X7_addInmate_60 : decode mX7_addInmate.2.1 60 = .ok (.iconst 1, 1) := by decide +kernel
theorem d_X7_addInmate_61 : decode mX7_addInmate.2.1 61 = .ok (.iaload, 1) := by decide +kernel
theorem d_X7_addInmate_62 : decode mX7_addInmate.2.1 62 = .ok (.iadd, 1) := by decide +kernel
theorem d_X7_addInmate_63 : decode mX7_addInmate.2.1 63 = .ok (.iload_n 1, 1) := by decide +kernel
theorem d_X7_addInmate_64 : decode mX7_addInmate.2.1 64 = .ok (.iastore, 1) := by decide +kernel
theorem d_X7_addInmate_65 : decode mX7_addInmate.2.1 65 = .ok (.aload_n 0, 1) := by decide +kernel
theorem d_X7_addInmate_66 : decode mX7_addInmate.2.1 66 = .ok (.getfield 7, 3) := by decide +kernel
theorem d_X7_addInmate_69 : decode mX7_addInmate.2.1 69 = .ok (.bipush 22, 2) := by decide +kernel
theorem d_X7_addInmate_71 : decode mX7_addInmate.2.1 71 = .ok (.aload_n 0, 1) := by decide +kernel
theorem d_X7_addInmate_72 : decode mX7_addInmate.2.1 72 = .ok (.getfield 7, 3) := by decide +kernel
theorem d_X7_addInmate_75 : decode mX7_addInmate.2.1 75 = .ok (.iconst 1, 1) := by decide +kernel
theorem d_X7_addInmate_76 : decode mX7_addInmate.2.1 76 = .ok (.iaload, 1) := by decide +kernel
theorem d_X7_addInmate_77 : decode mX7_addInmate.2.1 77 = .ok (.iadd, 1) := by decide +kernel
theorem d_X7_addInmate_78 : decode mX7_addInmate.2.1 78 = .ok (.iload_n 2, 1) := by decide +kernel
theorem d_X7_addInmate_79 : decode mX7_addInmate.2.1 79 = .ok (.iastore, 1) := by decide +kernel
theorem d_X7_addInmate_80 : decode mX7_addInmate.2.1 80 = .ok (.aload_n 0, 1) := by decide +kernel
theorem d_X7_addInmate_81 : decode mX7_addInmate.2.1 81 = .ok (.getfield 7, 3) := by decide +kernel
theorem d_X7_addInmate_84 : decode mX7_addInmate.2.1 84 = .ok (.iconst 1, 1) := by decide +kernel
theorem d_X7_addInmate_85 : decode mX7_addInmate.2.1 85 = .ok (.dup2, 1) := by decide +kernel
theorem d_X7_addInmate_86 : decode mX7_addInmate.2.1 86 = .ok (.iaload, 1) := by decide +kernel
theorem d_X7_addInmate_87 : decode mX7_addInmate.2.1 87 = .ok (.iconst 1, 1) := by decide +kernel
theorem d_X7_addInmate_88 : decode mX7_addInmate.2.1 88 = .ok (.iadd, 1) := by decide +kernel
theorem d_X7_addInmate_89 : decode mX7_addInmate.2.1 89 = .ok (.iastore, 1) := by decide +kernel
theorem d_X7_addInmate_90 : decode mX7_addInmate.2.1 90 = .ok (.aload_n 0, 1) := by decide +kernel
theorem d_X7_addInmate_91 : decode mX7_addInmate.2.1 91 = .ok (.invokevirtual 166, 3) := by decide +kernel
theorem d_X7_addInmate_94 : decode mX7_addInmate.2.1 94 = .ok (.aload_n 0, 1) := by decide +kernel
theorem d_X7_addInmate_95 : decode mX7_addInmate.2.1 95 = .ok (.getfield 7, 3) := by decide +kernel
theorem d_X7_addInmate_98 : decode mX7_addInmate.2.1 98 = .ok (.iconst 1, 1) := by decide +kernel
theorem d_X7_addInmate_99 : decode mX7_addInmate.2.1 99 = .ok (.iaload, 1) := by decide +kernel
theorem d_X7_addInmate_100 : decode mX7_addInmate.2.1 100 = .ok (.iconst 1, 1) := by decide +kernel
theorem d_X7_addInmate_101 : decode mX7_addInmate.2.1 101 = .ok (.isub, 1) := by decide +kernel
theorem d_X7_addInmate_102 : decode mX7_addInmate.2.1 102 = .ok (.ireturn, 1) := by decide +kernel
def T_X7_addInmate_27 (Q : Int32 → Mem → Prop) (v0 : Nat) (M : Mem) : Prop := (kd v0 = 7) ∧ T_X7_fails (fun y3 M2 => Q y3 M2)  v0 1 M
set_option maxRecDepth 100000 in
set_option maxHeartbeats 4000000 in
theorem B_X7_addInmate_27 {g : GG} (Q : Int32 → Mem → Prop) (v0 : Nat) (M : Mem) (h : T_X7_addInmate_27 Q v0 M) : WP g 10 mX7_addInmate 27 [some (.ref (g.1 + v0)), none, none] [] M 0 (oI Q noX) := by
  unfold T_X7_addInmate_27 at h
  refine R_aload_n (pc := 27) d_X7_addInmate_27 rfl rfl ?_
  refine R_iconst (pc := 28) (v := 1) d_X7_addInmate_28 (by decide) ?_
  obtain ⟨k1, h⟩ := h
  refine R_callV (pc := 29) (As := [.int 1]) (rest := []) (c_X7_fails (g := g) v0 1 M _ h) rfl rfl cal_RX7_163 ins_X7_fails sel_X7_fails (cls_at k1 clsOK7) (by decide) (by decide) rfl rfl (Nat.le_of_ble_eq_true rfl) d_X7_addInmate_29 (k_I (fun y3 M2 h => ?_)) (fun _ _ h9 => False.elim h9)
  try dsimp only at h
  exact R_retv (pc := 32) d_X7_addInmate_32 h
def T_X7_addInmate (Q : Int32 → Mem → Prop) (v0 : Nat) (v1 : Int32) (v2 : Int32) (M : Mem) : Prop := (kd v0 = 7) ∧ ∀ M2 : Mem, M2 = mset M v0 0 0 → T_X7_remembers (fun M3 => T_X7_in (fun y5 M4 => if y5 = 0 then (T_X7_addInmate_27 Q v0 M4) else (T_X7_in (fun y7 M6 => if y7 = 0 then (T_X7_addInmate_27 Q v0 M6) else ((kd (rf v0 1) = 9) ∧ (vp_in 1 (ln (rf v0 1))) ∧ if (M6.1 (rf v0 1) (Int32.toNatClampNeg 1)) = (10 : Int32) then (T_X7_fails (fun y17 M16 => Q y17 M16)  v0 2 M6) else ((vp_in (12 + (M6.1 (rf v0 1) (Int32.toNatClampNeg 1))) (ln (rf v0 1))) ∧ ∀ M11 : Mem, M11 = mset M6 (rf v0 1) (Int32.toNatClampNeg (12 + (M6.1 (rf v0 1) (Int32.toNatClampNeg 1)))) v1 → (vp_in (22 + (M11.1 (rf v0 1) (Int32.toNatClampNeg 1))) (ln (rf v0 1))) ∧ ∀ M13 : Mem, M13 = mset M11 (rf v0 1) (Int32.toNatClampNeg (22 + (M11.1 (rf v0 1) (Int32.toNatClampNeg 1)))) v2 → ∀ M14 : Mem, M14 = mset M13 (rf v0 1) (Int32.toNatClampNeg 1) ((M13.1 (rf v0 1) (Int32.toNatClampNeg 1)) + 1) → T_X7_keeps (fun M15 => Q ((M15.1 (rf v0 1) (Int32.toNatClampNeg 1)) - 1) M15)  v0 M14)))  v2 0 2 M4))  v1 0 3 M3)  v0 M2
set_option maxRecDepth 100000 in
set_option maxHeartbeats 4000000 in
theorem c_X7_addInmate {g : GG} (v0 : Nat) (v1 : Int32) (v2 : Int32) (M : Mem) (Q : Int32 → Mem → Prop) (h : T_X7_addInmate Q v0 v1 v2 M) : CT g 10 mX7_addInmate [.ref (g.1 + v0), .int v1, .int v2] M 0 (oI Q noX) := by
  refine CT_of (L := [some (.ref (g.1 + v0)), some (.int v1), some (.int v2)]) (by decide) rfl (Nat.le_of_ble_eq_true rfl) (ro_I rfl) rfl ?_
  unfold T_X7_addInmate at h
  refine R_aload_n (pc := 0) d_X7_addInmate_0 rfl rfl ?_
  refine R_iconst (pc := 1) (v := 0) d_X7_addInmate_1 (by decide) ?_
  obtain ⟨k1, h⟩ := h
  refine R_putI (pc := 2) fld_RX7_37 rfl rfl rfl k1 rfl rfl d_X7_addInmate_2 (N_M (fun M2 eM2 => ?_))
  have h := h M2 eM2
  refine R_aload_n (pc := 5) d_X7_addInmate_5 rfl rfl ?_
  refine R_callV (pc := 6) (As := []) (rest := []) (c_X7_remembers (g := g) v0 M2 _ h) rfl rfl cal_RX7_160 ins_X7_remembers sel_X7_remembers (cls_at k1 clsOK7) (by decide) (by decide) rfl rfl (Nat.le_of_ble_eq_true rfl) d_X7_addInmate_6 (k_V (fun M3 h => ?_)) (fun _ _ h9 => False.elim h9)
  try dsimp only at h
  refine R_iload_n (pc := 9) d_X7_addInmate_9 rfl rfl ?_
  refine R_iconst (pc := 10) (v := 0) d_X7_addInmate_10 (by decide) ?_
  refine R_iconst (pc := 11) (v := 3) d_X7_addInmate_11 (by decide) ?_
  refine R_callS (pc := 12) (As := [.int v1, .int 0, .int 3]) (rest := []) (c_X7_in (g := g) v1 0 3 M3 _ h) rfl rfl cal_RX7_41 sta_X7_in (by decide) (by decide) rfl rfl (Nat.le_of_ble_eq_true rfl) d_X7_addInmate_12 (k_Z (fun y5 M4 h => ?_)) (fun _ _ h9 => False.elim h9)
  try dsimp only at h
  refine R_if_eq (pc := 15) (tgt := 27) d_X7_addInmate_15 (by decide) (fun c => ?_) (fun c => ?_)
  · rw [if_pos c] at h
    exact WP_sub (B_X7_addInmate_27 Q v0 M4 h) (by decide) (ls_s (ls_n (ls_n ls_0)))
  · rw [if_neg c] at h
    refine R_iload_n (pc := 18) d_X7_addInmate_18 rfl rfl ?_
    refine R_iconst (pc := 19) (v := 0) d_X7_addInmate_19 (by decide) ?_
    refine R_iconst (pc := 20) (v := 2) d_X7_addInmate_20 (by decide) ?_
    refine R_callS (pc := 21) (As := [.int v2, .int 0, .int 2]) (rest := []) (c_X7_in (g := g) v2 0 2 M4 _ h) rfl rfl cal_RX7_41 sta_X7_in (by decide) (by decide) rfl rfl (Nat.le_of_ble_eq_true rfl) d_X7_addInmate_21 (k_Z (fun y7 M6 h => ?_)) (fun _ _ h9 => False.elim h9)
    try dsimp only at h
    refine R_if_ne (pc := 24) (tgt := 33) d_X7_addInmate_24 (by decide) (fun c => ?_) (fun c => ?_)
    · rw [if_neg c] at h
      refine R_aload_n (pc := 33) d_X7_addInmate_33 rfl rfl ?_
      refine R_getR (pc := 34) fld_RX7_7 rfl rfl k1 d_X7_addInmate_34 ?_
      refine R_iconst (pc := 37) (v := 1) d_X7_addInmate_37 (by decide) ?_
      obtain ⟨k8, h⟩ := h
      obtain ⟨k9, h⟩ := h
      refine R_iald (pc := 38) k8 k9 d_X7_addInmate_38 ?_
      refine R_bipush (pc := 39) (v := 10) d_X7_addInmate_39 (by decide) ?_
      refine R_icmp_ne (pc := 41) (tgt := 50) d_X7_addInmate_41 (by decide) (fun c => ?_) (fun c => ?_)
      · rw [if_neg c] at h
        refine R_aload_n (pc := 50) d_X7_addInmate_50 rfl rfl ?_
        refine R_getR (pc := 51) fld_RX7_7 rfl rfl k1 d_X7_addInmate_51 ?_
        refine R_bipush (pc := 54) (v := 12) d_X7_addInmate_54 (by decide) ?_
        refine R_aload_n (pc := 56) d_X7_addInmate_56 rfl rfl ?_
        refine R_getR (pc := 57) fld_RX7_7 rfl rfl k1 d_X7_addInmate_57 ?_
        refine R_iconst (pc := 60) (v := 1) d_X7_addInmate_60 (by decide) ?_
        refine R_iald (pc := 61) k8 k9 d_X7_addInmate_61 ?_
        refine R_iadd (pc := 62) d_X7_addInmate_62 ?_
        refine R_iload_n (pc := 63) d_X7_addInmate_63 rfl rfl ?_
        obtain ⟨k10, h⟩ := h
        refine R_iast (pc := 64) k8 k10 d_X7_addInmate_64 (N_M (fun M11 eM11 => ?_))
        have h := h M11 eM11
        refine R_aload_n (pc := 65) d_X7_addInmate_65 rfl rfl ?_
        refine R_getR (pc := 66) fld_RX7_7 rfl rfl k1 d_X7_addInmate_66 ?_
        refine R_bipush (pc := 69) (v := 22) d_X7_addInmate_69 (by decide) ?_
        refine R_aload_n (pc := 71) d_X7_addInmate_71 rfl rfl ?_
        refine R_getR (pc := 72) fld_RX7_7 rfl rfl k1 d_X7_addInmate_72 ?_
        refine R_iconst (pc := 75) (v := 1) d_X7_addInmate_75 (by decide) ?_
        refine R_iald (pc := 76) k8 k9 d_X7_addInmate_76 ?_
        refine R_iadd (pc := 77) d_X7_addInmate_77 ?_
        refine R_iload_n (pc := 78) d_X7_addInmate_78 rfl rfl ?_
        obtain ⟨k12, h⟩ := h
        refine R_iast (pc := 79) k8 k12 d_X7_addInmate_79 (N_M (fun M13 eM13 => ?_))
        have h := h M13 eM13
        refine R_aload_n (pc := 80) d_X7_addInmate_80 rfl rfl ?_
        refine R_getR (pc := 81) fld_RX7_7 rfl rfl k1 d_X7_addInmate_81 ?_
        refine R_iconst (pc := 84) (v := 1) d_X7_addInmate_84 (by decide) ?_
        refine R_dup2 (pc := 85) d_X7_addInmate_85 rfl rfl ?_
        refine R_iald (pc := 86) k8 k9 d_X7_addInmate_86 ?_
        refine R_iconst (pc := 87) (v := 1) d_X7_addInmate_87 (by decide) ?_
        refine R_iadd (pc := 88) d_X7_addInmate_88 ?_
        refine R_iast (pc := 89) k8 k9 d_X7_addInmate_89 (N_M (fun M14 eM14 => ?_))
        have h := h M14 eM14
        refine R_aload_n (pc := 90) d_X7_addInmate_90 rfl rfl ?_
        refine R_callV (pc := 91) (As := []) (rest := []) (c_X7_keeps (g := g) v0 M14 _ h) rfl rfl cal_RX7_166 ins_X7_keeps sel_X7_keeps (cls_at k1 clsOK7) (by decide) (by decide) rfl rfl (Nat.le_of_ble_eq_true rfl) d_X7_addInmate_91 (k_V (fun M15 h => ?_)) (fun _ _ h9 => False.elim h9)
        try dsimp only at h
        refine R_aload_n (pc := 94) d_X7_addInmate_94 rfl rfl ?_
        refine R_getR (pc := 95) fld_RX7_7 rfl rfl k1 d_X7_addInmate_95 ?_
        refine R_iconst (pc := 98) (v := 1) d_X7_addInmate_98 (by decide) ?_
        refine R_iald (pc := 99) k8 k9 d_X7_addInmate_99 ?_
        refine R_iconst (pc := 100) (v := 1) d_X7_addInmate_100 (by decide) ?_
        refine R_isub (pc := 101) d_X7_addInmate_101 ?_
        exact R_retv (pc := 102) d_X7_addInmate_102 h
      · rw [if_pos c] at h
        refine R_aload_n (pc := 44) d_X7_addInmate_44 rfl rfl ?_
        refine R_iconst (pc := 45) (v := 2) d_X7_addInmate_45 (by decide) ?_
        refine R_callV (pc := 46) (As := [.int 2]) (rest := []) (c_X7_fails (g := g) v0 2 M6 _ h) rfl rfl cal_RX7_163 ins_X7_fails sel_X7_fails (cls_at k1 clsOK7) (by decide) (by decide) rfl rfl (Nat.le_of_ble_eq_true rfl) d_X7_addInmate_46 (k_I (fun y17 M16 h => ?_)) (fun _ _ h9 => False.elim h9)
        try dsimp only at h
        exact R_retv (pc := 49) d_X7_addInmate_49 h
    · rw [if_pos c] at h
      exact WP_sub (B_X7_addInmate_27 Q v0 M6 h) (by decide) (ls_s (ls_n (ls_n ls_0)))
