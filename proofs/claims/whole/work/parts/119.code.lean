/-! X7_letters -/
theorem d_X7_letters_0 : decode mX7_letters.2.1 0 = .ok (.iconst 0, 1) := by decide +kernel
theorem d_X7_letters_1 : decode mX7_letters.2.1 1 = .ok (.istore_n 1, 1) := by decide +kernel
theorem d_X7_letters_2 : decode mX7_letters.2.1 2 = .ok (.iconst 0, 1) := by decide +kernel
theorem d_X7_letters_3 : decode mX7_letters.2.1 3 = .ok (.istore_n 2, 1) := by decide +kernel
theorem d_X7_letters_4 : decode mX7_letters.2.1 4 = .ok (.aload_n 0, 1) := by decide +kernel
theorem d_X7_letters_5 : decode mX7_letters.2.1 5 = .ok (.aload_n 0, 1) := by decide +kernel
theorem d_X7_letters_6 : decode mX7_letters.2.1 6 = .ok (.getfield 242, 3) := by decide +kernel
theorem d_X7_letters_9 : decode mX7_letters.2.1 9 = .ok (.ifCond .eq 21, 3) := by decide +kernel
theorem d_X7_letters_12 : decode mX7_letters.2.1 12 = .ok (.aload_n 0, 1) := by decide +kernel
theorem d_X7_letters_13 : decode mX7_letters.2.1 13 = .ok (.invokevirtual 246, 3) := by decide +kernel
theorem d_X7_letters_16 : decode mX7_letters.2.1 16 = .ok (.bipush 97, 2) := by decide +kernel
theorem d_X7_letters_18 : decode mX7_letters.2.1 18 = .ok (.bipush 108, 2) := by decide +kernel
theorem d_X7_letters_20 : decode mX7_letters.2.1 20 = .ok (.invokestatic 41, 3) := by decide +kernel
theorem d_X7_letters_23 : decode mX7_letters.2.1 23 = .ok (.ifCond .eq 7, 3) := by decide +kernel
theorem d_X7_letters_26 : decode mX7_letters.2.1 26 = .ok (.iconst 1, 1) := by decide +kernel
theorem d_X7_letters_27 : decode mX7_letters.2.1 27 = .ok (.goto 4, 3) := by decide +kernel
theorem d_X7_letters_30 : decode mX7_letters.2.1 30 = .ok (.iconst 0, 1) := by decide +kernel
theorem d_X7_letters_31 : decode mX7_letters.2.1 31 = .ok (.putfield 242, 3) := by decide +kernel
theorem d_X7_letters_34 : decode mX7_letters.2.1 34 = .ok (.aload_n 0, 1) := by decide +kernel
theorem d_X7_letters_35 : decode mX7_letters.2.1 35 = .ok (.getfield 242, 3) := by decide +kernel
theorem d_X7_letters_38 : decode mX7_letters.2.1 38 = .ok (.ifCond .eq 78, 3) := by decide +kernel
theorem d_X7_letters_41 : decode mX7_letters.2.1 41 = .ok (.aload_n 0, 1) := by decide +kernel
theorem d_X7_letters_42 : decode mX7_letters.2.1 42 = .ok (.invokevirtual 246, 3) := by decide +kernel
theorem d_X7_letters_45 : decode mX7_letters.2.1 45 = .ok (.bipush 97, 2) := by decide +kernel
theorem d_X7_letters_47 : decode mX7_letters.2.1 47 = .ok (.bipush 108, 2) := by decide +kernel
theorem d_X7_letters_49 : decode mX7_letters.2.1 49 = .ok (.invokestatic 41, 3) := by decide +kernel
theorem d_X7_letters_52 : decode mX7_letters.2.1 52 = .ok (.ifCond .eq 64, 3) := by decide +kernel
theorem d_X7_letters_55 : decode mX7_letters.2.1 55 = .ok (.iconst 1, 1) := by decide +kernel
theorem d_X7_letters_56 : decode mX7_letters.2.1 56 = .ok (.aload_n 0, 1) := by decide +kernel
theorem d_X7_letters_57 : decode mX7_letters.2.1 57 = .ok (.invokevirtual 246, 3) := by decide +kernel
theorem d_X7_letters_60 : decode mX7_letters.2.1 60 = .ok (.bipush 97, 2) := by decide +kernel
theorem d_X7_letters_62 : decode mX7_letters.2.1 62 = .ok (.isub, 1) := by decide +kernel
theorem d_X7_letters_63 : decode mX7_letters.2.1 63 = .ok (.ishl, 1) := by decide +kernel
theorem d_X7_letters_64 : decode mX7_letters.2.1 64 = .ok (.istore_n 3, 1) := by decide +kernel
theorem d_X7_letters_65 : decode mX7_letters.2.1 65 = .ok (.aload_n 0, 1) := by decide +kernel
theorem d_X7_letters_66 : decode mX7_letters.2.1 66 = .ok (.iload_n 2, 1) := by decide +kernel
theorem d_X7_letters_67 : decode mX7_letters.2.1 67 = .ok (.iconst 3, 1) := by decide +kernel
theorem d_X7_letters_68 : decode mX7_letters.2.1 68 = .ok (.if_icmp .ge 13, 3) := by decide +kernel
theorem d_X7_letters_71 : decode mX7_letters.2.1 71 = .ok (.iload_n 1, 1) := by decide +kernel
theorem d_X7_letters_72 : decode mX7_letters.2.1 72 = .ok (.iload_n 3, 1) := by decide +kernel
theorem d_X7_letters_73 : decode mX7_letters.2.1 73 = .ok (.iand, 1) := by decide +kernel
theorem d_X7_letters_74 : decode mX7_letters.2.1 74 = .ok (.ifCond .ne 7, 3) := by decide +kernel
theorem d_X7_letters_77 : decode mX7_letters.2.1 77 = .ok (.iconst 1, 1) := by decide +kernel
theorem d_X7_letters_78 : decode mX7_letters.2.1 78 = .ok (.goto 4, 3) := by decide +kernel
theorem d_X7_letters_81 : decode mX7_letters.2.1 81 = .ok (.iconst 0, 1) := by decide +kernel
theorem d_X7_letters_82 : decode mX7_letters.2.1 82 = .ok (.putfield 242, 3) := by decide +kernel
theorem d_X7_letters_85 : decode mX7_letters.2.1 85 = .ok (.iload_n 1, 1) := by decide +kernel
theorem d_X7_letters_86 : decode mX7_letters.2.1 86 = .ok (.iload_n 3, 1) := by decide +kernel
theorem d_X7_letters_87 : decode mX7_letters.2.1 87 = .ok (.ior, 1) := by decide +kernel
theorem d_X7_letters_88 : decode mX7_letters.2.1 88 = .ok (.istore_n 1, 1) := by decide +kernel
theorem d_X7_letters_89 : decode mX7_letters.2.1 89 = .ok (.iinc 2 1, 3) := by decide +kernel
theorem d_X7_letters_92 : decode mX7_letters.2.1 92 = .ok (.aload_n 0, 1) := by decide +kernel
theorem d_X7_letters_93 : decode mX7_letters.2.1 93 = .ok (.dup, 1) := by decide +kernel
theorem d_X7_letters_94 : decode mX7_letters.2.1 94 = .ok (.getfield 236, 3) := by decide +kernel
theorem d_X7_letters_97 : decode mX7_letters.2.1 97 = .ok (.aload_n 0, 1) := by decide +kernel
theorem d_X7_letters_98 : decode mX7_letters.2.1 98 = .ok (.getfield 242, 3) := by decide +kernel
theorem d_X7_letters_101 : decode mX7_letters.2.1 101 = .ok (.ifCond .eq 7, 3) := by decide +kernel
theorem d_X7_letters_104 : decode mX7_letters.2.1 104 = .ok (.iconst 1, 1) := by decide +kernel
theorem d_X7_letters_105 : decode mX7_letters.2.1 105 = .ok (.goto 4, 3) := by decide +kernel
theorem d_X7_letters_108 : decode mX7_letters.2.1 108 = .ok (.iconst 0, 1) := by decide +kernel
theorem d_X7_letters_109 : decode mX7_letters.2.1 109 = .ok (.iadd, 1) := by decide +kernel
theorem d_X7_letters_110 : decode mX7_letters.2.1 110 = .ok (.putfield 236, 3) := by decide +kernel
theorem d_X7_letters_113 : decode mX7_letters.2.1 113 = .ok (.goto (-79), 3) := by decide +kernel
theorem d_X7_letters_116 : decode mX7_letters.2.1 116 = .ok (.iload_n 1, 1) := by decide +kernel
theorem d_X7_letters_117 : decode mX7_letters.2.1 117 = .ok (.ireturn, 1) := by decide +kernel
def T_X7_letters_116 (Q : Int32 → Mem → Prop) (v1 : Int32) (M : Mem) : Prop := Q v1 M
set_option maxRecDepth 100000 in
set_option maxHeartbeats 4000000 in
theorem B_X7_letters_116 {g : GG} (Q : Int32 → Mem → Prop) (v1 : Int32) (M : Mem) (h : T_X7_letters_116 Q v1 M) : WP g 10 mX7_letters 116 [none, some (.int v1), none, none] [] M 0 (oI Q noX) := by
  unfold T_X7_letters_116 at h
  refine R_iload_n (pc := 116) d_X7_letters_116 rfl rfl ?_
  exact R_retv (pc := 117) d_X7_letters_117 h
def T_X7_letters_109 (κ34 : Nat → Int32 → Int32 → Mem → Prop) (Q : Int32 → Mem → Prop) (v0 : Nat) (v1 : Int32) (v2 : Int32) (s0 : Int32) (s1 : Int32) (s2 : Nat) (M : Mem) : Prop := (kd s2 = 7) ∧ ∀ M2 : Mem, M2 = mset M s2 17 (s1 + s0) → κ34 v0 v1 v2 M2
set_option maxRecDepth 100000 in
set_option maxHeartbeats 4000000 in
theorem B_X7_letters_109 {g : GG} (Q : Int32 → Mem → Prop) (κ34 : Nat → Int32 → Int32 → Mem → Prop) (hκ34 : ∀ (v0 : Nat) (v1 : Int32) (v2 : Int32) (M : Mem), κ34 v0 v1 v2 M → WP g 10 mX7_letters 34 [some (.ref (g.1 + v0)), some (.int v1), some (.int v2), none] [] M 0 (oI Q noX)) (v0 : Nat) (v1 : Int32) (v2 : Int32) (s0 : Int32) (s1 : Int32) (s2 : Nat) (M : Mem) (h : T_X7_letters_109 κ34 Q v0 v1 v2 s0 s1 s2 M) : WP g 10 mX7_letters 109 [some (.ref (g.1 + v0)), some (.int v1), some (.int v2), none] [.int s0, .int s1, .ref (g.1 + s2)] M 0 (oI Q noX) := by
  unfold T_X7_letters_109 at h
  refine R_iadd (pc := 109) d_X7_letters_109 ?_
  obtain ⟨k1, h⟩ := h
  refine R_putI (pc := 110) fld_RX7_236 rfl rfl rfl k1 rfl rfl d_X7_letters_110 (N_M (fun M2 eM2 => ?_))
  have h := h M2 eM2
  refine R_goto (pc := 113) (tgt := 34) d_X7_letters_113 (by decide) ?_
  exact WP_sub (hκ34 v0 v1 v2 M2 h) (by decide) (ls_s (ls_s (ls_s (ls_n ls_0))))
def T_X7_letters_82 (κ34 : Nat → Int32 → Int32 → Mem → Prop) (Q : Int32 → Mem → Prop) (v0 : Nat) (v1 : Int32) (v2 : Int32) (v3 : Int32) (s0 : Int32) (s1 : Nat) (M : Mem) : Prop := (kd s1 = 7) ∧ (s0 = 0 ∨ s0 = 1) ∧ ∀ M3 : Mem, M3 = mset M s1 19 s0 → ∀ x4 : Int32, x4 = v1 ||| v3 → ∀ x5 : Int32, x5 = v2 + 1 → (kd v0 = 7) ∧ if (M3.1 v0 19) = 0 then (T_X7_letters_109 κ34 Q v0 x4 x5 0 (M3.1 v0 17) v0 M3) else (T_X7_letters_109 κ34 Q v0 x4 x5 1 (M3.1 v0 17) v0 M3)
set_option maxRecDepth 100000 in
set_option maxHeartbeats 4000000 in
theorem B_X7_letters_82 {g : GG} (Q : Int32 → Mem → Prop) (κ34 : Nat → Int32 → Int32 → Mem → Prop) (hκ34 : ∀ (v0 : Nat) (v1 : Int32) (v2 : Int32) (M : Mem), κ34 v0 v1 v2 M → WP g 10 mX7_letters 34 [some (.ref (g.1 + v0)), some (.int v1), some (.int v2), none] [] M 0 (oI Q noX)) (v0 : Nat) (v1 : Int32) (v2 : Int32) (v3 : Int32) (s0 : Int32) (s1 : Nat) (M : Mem) (h : T_X7_letters_82 κ34 Q v0 v1 v2 v3 s0 s1 M) : WP g 10 mX7_letters 82 [some (.ref (g.1 + v0)), some (.int v1), some (.int v2), some (.int v3)] [.int s0, .ref (g.1 + s1)] M 0 (oI Q noX) := by
  unfold T_X7_letters_82 at h
  obtain ⟨k1, h⟩ := h
  obtain ⟨k2, h⟩ := h
  refine R_putI (pc := 82) fld_RX7_242 rfl rfl rfl k1 (nar_z k2) (fit_z k2) d_X7_letters_82 (N_M (fun M3 eM3 => ?_))
  have h := h M3 eM3
  refine R_iload_n (pc := 85) d_X7_letters_85 rfl rfl ?_
  refine R_iload_n (pc := 86) d_X7_letters_86 rfl rfl ?_
  refine R_ior (pc := 87) d_X7_letters_87 ?_
  refine N_i (fun x4 ex4 => ?_)
  have h := h x4 ex4
  refine R_istore_n (pc := 88) (L' := [some (.ref (g.1 + v0)), some (.int x4), some (.int v2), some (.int v3)]) d_X7_letters_88 rfl (by decide) rfl ?_
  obtain ⟨x5, ex5⟩ : ∃ z : Int32, z = v2 + 1 := ⟨_, rfl⟩
  have h := h x5 ex5
  refine R_iinc (pc := 89) (v := x5) (L' := [some (.ref (g.1 + v0)), some (.int x4), some (.int x5), some (.int v3)]) d_X7_letters_89 rfl (by rw [ex5]; rfl) (by decide) rfl ?_
  refine R_aload_n (pc := 92) d_X7_letters_92 rfl rfl ?_
  refine R_dup (pc := 93) d_X7_letters_93 rfl ?_
  obtain ⟨k6, h⟩ := h
  refine R_getI (pc := 94) fld_RX7_236 rfl rfl k6 d_X7_letters_94 ?_
  refine R_aload_n (pc := 97) d_X7_letters_97 rfl rfl ?_
  refine R_getI (pc := 98) fld_RX7_242 rfl rfl k6 d_X7_letters_98 ?_
  refine R_if_eq (pc := 101) (tgt := 108) d_X7_letters_101 (by decide) (fun c => ?_) (fun c => ?_)
  · rw [if_pos c] at h
    refine R_iconst (pc := 108) (v := 0) d_X7_letters_108 (by decide) ?_
    exact WP_sub (B_X7_letters_109 Q κ34 hκ34 v0 x4 x5 0 (M3.1 v0 17) v0 M3 h) (by decide) (ls_s (ls_s (ls_s (ls_n ls_0))))
  · rw [if_neg c] at h
    refine R_iconst (pc := 104) (v := 1) d_X7_letters_104 (by decide) ?_
    refine R_goto (pc := 105) (tgt := 109) d_X7_letters_105 (by decide) ?_
    exact WP_sub (B_X7_letters_109 Q κ34 hκ34 v0 x4 x5 1 (M3.1 v0 17) v0 M3 h) (by decide) (ls_s (ls_s (ls_s (ls_n ls_0))))
def T_X7_letters_81 (κ34 : Nat → Int32 → Int32 → Mem → Prop) (Q : Int32 → Mem → Prop) (v0 : Nat) (v1 : Int32) (v2 : Int32) (v3 : Int32) (s0 : Nat) (M : Mem) : Prop := T_X7_letters_82 κ34 Q v0 v1 v2 v3 0 s0 M
set_option maxRecDepth 100000 in
set_option maxHeartbeats 4000000 in
theorem B_X7_letters_81 {g : GG} (Q : Int32 → Mem → Prop) (κ34 : Nat → Int32 → Int32 → Mem → Prop) (hκ34 : ∀ (v0 : Nat) (v1 : Int32) (v2 : Int32) (M : Mem), κ34 v0 v1 v2 M → WP g 10 mX7_letters 34 [some (.ref (g.1 + v0)), some (.int v1), some (.int v2), none] [] M 0 (oI Q noX)) (v0 : Nat) (v1 : Int32) (v2 : Int32) (v3 : Int32) (s0 : Nat) (M : Mem) (h : T_X7_letters_81 κ34 Q v0 v1 v2 v3 s0 M) : WP g 10 mX7_letters 81 [some (.ref (g.1 + v0)), some (.int v1), some (.int v2), some (.int v3)] [.ref (g.1 + s0)] M 0 (oI Q noX) := by
  unfold T_X7_letters_81 at h
  refine R_iconst (pc := 81) (v := 0) d_X7_letters_81 (by decide) ?_
  exact WP_sub (B_X7_letters_82 Q κ34 hκ34 v0 v1 v2 v3 0 s0 M h) (by decide) (ls_s (ls_s (ls_s (ls_s ls_0))))
def T_X7_letters_34 (Q : Int32 → Mem → Prop) : Nat → Nat → Int32 → Int32 → Mem → Prop
  | 0, _, _, _, _ => False
  | n + 1, v0, v1, v2, M => (kd v0 = 7) ∧ if (M.1 v0 19) = 0 then (T_X7_letters_116 Q v1 M) else (T_X7_here (fun y3 M2 => T_X7_in (fun y5 M4 => if y5 = 0 then (T_X7_letters_116 Q v1 M4) else (T_X7_here (fun y7 M6 => ∀ x8 : Int32, x8 = 1 <<< ((y7 - 97) &&& 31) → if (3 : Int32) ≤ v2 then (T_X7_letters_81 (T_X7_letters_34 Q n) Q v0 v1 v2 x8 v0 M6) else (if (v1 &&& x8) = 0 then (T_X7_letters_82 (T_X7_letters_34 Q n) Q v0 v1 v2 x8 1 v0 M6) else (T_X7_letters_81 (T_X7_letters_34 Q n) Q v0 v1 v2 x8 v0 M6)))  v0 M4))  y3 97 108 M2)  v0 M)
set_option maxRecDepth 100000 in
set_option maxHeartbeats 4000000 in
theorem B_X7_letters_34 {g : GG} (Q : Int32 → Mem → Prop) : ∀ (n : Nat) (v0 : Nat) (v1 : Int32) (v2 : Int32) (M : Mem), T_X7_letters_34 Q n v0 v1 v2 M → WP g 10 mX7_letters 34 [some (.ref (g.1 + v0)), some (.int v1), some (.int v2), none] [] M 0 (oI Q noX) := by
  intro n
  induction n with
  | zero => intro v0 v1 v2 M h; exact h.elim
  | succ n hκ34 =>
    intro v0 v1 v2 M h
    unfold T_X7_letters_34 at h
    refine R_aload_n (pc := 34) d_X7_letters_34 rfl rfl ?_
    obtain ⟨k1, h⟩ := h
    refine R_getI (pc := 35) fld_RX7_242 rfl rfl k1 d_X7_letters_35 ?_
    refine R_if_eq (pc := 38) (tgt := 116) d_X7_letters_38 (by decide) (fun c => ?_) (fun c => ?_)
    · rw [if_pos c] at h
      exact WP_sub (B_X7_letters_116 Q v1 M h) (by decide) (ls_n (ls_s (ls_n (ls_n ls_0))))
    · rw [if_neg c] at h
      refine R_aload_n (pc := 41) d_X7_letters_41 rfl rfl ?_
      refine R_callV (pc := 42) (As := []) (rest := []) (c_X7_here (g := g) v0 M _ h) rfl rfl cal_RX7_246 ins_X7_here sel_X7_here (cls_at k1 clsOK7) (by decide) (by decide) rfl rfl (Nat.le_of_ble_eq_true rfl) d_X7_letters_42 (k_I (fun y3 M2 h => ?_)) (fun _ _ h9 => False.elim h9)
      try dsimp only at h
      refine R_bipush (pc := 45) (v := 97) d_X7_letters_45 (by decide) ?_
      refine R_bipush (pc := 47) (v := 108) d_X7_letters_47 (by decide) ?_
      refine R_callS (pc := 49) (As := [.int y3, .int 97, .int 108]) (rest := []) (c_X7_in (g := g) y3 97 108 M2 _ h) rfl rfl cal_RX7_41 sta_X7_in (by decide) (by decide) rfl rfl (Nat.le_of_ble_eq_true rfl) d_X7_letters_49 (k_Z (fun y5 M4 h => ?_)) (fun _ _ h9 => False.elim h9)
      try dsimp only at h
      refine R_if_eq (pc := 52) (tgt := 116) d_X7_letters_52 (by decide) (fun c => ?_) (fun c => ?_)
      · rw [if_pos c] at h
        exact WP_sub (B_X7_letters_116 Q v1 M4 h) (by decide) (ls_n (ls_s (ls_n (ls_n ls_0))))
      · rw [if_neg c] at h
        refine R_iconst (pc := 55) (v := 1) d_X7_letters_55 (by decide) ?_
        refine R_aload_n (pc := 56) d_X7_letters_56 rfl rfl ?_
        refine R_callV (pc := 57) (As := []) (rest := [.int 1]) (c_X7_here (g := g) v0 M4 _ h) rfl rfl cal_RX7_246 ins_X7_here sel_X7_here (cls_at k1 clsOK7) (by decide) (by decide) rfl rfl (Nat.le_of_ble_eq_true rfl) d_X7_letters_57 (k_I (fun y7 M6 h => ?_)) (fun _ _ h9 => False.elim h9)
        try dsimp only at h
        refine R_bipush (pc := 60) (v := 97) d_X7_letters_60 (by decide) ?_
        refine R_isub (pc := 62) d_X7_letters_62 ?_
        refine R_ishl (pc := 63) d_X7_letters_63 ?_
        refine N_i (fun x8 ex8 => ?_)
        have h := h x8 ex8
        refine R_istore_n (pc := 64) (L' := [some (.ref (g.1 + v0)), some (.int v1), some (.int v2), some (.int x8)]) d_X7_letters_64 rfl (by decide) rfl ?_
        refine R_aload_n (pc := 65) d_X7_letters_65 rfl rfl ?_
        refine R_iload_n (pc := 66) d_X7_letters_66 rfl rfl ?_
        refine R_iconst (pc := 67) (v := 3) d_X7_letters_67 (by decide) ?_
        refine R_icmp_ge (pc := 68) (tgt := 81) d_X7_letters_68 (by decide) (fun c => ?_) (fun c => ?_)
        · rw [if_pos c] at h
          exact WP_sub (B_X7_letters_81 Q (T_X7_letters_34 Q n) hκ34 v0 v1 v2 x8 v0 M6 h) (by decide) (ls_s (ls_s (ls_s (ls_s ls_0))))
        · rw [if_neg c] at h
          refine R_iload_n (pc := 71) d_X7_letters_71 rfl rfl ?_
          refine R_iload_n (pc := 72) d_X7_letters_72 rfl rfl ?_
          refine R_iand (pc := 73) d_X7_letters_73 ?_
          refine R_if_ne (pc := 74) (tgt := 81) d_X7_letters_74 (by decide) (fun c => ?_) (fun c => ?_)
          · rw [if_neg c] at h
            exact WP_sub (B_X7_letters_81 Q (T_X7_letters_34 Q n) hκ34 v0 v1 v2 x8 v0 M6 h) (by decide) (ls_s (ls_s (ls_s (ls_s ls_0))))
          · rw [if_pos c] at h
            refine R_iconst (pc := 77) (v := 1) d_X7_letters_77 (by decide) ?_
            refine R_goto (pc := 78) (tgt := 82) d_X7_letters_78 (by decide) ?_
            exact WP_sub (B_X7_letters_82 Q (T_X7_letters_34 Q n) hκ34 v0 v1 v2 x8 1 v0 M6 h) (by decide) (ls_s (ls_s (ls_s (ls_s ls_0))))
def T_X7_letters_31 (Q : Int32 → Mem → Prop) (v0 : Nat) (v1 : Int32) (v2 : Int32) (s0 : Int32) (s1 : Nat) (M : Mem) : Prop := (kd s1 = 7) ∧ (s0 = 0 ∨ s0 = 1) ∧ ∀ M3 : Mem, M3 = mset M s1 19 s0 → (∃ N : Nat, T_X7_letters_34 Q N v0 v1 v2 M3)
set_option maxRecDepth 100000 in
set_option maxHeartbeats 4000000 in
theorem B_X7_letters_31 {g : GG} (Q : Int32 → Mem → Prop) (v0 : Nat) (v1 : Int32) (v2 : Int32) (s0 : Int32) (s1 : Nat) (M : Mem) (h : T_X7_letters_31 Q v0 v1 v2 s0 s1 M) : WP g 10 mX7_letters 31 [some (.ref (g.1 + v0)), some (.int v1), some (.int v2), none] [.int s0, .ref (g.1 + s1)] M 0 (oI Q noX) := by
  unfold T_X7_letters_31 at h
  obtain ⟨k1, h⟩ := h
  obtain ⟨k2, h⟩ := h
  refine R_putI (pc := 31) fld_RX7_242 rfl rfl rfl k1 (nar_z k2) (fit_z k2) d_X7_letters_31 (N_M (fun M3 eM3 => ?_))
  have h := h M3 eM3
  obtain ⟨N, h⟩ := h
  exact WP_sub (B_X7_letters_34 Q N v0 v1 v2 M3 h) (by decide) (ls_s (ls_s (ls_s (ls_n ls_0))))
def T_X7_letters_30 (Q : Int32 → Mem → Prop) (v0 : Nat) (v1 : Int32) (v2 : Int32) (s0 : Nat) (M : Mem) : Prop := T_X7_letters_31 Q v0 v1 v2 0 s0 M
set_option maxRecDepth 100000 in
set_option maxHeartbeats 4000000 in
theorem B_X7_letters_30 {g : GG} (Q : Int32 → Mem → Prop) (v0 : Nat) (v1 : Int32) (v2 : Int32) (s0 : Nat) (M : Mem) (h : T_X7_letters_30 Q v0 v1 v2 s0 M) : WP g 10 mX7_letters 30 [some (.ref (g.1 + v0)), some (.int v1), some (.int v2), none] [.ref (g.1 + s0)] M 0 (oI Q noX) := by
  unfold T_X7_letters_30 at h
  refine R_iconst (pc := 30) (v := 0) d_X7_letters_30 (by decide) ?_
  exact WP_sub (B_X7_letters_31 Q v0 v1 v2 0 s0 M h) (by decide) (ls_s (ls_s (ls_s (ls_n ls_0))))
def T_X7_letters (Q : Int32 → Mem → Prop) (v0 : Nat) (M : Mem) : Prop := (kd v0 = 7) ∧ if (M.1 v0 19) = 0 then (T_X7_letters_30 Q v0 0 0 v0 M) else (T_X7_here (fun y3 M2 => T_X7_in (fun y5 M4 => if y5 = 0 then (T_X7_letters_30 Q v0 0 0 v0 M4) else (T_X7_letters_31 Q v0 0 0 1 v0 M4))  y3 97 108 M2)  v0 M)
set_option maxRecDepth 100000 in
set_option maxHeartbeats 4000000 in
theorem c_X7_letters {g : GG} (v0 : Nat) (M : Mem) (Q : Int32 → Mem → Prop) (h : T_X7_letters Q v0 M) : CT g 10 mX7_letters [.ref (g.1 + v0)] M 0 (oI Q noX) := by
  refine CT_of (L := [some (.ref (g.1 + v0)), none, none, none]) (by decide) rfl (Nat.le_of_ble_eq_true rfl) (ro_I rfl) rfl ?_
  unfold T_X7_letters at h
  refine R_iconst (pc := 0) (v := 0) d_X7_letters_0 (by decide) ?_
  refine R_istore_n (pc := 1) (L' := [some (.ref (g.1 + v0)), some (.int 0), none, none]) d_X7_letters_1 rfl (by decide) rfl ?_
  refine R_iconst (pc := 2) (v := 0) d_X7_letters_2 (by decide) ?_
  refine R_istore_n (pc := 3) (L' := [some (.ref (g.1 + v0)), some (.int 0), some (.int 0), none]) d_X7_letters_3 rfl (by decide) rfl ?_
  refine R_aload_n (pc := 4) d_X7_letters_4 rfl rfl ?_
  refine R_aload_n (pc := 5) d_X7_letters_5 rfl rfl ?_
  obtain ⟨k1, h⟩ := h
  refine R_getI (pc := 6) fld_RX7_242 rfl rfl k1 d_X7_letters_6 ?_
  refine R_if_eq (pc := 9) (tgt := 30) d_X7_letters_9 (by decide) (fun c => ?_) (fun c => ?_)
  · rw [if_pos c] at h
    exact WP_sub (B_X7_letters_30 Q v0 0 0 v0 M h) (by decide) (ls_s (ls_s (ls_s (ls_n ls_0))))
  · rw [if_neg c] at h
    refine R_aload_n (pc := 12) d_X7_letters_12 rfl rfl ?_
    refine R_callV (pc := 13) (As := []) (rest := [.ref (g.1 + v0)]) (c_X7_here (g := g) v0 M _ h) rfl rfl cal_RX7_246 ins_X7_here sel_X7_here (cls_at k1 clsOK7) (by decide) (by decide) rfl rfl (Nat.le_of_ble_eq_true rfl) d_X7_letters_13 (k_I (fun y3 M2 h => ?_)) (fun _ _ h9 => False.elim h9)
    try dsimp only at h
    refine R_bipush (pc := 16) (v := 97) d_X7_letters_16 (by decide) ?_
    refine R_bipush (pc := 18) (v := 108) d_X7_letters_18 (by decide) ?_
    refine R_callS (pc := 20) (As := [.int y3, .int 97, .int 108]) (rest := [.ref (g.1 + v0)]) (c_X7_in (g := g) y3 97 108 M2 _ h) rfl rfl cal_RX7_41 sta_X7_in (by decide) (by decide) rfl rfl (Nat.le_of_ble_eq_true rfl) d_X7_letters_20 (k_Z (fun y5 M4 h => ?_)) (fun _ _ h9 => False.elim h9)
    try dsimp only at h
    refine R_if_eq (pc := 23) (tgt := 30) d_X7_letters_23 (by decide) (fun c => ?_) (fun c => ?_)
    · rw [if_pos c] at h
      exact WP_sub (B_X7_letters_30 Q v0 0 0 v0 M4 h) (by decide) (ls_s (ls_s (ls_s (ls_n ls_0))))
    · rw [if_neg c] at h
      refine R_iconst (pc := 26) (v := 1) d_X7_letters_26 (by decide) ?_
      refine R_goto (pc := 27) (tgt := 31) d_X7_letters_27 (by decide) ?_
      exact WP_sub (B_X7_letters_31 Q v0 0 0 1 v0 M4 h) (by decide) (ls_s (ls_s (ls_s (ls_n ls_0))))
/-! X7_readsCommand -/
theorem d_X7_readsCommand_0 : decode mX7_readsCommand.2.1 0 = .ok (.iconst 4, 1) := by decide +kernel
theorem d_X7_readsCommand_1 : decode mX7_readsCommand.2.1 1 = .ok (.aload_n 0, 1) := by decide +kernel
theorem d_X7_readsCommand_2 : decode mX7_readsCommand.2.1 2 = .ok (.getfield 252, 3) := by decide +kernel
theorem d_X7_readsCommand_5 : decode mX7_readsCommand.2.1 5 = .ok (.imul, 1) := by decide +kernel
theorem d_X7_readsCommand_6 : decode mX7_readsCommand.2.1 6 = .ok (.istore_n 1, 1) := by decide +kernel
theorem d_X7_readsCommand_7 : decode mX7_readsCommand.2.1 7 = .ok (.aload_n 0, 1) := by decide +kernel
theorem d_X7_readsCommand_8 : decode mX7_readsCommand.2.1 8 = .ok (.getfield 31, 3) := by decide +kernel
theorem d_X7_readsCommand_11 : decode mX7_readsCommand.2.1 11 = .ok (.aload_n 0, 1) := by decide +kernel
theorem d_X7_readsCommand_12 : decode mX7_readsCommand.2.1 12 = .ok (.getfield 252, 3) := by decide +kernel
theorem d_X7_readsCommand_15 : decode mX7_readsCommand.2.1 15 = .ok (.aload_n 0, 1) := by decide +kernel
theorem d_X7_readsCommand_16 : decode mX7_readsCommand.2.1 16 = .ok (.invokevirtual 246, 3) := by decide +kernel
theorem d_X7_readsCommand_19 : decode mX7_readsCommand.2.1 19 = .ok (.bipush 98, 2) := by decide +kernel
theorem d_X7_readsCommand_21 : decode mX7_readsCommand.2.1 21 = .ok (.if_icmp .ne 7, 3) := by decide +kernel
theorem d_X7_readsCommand_24 : decode mX7_readsCommand.2.1 24 = .ok (.iconst 0, 1) := by decide +kernel
theorem d_X7_readsCommand_25 : decode mX7_readsCommand.2.1 25 = .ok (.goto 17, 3) := by decide +kernel
theorem d_X7_readsCommand_28 : decode mX7_readsCommand.2.1 28 = .ok (.aload_n 0, 1) := by decide +kernel
theorem d_X7_readsCommand_29 : decode mX7_readsCommand.2.1 29 = .ok (.invokevirtual 246, 3) := by decide +kernel
theorem d_X7_readsCommand_32 : decode mX7_readsCommand.2.1 32 = .ok (.bipush 120, 2) := by decide +kernel
theorem d_X7_readsCommand_34 : decode mX7_readsCommand.2.1 34 = .ok (.if_icmp .ne 7, 3) := by decide +kernel
theorem d_X7_readsCommand_37 : decode mX7_readsCommand.2.1 37 = .ok (.iconst 1, 1) := by decide +kernel
theorem d_X7_readsCommand_38 : decode mX7_readsCommand.2.1 38 = .ok (.goto 4, 3) := by decide +kernel
theorem d_X7_readsCommand_41 : decode mX7_readsCommand.2.1 41 = .ok (.iconst 2, 1) := by decide +kernel
theorem d_X7_readsCommand_42 : decode mX7_readsCommand.2.1 42 = .ok (.iastore, 1) := by decide +kernel
theorem d_X7_readsCommand_43 : decode mX7_readsCommand.2.1 43 = .ok (.aload_n 0, 1) := by decide +kernel
theorem d_X7_readsCommand_44 : decode mX7_readsCommand.2.1 44 = .ok (.aload_n 0, 1) := by decide +kernel
theorem d_X7_readsCommand_45 : decode mX7_readsCommand.2.1 45 = .ok (.invokevirtual 246, 3) := by decide +kernel
theorem d_X7_readsCommand_48 : decode mX7_readsCommand.2.1 48 = .ok (.bipush 98, 2) := by decide +kernel
theorem d_X7_readsCommand_50 : decode mX7_readsCommand.2.1 50 = .ok (.if_icmp .eq 21, 3) := by decide +kernel
theorem d_X7_readsCommand_53 : decode mX7_readsCommand.2.1 53 = .ok (.aload_n 0, 1) := by decide +kernel
theorem d_X7_readsCommand_54 : decode mX7_readsCommand.2.1 54 = .ok (.invokevirtual 246, 3) := by decide +kernel
theorem d_X7_readsCommand_57 : decode mX7_readsCommand.2.1 57 = .ok (.bipush 120, 2) := by decide +kernel
theorem d_X7_readsCommand_59 : decode mX7_readsCommand.2.1 59 = .ok (.if_icmp .eq 12, 3) := by decide +kernel
theorem d_X7_readsCommand_62 : decode mX7_readsCommand.2.1 62 = .ok (.aload_n 0, 1) := by decide +kernel
theorem d_X7_readsCommand_63 : decode mX7_readsCommand.2.1 63 = .ok (.invokevirtual 246, 3) := by decide +kernel
theorem d_X7_readsCommand_66 : decode mX7_readsCommand.2.1 66 = .ok (.bipush 109, 2) := by decide +kernel
theorem d_X7_readsCommand_68 : decode mX7_readsCommand.2.1 68 = .ok (.if_icmp .ne 7, 3) := by decide +kernel
theorem d_X7_readsCommand_71 : decode mX7_readsCommand.2.1 71 = .ok (.iconst 1, 1) := by decide +kernel
theorem d_X7_readsCommand_72 : decode mX7_readsCommand.2.1 72 = .ok (.goto 4, 3) := by decide +kernel
theorem d_X7_readsCommand_75 : decode mX7_readsCommand.2.1 75 = .ok (.iconst 0, 1) := by decide +kernel
theorem d_X7_readsCommand_76 : decode mX7_readsCommand.2.1 76 = .ok (.putfield 242, 3) := by decide +kernel
theorem d_X7_readsCommand_79 : decode mX7_readsCommand.2.1 79 = .ok (.aload_n 0, 1) := by decide +kernel
theorem d_X7_readsCommand_80 : decode mX7_readsCommand.2.1 80 = .ok (.dup, 1) := by decide +kernel
theorem d_X7_readsCommand_81 : decode mX7_readsCommand.2.1 81 = .ok (.getfield 236, 3) := by decide +kernel
theorem d_X7_readsCommand_84 : decode mX7_readsCommand.2.1 84 = .ok (.aload_n 0, 1) := by decide +kernel
theorem d_X7_readsCommand_85 : decode mX7_readsCommand.2.1 85 = .ok (.getfield 242, 3) := by decide +kernel
theorem d_X7_readsCommand_88 : decode mX7_readsCommand.2.1 88 = .ok (.ifCond .eq 7, 3) := by decide +kernel
theorem d_X7_readsCommand_91 : decode mX7_readsCommand.2.1 91 = .ok (.iconst 1, 1) := by decide +kernel
theorem d_X7_readsCommand_92 : decode mX7_readsCommand.2.1 92 = .ok (.goto 4, 3) := by decide +kernel
theorem d_X7_readsCommand_95 : decode mX7_readsCommand.2.1 95 = .ok (.iconst 0, 1) := by decide +kernel
theorem d_X7_readsCommand_96 : decode mX7_readsCommand.2.1 96 = .ok (.iadd, 1) := by decide +kernel
theorem d_X7_readsCommand_97 : decode mX7_readsCommand.2.1 97 = .ok (.putfield 236, 3) := by decide +kernel
theorem d_X7_readsCommand_100 : decode mX7_readsCommand.2.1 100 = .ok (.aload_n 0, 1) := by decide +kernel
theorem d_X7_readsCommand_101 : decode mX7_readsCommand.2.1 101 = .ok (.getfield 242, 3) := by decide +kernel
theorem d_X7_readsCommand_104 : decode mX7_readsCommand.2.1 104 = .ok (.ifCond .ne 4, 3) := by decide +kernel
theorem d_X7_readsCommand_107 : decode mX7_readsCommand.2.1 107 = .ok (.return_, 1) := by decide +kernel
theorem d_X7_readsCommand_108 : decode mX7_readsCommand.2.1 108 = .ok (.aload_n 0, 1) := by decide +kernel
theorem d_X7_readsCommand_109 : decode mX7_readsCommand.2.1 109 = .ok (.getfield 34, 3) := by decide +kernel
theorem d_X7_readsCommand_112 : decode mX7_readsCommand.2.1 112 = .ok (.iload_n 1, 1) := by decide +kernel
theorem d_X7_readsCommand_113 : decode mX7_readsCommand.2.1 113 = .ok (.aload_n 0, 1) := by decide +kernel
theorem d_X7_readsCommand_114 : decode mX7_readsCommand.2.1 114 = .ok (.getfield 31, 3) := by decide +kernel
theorem d_X7_readsCommand_117 : decode mX7_readsCommand.2.1 117 = .ok (.aload_n 0, 1) := by decide +kernel
theorem d_X7_readsCommand_118 : decode mX7_readsCommand.2.1 118 = .ok (.getfield 252, 3) := by decide +kernel
theorem d_X7_readsCommand_121 : decode mX7_readsCommand.2.1 121 = .ok (.iaload, 1) := by decide +kernel
theorem d_X7_readsCommand_122 : decode mX7_readsCommand.2.1 122 = .ok (.iconst 1, 1) := by decide +kernel
theorem d_X7_readsCommand_123 : decode mX7_readsCommand.2.1 123 = .ok (.if_icmp .ne 10, 3) := by decide +kernel
theorem d_X7_readsCommand_126 : decode mX7_readsCommand.2.1 126 = .ok (.aload_n 0, 1) := by decide +kernel
theorem d_X7_readsCommand_127 : decode mX7_readsCommand.2.1 127 = .ok (.invokevirtual 255, 3) := by decide +kernel
theorem d_X7_readsCommand_130 : decode mX7_readsCommand.2.1 130 = .ok (.goto 7, 3) := by decide +kernel
theorem d_X7_readsCommand_133 : decode mX7_readsCommand.2.1 133 = .ok (.aload_n 0, 1) := by decide +kernel
theorem d_X7_readsCommand_134 : decode mX7_readsCommand.2.1 134 = .ok (.invokevirtual 249, 3) := by decide +kernel
theorem d_X7_readsCommand_137 : decode mX7_readsCommand.2.1 137 = .ok (.iastore, 1) := by decide +kernel
theorem d_X7_readsCommand_138 : decode mX7_readsCommand.2.1 138 = .ok (.aload_n 0, 1) := by decide +kernel
theorem d_X7_readsCommand_139 : decode mX7_readsCommand.2.1 139 = .ok (.getfield 31, 3) := by decide +kernel
theorem d_X7_readsCommand_142 : decode mX7_readsCommand.2.1 142 = .ok (.aload_n 0, 1) := by decide +kernel
theorem d_X7_readsCommand_143 : decode mX7_readsCommand.2.1 143 = .ok (.getfield 252, 3) := by decide +kernel
theorem d_X7_readsCommand_146 : decode mX7_readsCommand.2.1 146 = .ok (.iaload, 1) := by decide +kernel
theorem d_X7_readsCommand_147 : decode mX7_readsCommand.2.1 147 = .ok (.iconst 2, 1) := by decide +kernel
theorem d_X7_readsCommand_148 : decode mX7_readsCommand.2.1 148 = .ok (.if_icmp .ne 21, 3) := by decide +kernel
theorem d_X7_readsCommand_151 : decode mX7_readsCommand.2.1 151 = .ok (.aload_n 0, 1) := by decide +kernel
theorem d_X7_readsCommand_152 : decode mX7_readsCommand.2.1 152 = .ok (.bipush 47, 2) := by decide +kernel
theorem d_X7_readsCommand_154 : decode mX7_readsCommand.2.1 154 = .ok (.invokevirtual 258, 3) := by decide +kernel
theorem d_X7_readsCommand_157 : decode mX7_readsCommand.2.1 157 = .ok (.aload_n 0, 1) := by decide +kernel
theorem d_X7_readsCommand_158 : decode mX7_readsCommand.2.1 158 = .ok (.getfield 34, 3) := by decide +kernel
theorem d_X7_readsCommand_161 : decode mX7_readsCommand.2.1 161 = .ok (.iload_n 1, 1) := by decide +kernel
theorem d_X7_readsCommand_162 : decode mX7_readsCommand.2.1 162 = .ok (.iconst 1, 1) := by decide +kernel
theorem d_X7_readsCommand_163 : decode mX7_readsCommand.2.1 163 = .ok (.iadd, 1) := by decide +kernel
theorem d_X7_readsCommand_164 : decode mX7_readsCommand.2.1 164 = .ok (.aload_n 0, 1) := by decide +kernel
theorem d_X7_readsCommand_165 : decode mX7_readsCommand.2.1 165 = .ok (.invokevirtual 249, 3) := by decide +kernel
theorem d_X7_readsCommand_168 : decode mX7_readsCommand.2.1 168 = .ok (.iastore, 1) := by decide +kernel
theorem d_X7_readsCommand_169 : decode mX7_readsCommand.2.1 169 = .ok (.aload_n 0, 1) := by decide +kernel
theorem d_X7_readsCommand_170 : decode mX7_readsCommand.2.1 170 = .ok (.getfield 31, 3) := by decide +kernel
theorem d_X7_readsCommand_173 : decode mX7_readsCommand.2.1 173 = .ok (.aload_n 0, 1) := by decide +kernel
theorem d_X7_readsCommand_174 : decode mX7_readsCommand.2.1 174 = .ok (.getfield 252, 3) := by decide +kernel
theorem d_X7_readsCommand_177 : decode mX7_readsCommand.2.1 177 = .ok (.iaload, 1) := by decide +kernel
theorem d_X7_readsCommand_178 : decode mX7_readsCommand.2.1 178 = .ok (.ifCond .ne 57, 3) := by decide +kernel
theorem d_X7_readsCommand_181 : decode mX7_readsCommand.2.1 181 = .ok (.aload_n 0, 1) := by decide +kernel
theorem d_X7_readsCommand_182 : decode mX7_readsCommand.2.1 182 = .ok (.bipush 58, 2) := by decide +kernel
theorem d_X7_readsCommand_184 : decode mX7_readsCommand.2.1 184 = .ok (.invokevirtual 258, 3) := by decide +kernel
theorem d_X7_readsCommand_187 : decode mX7_readsCommand.2.1 187 = .ok (.aload_n 0, 1) := by decide +kernel
theorem d_X7_readsCommand_188 : decode mX7_readsCommand.2.1 188 = .ok (.getfield 34, 3) := by decide +kernel
theorem d_X7_readsCommand_191 : decode mX7_readsCommand.2.1 191 = .ok (.iload_n 1, 1) := by decide +kernel
theorem d_X7_readsCommand_192 : decode mX7_readsCommand.2.1 192 = .ok (.iconst 1, 1) := by decide +kernel
theorem d_X7_readsCommand_193 : decode mX7_readsCommand.2.1 193 = .ok (.iadd, 1) := by decide +kernel
theorem d_X7_readsCommand_194 : decode mX7_readsCommand.2.1 194 = .ok (.aload_n 0, 1) := by decide +kernel
theorem d_X7_readsCommand_195 : decode mX7_readsCommand.2.1 195 = .ok (.invokevirtual 261, 3) := by decide +kernel
theorem d_X7_readsCommand_198 : decode mX7_readsCommand.2.1 198 = .ok (.iastore, 1) := by decide +kernel
theorem d_X7_readsCommand_199 : decode mX7_readsCommand.2.1 199 = .ok (.aload_n 0, 1) := by decide +kernel
theorem d_X7_readsCommand_200 : decode mX7_readsCommand.2.1 200 = .ok (.bipush 64, 2) := by decide +kernel
theorem d_X7_readsCommand_202 : decode mX7_readsCommand.2.1 202 = .ok (.invokevirtual 258, 3) := by decide +kernel
theorem d_X7_readsCommand_205 : decode mX7_readsCommand.2.1 205 = .ok (.aload_n 0, 1) := by decide +kernel
theorem d_X7_readsCommand_206 : decode mX7_readsCommand.2.1 206 = .ok (.getfield 34, 3) := by decide +kernel
theorem d_X7_readsCommand_209 : decode mX7_readsCommand.2.1 209 = .ok (.iload_n 1, 1) := by decide +kernel
theorem d_X7_readsCommand_210 : decode mX7_readsCommand.2.1 210 = .ok (.iconst 2, 1) := by decide +kernel
theorem d_X7_readsCommand_211 : decode mX7_readsCommand.2.1 211 = .ok (.iadd, 1) := by decide +kernel
theorem d_X7_readsCommand_212 : decode mX7_readsCommand.2.1 212 = .ok (.aload_n 0, 1) := by decide +kernel
theorem d_X7_readsCommand_213 : decode mX7_readsCommand.2.1 213 = .ok (.invokevirtual 255, 3) := by decide +kernel
theorem d_X7_readsCommand_216 : decode mX7_readsCommand.2.1 216 = .ok (.iastore, 1) := by decide +kernel
theorem d_X7_readsCommand_217 : decode mX7_readsCommand.2.1 217 = .ok (.aload_n 0, 1) := by decide +kernel
theorem d_X7_readsCommand_218 : decode mX7_readsCommand.2.1 218 = .ok (.bipush 46, 2) := by decide +kernel
theorem d_X7_readsCommand_220 : decode mX7_readsCommand.2.1 220 = .ok (.invokevirtual 258, 3) := by decide +kernel
theorem d_X7_readsCommand_223 : decode mX7_readsCommand.2.1 223 = .ok (.aload_n 0, 1) := by decide +kernel
theorem d_X7_readsCommand_224 : decode mX7_readsCommand.2.1 224 = .ok (.getfield 34, 3) := by decide +kernel
theorem d_X7_readsCommand_227 : decode mX7_readsCommand.2.1 227 = .ok (.iload_n 1, 1) := by decide +kernel
theorem d_X7_readsCommand_228 : decode mX7_readsCommand.2.1 228 = .ok (.iconst 3, 1) := by decide +kernel
theorem d_X7_readsCommand_229 : decode mX7_readsCommand.2.1 229 = .ok (.iadd, 1) := by decide +kernel
theorem d_X7_readsCommand_230 : decode mX7_readsCommand.2.1 230 = .ok (.aload_n 0, 1) := by decide +kernel
theorem d_X7_readsCommand_231 : decode mX7_readsCommand.2.1 231 = .ok (.invokevirtual 249, 3) := by decide +kernel
theorem d_X7_readsCommand_234 : decode mX7_readsCommand.2.1 234 = .ok (.iastore, 1) := by decide +kernel
theorem d_X7_readsCommand_235 : decode mX7_readsCommand.2.1 235 = .ok (.aload_n 0, 1) := by decide +kernel
theorem d_X7_readsCommand_236 : decode mX7_readsCommand.2.1 236 = .ok (.dup, 1) := by decide +kernel
theorem d_X7_readsCommand_237 : decode mX7_readsCommand.2.1 237 = .ok (.getfield 252, 3) := by decide +kernel
theorem d_X7_readsCommand_240 : decode mX7_readsCommand.2.1 240 = .ok (.iconst 1, 1) := by decide +kernel
theorem d_X7_readsCommand_241 : decode mX7_readsCommand.2.1 241 = .ok (.iadd, 1) := by decide +kernel
theorem d_X7_readsCommand_242 : decode mX7_readsCommand.2.1 242 = .ok (.putfield 252, 3) := by decide +kernel
theorem d_X7_readsCommand_245 : decode mX7_readsCommand.2.1 245 = .ok (.return_, 1) := by decide +kernel
def T_X7_readsCommand_235 (Q : Mem → Prop) (v0 : Nat) (M : Mem) : Prop := (kd v0 = 7) ∧ ∀ M2 : Mem, M2 = mset M v0 22 ((M.1 v0 22) + 1) → Q M2
set_option maxRecDepth 100000 in
set_option maxHeartbeats 4000000 in
theorem B_X7_readsCommand_235 {g : GG} (Q : Mem → Prop) (v0 : Nat) (M : Mem) (h : T_X7_readsCommand_235 Q v0 M) : WP g 12 mX7_readsCommand 235 [some (.ref (g.1 + v0)), none] [] M 0 (oV Q noX) := by
  unfold T_X7_readsCommand_235 at h
  refine R_aload_n (pc := 235) d_X7_readsCommand_235 rfl rfl ?_
  refine R_dup (pc := 236) d_X7_readsCommand_236 rfl ?_
  obtain ⟨k1, h⟩ := h
  refine R_getI (pc := 237) fld_RX7_252 rfl rfl k1 d_X7_readsCommand_237 ?_
  refine R_iconst (pc := 240) (v := 1) d_X7_readsCommand_240 (by decide) ?_
  refine R_iadd (pc := 241) d_X7_readsCommand_241 ?_
  refine R_putI (pc := 242) fld_RX7_252 rfl rfl rfl k1 rfl rfl d_X7_readsCommand_242 (N_M (fun M2 eM2 => ?_))
  have h := h M2 eM2
  exact R_ret (pc := 245) d_X7_readsCommand_245 h
def T_X7_readsCommand_169 (Q : Mem → Prop) (v0 : Nat) (v1 : Int32) (M : Mem) : Prop := (kd v0 = 7) ∧ (kd (rf v0 20) = 9) ∧ (vp_in (M.1 v0 22) (ln (rf v0 20))) ∧ if (M.1 (rf v0 20) (Int32.toNatClampNeg (M.1 v0 22))) = 0 then (T_X7_must (fun M4 => T_X7_letters (fun y6 M5 => (kd (rf v0 21) = 9) ∧ (vp_in (v1 + 1) (ln (rf v0 21))) ∧ ∀ M9 : Mem, M9 = mset M5 (rf v0 21) (Int32.toNatClampNeg (v1 + 1)) y6 → T_X7_must (fun M10 => T_X7_number (fun y12 M11 => (vp_in (v1 + 2) (ln (rf v0 21))) ∧ ∀ M14 : Mem, M14 = mset M11 (rf v0 21) (Int32.toNatClampNeg (v1 + 2)) y12 → T_X7_must (fun M15 => T_X7_digit (fun y17 M16 => (vp_in (v1 + 3) (ln (rf v0 21))) ∧ ∀ M19 : Mem, M19 = mset M16 (rf v0 21) (Int32.toNatClampNeg (v1 + 3)) y17 → T_X7_readsCommand_235 Q v0 M19)  v0 M15)  v0 46 M14)  v0 M10)  v0 64 M9)  v0 M4)  v0 58 M) else (T_X7_readsCommand_235 Q v0 M)
set_option maxRecDepth 100000 in
set_option maxHeartbeats 4000000 in
theorem B_X7_readsCommand_169 {g : GG} (Q : Mem → Prop) (v0 : Nat) (v1 : Int32) (M : Mem) (h : T_X7_readsCommand_169 Q v0 v1 M) : WP g 12 mX7_readsCommand 169 [some (.ref (g.1 + v0)), some (.int v1)] [] M 0 (oV Q noX) := by
  unfold T_X7_readsCommand_169 at h
  refine R_aload_n (pc := 169) d_X7_readsCommand_169 rfl rfl ?_
  obtain ⟨k1, h⟩ := h
  refine R_getR (pc := 170) fld_RX7_31 rfl rfl k1 d_X7_readsCommand_170 ?_
  refine R_aload_n (pc := 173) d_X7_readsCommand_173 rfl rfl ?_
  refine R_getI (pc := 174) fld_RX7_252 rfl rfl k1 d_X7_readsCommand_174 ?_
  obtain ⟨k2, h⟩ := h
  obtain ⟨k3, h⟩ := h
  refine R_iald (pc := 177) k2 k3 d_X7_readsCommand_177 ?_
  refine R_if_ne (pc := 178) (tgt := 235) d_X7_readsCommand_178 (by decide) (fun c => ?_) (fun c => ?_)
  · rw [if_neg c] at h
    exact WP_sub (B_X7_readsCommand_235 Q v0 M h) (by decide) (ls_s (ls_n ls_0))
  · rw [if_pos c] at h
    refine R_aload_n (pc := 181) d_X7_readsCommand_181 rfl rfl ?_
    refine R_bipush (pc := 182) (v := 58) d_X7_readsCommand_182 (by decide) ?_
    refine R_callV (pc := 184) (As := [.int 58]) (rest := []) (c_X7_must (g := g) v0 58 M _ h) rfl rfl cal_RX7_258 ins_X7_must sel_X7_must (cls_at k1 clsOK7) (by decide) (by decide) rfl rfl (Nat.le_of_ble_eq_true rfl) d_X7_readsCommand_184 (k_V (fun M4 h => ?_)) (fun _ _ h9 => False.elim h9)
    try dsimp only at h
    refine R_aload_n (pc := 187) d_X7_readsCommand_187 rfl rfl ?_
    refine R_getR (pc := 188) fld_RX7_34 rfl rfl k1 d_X7_readsCommand_188 ?_
    refine R_iload_n (pc := 191) d_X7_readsCommand_191 rfl rfl ?_
    refine R_iconst (pc := 192) (v := 1) d_X7_readsCommand_192 (by decide) ?_
    refine R_iadd (pc := 193) d_X7_readsCommand_193 ?_
    refine R_aload_n (pc := 194) d_X7_readsCommand_194 rfl rfl ?_
    refine R_callV (pc := 195) (As := []) (rest := [.int (v1 + 1), .ref (g.1 + (rf v0 21))]) (c_X7_letters (g := g) v0 M4 _ h) rfl rfl cal_RX7_261 ins_X7_letters sel_X7_letters (cls_at k1 clsOK7) (by decide) (by decide) rfl rfl (Nat.le_of_ble_eq_true rfl) d_X7_readsCommand_195 (k_I (fun y6 M5 h => ?_)) (fun _ _ h9 => False.elim h9)
    try dsimp only at h
    obtain ⟨k7, h⟩ := h
    obtain ⟨k8, h⟩ := h
    refine R_iast (pc := 198) k7 k8 d_X7_readsCommand_198 (N_M (fun M9 eM9 => ?_))
    have h := h M9 eM9
    refine R_aload_n (pc := 199) d_X7_readsCommand_199 rfl rfl ?_
    refine R_bipush (pc := 200) (v := 64) d_X7_readsCommand_200 (by decide) ?_
    refine R_callV (pc := 202) (As := [.int 64]) (rest := []) (c_X7_must (g := g) v0 64 M9 _ h) rfl rfl cal_RX7_258 ins_X7_must sel_X7_must (cls_at k1 clsOK7) (by decide) (by decide) rfl rfl (Nat.le_of_ble_eq_true rfl) d_X7_readsCommand_202 (k_V (fun M10 h => ?_)) (fun _ _ h9 => False.elim h9)
    try dsimp only at h
    refine R_aload_n (pc := 205) d_X7_readsCommand_205 rfl rfl ?_
    refine R_getR (pc := 206) fld_RX7_34 rfl rfl k1 d_X7_readsCommand_206 ?_
    refine R_iload_n (pc := 209) d_X7_readsCommand_209 rfl rfl ?_
    refine R_iconst (pc := 210) (v := 2) d_X7_readsCommand_210 (by decide) ?_
    refine R_iadd (pc := 211) d_X7_readsCommand_211 ?_
    refine R_aload_n (pc := 212) d_X7_readsCommand_212 rfl rfl ?_
    refine R_callV (pc := 213) (As := []) (rest := [.int (v1 + 2), .ref (g.1 + (rf v0 21))]) (c_X7_number (g := g) v0 M10 _ h) rfl rfl cal_RX7_255 ins_X7_number sel_X7_number (cls_at k1 clsOK7) (by decide) (by decide) rfl rfl (Nat.le_of_ble_eq_true rfl) d_X7_readsCommand_213 (k_I (fun y12 M11 h => ?_)) (fun _ _ h9 => False.elim h9)
    try dsimp only at h
    obtain ⟨k13, h⟩ := h
    refine R_iast (pc := 216) k7 k13 d_X7_readsCommand_216 (N_M (fun M14 eM14 => ?_))
    have h := h M14 eM14
    refine R_aload_n (pc := 217) d_X7_readsCommand_217 rfl rfl ?_
    refine R_bipush (pc := 218) (v := 46) d_X7_readsCommand_218 (by decide) ?_
    refine R_callV (pc := 220) (As := [.int 46]) (rest := []) (c_X7_must (g := g) v0 46 M14 _ h) rfl rfl cal_RX7_258 ins_X7_must sel_X7_must (cls_at k1 clsOK7) (by decide) (by decide) rfl rfl (Nat.le_of_ble_eq_true rfl) d_X7_readsCommand_220 (k_V (fun M15 h => ?_)) (fun _ _ h9 => False.elim h9)
    try dsimp only at h
    refine R_aload_n (pc := 223) d_X7_readsCommand_223 rfl rfl ?_
    refine R_getR (pc := 224) fld_RX7_34 rfl rfl k1 d_X7_readsCommand_224 ?_
    refine R_iload_n (pc := 227) d_X7_readsCommand_227 rfl rfl ?_
    refine R_iconst (pc := 228) (v := 3) d_X7_readsCommand_228 (by decide) ?_
    refine R_iadd (pc := 229) d_X7_readsCommand_229 ?_
    refine R_aload_n (pc := 230) d_X7_readsCommand_230 rfl rfl ?_
    refine R_callV (pc := 231) (As := []) (rest := [.int (v1 + 3), .ref (g.1 + (rf v0 21))]) (c_X7_digit (g := g) v0 M15 _ h) rfl rfl cal_RX7_249 ins_X7_digit sel_X7_digit (cls_at k1 clsOK7) (by decide) (by decide) rfl rfl (Nat.le_of_ble_eq_true rfl) d_X7_readsCommand_231 (k_I (fun y17 M16 h => ?_)) (fun _ _ h9 => False.elim h9)
    try dsimp only at h
    obtain ⟨k18, h⟩ := h
    refine R_iast (pc := 234) k7 k18 d_X7_readsCommand_234 (N_M (fun M19 eM19 => ?_))
    have h := h M19 eM19
    exact WP_sub (B_X7_readsCommand_235 Q v0 M19 h) (by decide) (ls_s (ls_n ls_0))
def T_X7_readsCommand_137 (Q : Mem → Prop) (v0 : Nat) (v1 : Int32) (s0 : Int32) (s1 : Int32) (s2 : Nat) (M : Mem) : Prop := (kd s2 = 9) ∧ (vp_in s1 (ln s2)) ∧ ∀ M3 : Mem, M3 = mset M s2 (Int32.toNatClampNeg s1) s0 → (kd v0 = 7) ∧ (kd (rf v0 20) = 9) ∧ (vp_in (M3.1 v0 22) (ln (rf v0 20))) ∧ if (M3.1 (rf v0 20) (Int32.toNatClampNeg (M3.1 v0 22))) = (2 : Int32) then (T_X7_must (fun M7 => T_X7_digit (fun y9 M8 => (kd (rf v0 21) = 9) ∧ (vp_in (v1 + 1) (ln (rf v0 21))) ∧ ∀ M12 : Mem, M12 = mset M8 (rf v0 21) (Int32.toNatClampNeg (v1 + 1)) y9 → T_X7_readsCommand_169 Q v0 v1 M12)  v0 M7)  v0 47 M3) else (T_X7_readsCommand_169 Q v0 v1 M3)
set_option maxRecDepth 100000 in
set_option maxHeartbeats 4000000 in
theorem B_X7_readsCommand_137 {g : GG} (Q : Mem → Prop) (v0 : Nat) (v1 : Int32) (s0 : Int32) (s1 : Int32) (s2 : Nat) (M : Mem) (h : T_X7_readsCommand_137 Q v0 v1 s0 s1 s2 M) : WP g 12 mX7_readsCommand 137 [some (.ref (g.1 + v0)), some (.int v1)] [.int s0, .int s1, .ref (g.1 + s2)] M 0 (oV Q noX) := by
  unfold T_X7_readsCommand_137 at h
  obtain ⟨k1, h⟩ := h
  obtain ⟨k2, h⟩ := h
  refine R_iast (pc := 137) k1 k2 d_X7_readsCommand_137 (N_M (fun M3 eM3 => ?_))
  have h := h M3 eM3
  refine R_aload_n (pc := 138) d_X7_readsCommand_138 rfl rfl ?_
  obtain ⟨k4, h⟩ := h
  refine R_getR (pc := 139) fld_RX7_31 rfl rfl k4 d_X7_readsCommand_139 ?_
  refine R_aload_n (pc := 142) d_X7_readsCommand_142 rfl rfl ?_
  refine R_getI (pc := 143) fld_RX7_252 rfl rfl k4 d_X7_readsCommand_143 ?_
  obtain ⟨k5, h⟩ := h
  obtain ⟨k6, h⟩ := h
  refine R_iald (pc := 146) k5 k6 d_X7_readsCommand_146 ?_
  refine R_iconst (pc := 147) (v := 2) d_X7_readsCommand_147 (by decide) ?_
  refine R_icmp_ne (pc := 148) (tgt := 169) d_X7_readsCommand_148 (by decide) (fun c => ?_) (fun c => ?_)
  · rw [if_neg c] at h
    exact WP_sub (B_X7_readsCommand_169 Q v0 v1 M3 h) (by decide) (ls_s (ls_s ls_0))
  · rw [if_pos c] at h
    refine R_aload_n (pc := 151) d_X7_readsCommand_151 rfl rfl ?_
    refine R_bipush (pc := 152) (v := 47) d_X7_readsCommand_152 (by decide) ?_
    refine R_callV (pc := 154) (As := [.int 47]) (rest := []) (c_X7_must (g := g) v0 47 M3 _ h) rfl rfl cal_RX7_258 ins_X7_must sel_X7_must (cls_at k4 clsOK7) (by decide) (by decide) rfl rfl (Nat.le_of_ble_eq_true rfl) d_X7_readsCommand_154 (k_V (fun M7 h => ?_)) (fun _ _ h9 => False.elim h9)
    try dsimp only at h
    refine R_aload_n (pc := 157) d_X7_readsCommand_157 rfl rfl ?_
    refine R_getR (pc := 158) fld_RX7_34 rfl rfl k4 d_X7_readsCommand_158 ?_
    refine R_iload_n (pc := 161) d_X7_readsCommand_161 rfl rfl ?_
    refine R_iconst (pc := 162) (v := 1) d_X7_readsCommand_162 (by decide) ?_
    refine R_iadd (pc := 163) d_X7_readsCommand_163 ?_
    refine R_aload_n (pc := 164) d_X7_readsCommand_164 rfl rfl ?_
    refine R_callV (pc := 165) (As := []) (rest := [.int (v1 + 1), .ref (g.1 + (rf v0 21))]) (c_X7_digit (g := g) v0 M7 _ h) rfl rfl cal_RX7_249 ins_X7_digit sel_X7_digit (cls_at k4 clsOK7) (by decide) (by decide) rfl rfl (Nat.le_of_ble_eq_true rfl) d_X7_readsCommand_165 (k_I (fun y9 M8 h => ?_)) (fun _ _ h9 => False.elim h9)
    try dsimp only at h
    obtain ⟨k10, h⟩ := h
    obtain ⟨k11, h⟩ := h
    refine R_iast (pc := 168) k10 k11 d_X7_readsCommand_168 (N_M (fun M12 eM12 => ?_))
    have h := h M12 eM12
    exact WP_sub (B_X7_readsCommand_169 Q v0 v1 M12 h) (by decide) (ls_s (ls_s ls_0))
def T_X7_readsCommand_96 (Q : Mem → Prop) (v0 : Nat) (v1 : Int32) (s0 : Int32) (s1 : Int32) (s2 : Nat) (M : Mem) : Prop := (kd s2 = 7) ∧ ∀ M2 : Mem, M2 = mset M s2 17 (s1 + s0) → (kd v0 = 7) ∧ if (M2.1 v0 19) = 0 then (Q M2) else ((kd (rf v0 20) = 9) ∧ (vp_in (M2.1 v0 22) (ln (rf v0 20))) ∧ if (M2.1 (rf v0 20) (Int32.toNatClampNeg (M2.1 v0 22))) = (1 : Int32) then (T_X7_number (fun y9 M8 => T_X7_readsCommand_137 Q v0 v1 y9 v1 (rf v0 21) M8)  v0 M2) else (T_X7_digit (fun y7 M6 => T_X7_readsCommand_137 Q v0 v1 y7 v1 (rf v0 21) M6)  v0 M2))
set_option maxRecDepth 100000 in
set_option maxHeartbeats 4000000 in
theorem B_X7_readsCommand_96 {g : GG} (Q : Mem → Prop) (v0 : Nat) (v1 : Int32) (s0 : Int32) (s1 : Int32) (s2 : Nat) (M : Mem) (h : T_X7_readsCommand_96 Q v0 v1 s0 s1 s2 M) : WP g 12 mX7_readsCommand 96 [some (.ref (g.1 + v0)), some (.int v1)] [.int s0, .int s1, .ref (g.1 + s2)] M 0 (oV Q noX) := by
  unfold T_X7_readsCommand_96 at h
  refine R_iadd (pc := 96) d_X7_readsCommand_96 ?_
  obtain ⟨k1, h⟩ := h
  refine R_putI (pc := 97) fld_RX7_236 rfl rfl rfl k1 rfl rfl d_X7_readsCommand_97 (N_M (fun M2 eM2 => ?_))
  have h := h M2 eM2
  refine R_aload_n (pc := 100) d_X7_readsCommand_100 rfl rfl ?_
  obtain ⟨k3, h⟩ := h
  refine R_getI (pc := 101) fld_RX7_242 rfl rfl k3 d_X7_readsCommand_101 ?_
  refine R_if_ne (pc := 104) (tgt := 108) d_X7_readsCommand_104 (by decide) (fun c => ?_) (fun c => ?_)
  · rw [if_neg c] at h
    refine R_aload_n (pc := 108) d_X7_readsCommand_108 rfl rfl ?_
    refine R_getR (pc := 109) fld_RX7_34 rfl rfl k3 d_X7_readsCommand_109 ?_
    refine R_iload_n (pc := 112) d_X7_readsCommand_112 rfl rfl ?_
    refine R_aload_n (pc := 113) d_X7_readsCommand_113 rfl rfl ?_
    refine R_getR (pc := 114) fld_RX7_31 rfl rfl k3 d_X7_readsCommand_114 ?_
    refine R_aload_n (pc := 117) d_X7_readsCommand_117 rfl rfl ?_
    refine R_getI (pc := 118) fld_RX7_252 rfl rfl k3 d_X7_readsCommand_118 ?_
    obtain ⟨k4, h⟩ := h
    obtain ⟨k5, h⟩ := h
    refine R_iald (pc := 121) k4 k5 d_X7_readsCommand_121 ?_
    refine R_iconst (pc := 122) (v := 1) d_X7_readsCommand_122 (by decide) ?_
    refine R_icmp_ne (pc := 123) (tgt := 133) d_X7_readsCommand_123 (by decide) (fun c => ?_) (fun c => ?_)
    · rw [if_neg c] at h
      refine R_aload_n (pc := 133) d_X7_readsCommand_133 rfl rfl ?_
      refine R_callV (pc := 134) (As := []) (rest := [.int v1, .ref (g.1 + (rf v0 21))]) (c_X7_digit (g := g) v0 M2 _ h) rfl rfl cal_RX7_249 ins_X7_digit sel_X7_digit (cls_at k3 clsOK7) (by decide) (by decide) rfl rfl (Nat.le_of_ble_eq_true rfl) d_X7_readsCommand_134 (k_I (fun y7 M6 h => ?_)) (fun _ _ h9 => False.elim h9)
      try dsimp only at h
      exact WP_sub (B_X7_readsCommand_137 Q v0 v1 y7 v1 (rf v0 21) M6 h) (by decide) (ls_s (ls_s ls_0))
    · rw [if_pos c] at h
      refine R_aload_n (pc := 126) d_X7_readsCommand_126 rfl rfl ?_
      refine R_callV (pc := 127) (As := []) (rest := [.int v1, .ref (g.1 + (rf v0 21))]) (c_X7_number (g := g) v0 M2 _ h) rfl rfl cal_RX7_255 ins_X7_number sel_X7_number (cls_at k3 clsOK7) (by decide) (by decide) rfl rfl (Nat.le_of_ble_eq_true rfl) d_X7_readsCommand_127 (k_I (fun y9 M8 h => ?_)) (fun _ _ h9 => False.elim h9)
      try dsimp only at h
      refine R_goto (pc := 130) (tgt := 137) d_X7_readsCommand_130 (by decide) ?_
      exact WP_sub (B_X7_readsCommand_137 Q v0 v1 y9 v1 (rf v0 21) M8 h) (by decide) (ls_s (ls_s ls_0))
  · rw [if_pos c] at h
    exact R_ret (pc := 107) d_X7_readsCommand_107 h
def T_X7_readsCommand_76 (Q : Mem → Prop) (v0 : Nat) (v1 : Int32) (s0 : Int32) (s1 : Nat) (M : Mem) : Prop := (kd s1 = 7) ∧ (s0 = 0 ∨ s0 = 1) ∧ ∀ M3 : Mem, M3 = mset M s1 19 s0 → (kd v0 = 7) ∧ if (M3.1 v0 19) = 0 then (T_X7_readsCommand_96 Q v0 v1 0 (M3.1 v0 17) v0 M3) else (T_X7_readsCommand_96 Q v0 v1 1 (M3.1 v0 17) v0 M3)
set_option maxRecDepth 100000 in
set_option maxHeartbeats 4000000 in
theorem B_X7_readsCommand_76 {g : GG} (Q : Mem → Prop) (v0 : Nat) (v1 : Int32) (s0 : Int32) (s1 : Nat) (M : Mem) (h : T_X7_readsCommand_76 Q v0 v1 s0 s1 M) : WP g 12 mX7_readsCommand 76 [some (.ref (g.1 + v0)), some (.int v1)] [.int s0, .ref (g.1 + s1)] M 0 (oV Q noX) := by
  unfold T_X7_readsCommand_76 at h
  obtain ⟨k1, h⟩ := h
  obtain ⟨k2, h⟩ := h
  refine R_putI (pc := 76) fld_RX7_242 rfl rfl rfl k1 (nar_z k2) (fit_z k2) d_X7_readsCommand_76 (N_M (fun M3 eM3 => ?_))
  have h := h M3 eM3
  refine R_aload_n (pc := 79) d_X7_readsCommand_79 rfl rfl ?_
  refine R_dup (pc := 80) d_X7_readsCommand_80 rfl ?_
  obtain ⟨k4, h⟩ := h
  refine R_getI (pc := 81) fld_RX7_236 rfl rfl k4 d_X7_readsCommand_81 ?_
  refine R_aload_n (pc := 84) d_X7_readsCommand_84 rfl rfl ?_
  refine R_getI (pc := 85) fld_RX7_242 rfl rfl k4 d_X7_readsCommand_85 ?_
  refine R_if_eq (pc := 88) (tgt := 95) d_X7_readsCommand_88 (by decide) (fun c => ?_) (fun c => ?_)
  · rw [if_pos c] at h
    refine R_iconst (pc := 95) (v := 0) d_X7_readsCommand_95 (by decide) ?_
    exact WP_sub (B_X7_readsCommand_96 Q v0 v1 0 (M3.1 v0 17) v0 M3 h) (by decide) (ls_s (ls_s ls_0))
  · rw [if_neg c] at h
    refine R_iconst (pc := 91) (v := 1) d_X7_readsCommand_91 (by decide) ?_
    refine R_goto (pc := 92) (tgt := 96) d_X7_readsCommand_92 (by decide) ?_
    exact WP_sub (B_X7_readsCommand_96 Q v0 v1 1 (M3.1 v0 17) v0 M3 h) (by decide) (ls_s (ls_s ls_0))
def T_X7_readsCommand_71 (Q : Mem → Prop) (v0 : Nat) (v1 : Int32) (s0 : Nat) (M : Mem) : Prop := T_X7_readsCommand_76 Q v0 v1 1 s0 M
set_option maxRecDepth 100000 in
set_option maxHeartbeats 4000000 in
theorem B_X7_readsCommand_71 {g : GG} (Q : Mem → Prop) (v0 : Nat) (v1 : Int32) (s0 : Nat) (M : Mem) (h : T_X7_readsCommand_71 Q v0 v1 s0 M) : WP g 12 mX7_readsCommand 71 [some (.ref (g.1 + v0)), some (.int v1)] [.ref (g.1 + s0)] M 0 (oV Q noX) := by
  unfold T_X7_readsCommand_71 at h
  refine R_iconst (pc := 71) (v := 1) d_X7_readsCommand_71 (by decide) ?_
  refine R_goto (pc := 72) (tgt := 76) d_X7_readsCommand_72 (by decide) ?_
  exact WP_sub (B_X7_readsCommand_76 Q v0 v1 1 s0 M h) (by decide) (ls_s (ls_s ls_0))
def T_X7_readsCommand_42 (Q : Mem → Prop) (v0 : Nat) (v1 : Int32) (s0 : Int32) (s1 : Int32) (s2 : Nat) (M : Mem) : Prop := (kd s2 = 9) ∧ (vp_in s1 (ln s2)) ∧ ∀ M3 : Mem, M3 = mset M s2 (Int32.toNatClampNeg s1) s0 → (kd v0 = 7) ∧ T_X7_here (fun y6 M5 => if y6 = (98 : Int32) then (T_X7_readsCommand_71 Q v0 v1 v0 M5) else (T_X7_here (fun y8 M7 => if y8 = (120 : Int32) then (T_X7_readsCommand_71 Q v0 v1 v0 M7) else (T_X7_here (fun y10 M9 => if y10 = (109 : Int32) then (T_X7_readsCommand_71 Q v0 v1 v0 M9) else (T_X7_readsCommand_76 Q v0 v1 0 v0 M9))  v0 M7))  v0 M5))  v0 M3
set_option maxRecDepth 100000 in
set_option maxHeartbeats 4000000 in
theorem B_X7_readsCommand_42 {g : GG} (Q : Mem → Prop) (v0 : Nat) (v1 : Int32) (s0 : Int32) (s1 : Int32) (s2 : Nat) (M : Mem) (h : T_X7_readsCommand_42 Q v0 v1 s0 s1 s2 M) : WP g 12 mX7_readsCommand 42 [some (.ref (g.1 + v0)), some (.int v1)] [.int s0, .int s1, .ref (g.1 + s2)] M 0 (oV Q noX) := by
  unfold T_X7_readsCommand_42 at h
  obtain ⟨k1, h⟩ := h
  obtain ⟨k2, h⟩ := h
  refine R_iast (pc := 42) k1 k2 d_X7_readsCommand_42 (N_M (fun M3 eM3 => ?_))
  have h := h M3 eM3
  refine R_aload_n (pc := 43) d_X7_readsCommand_43 rfl rfl ?_
  refine R_aload_n (pc := 44) d_X7_readsCommand_44 rfl rfl ?_
  obtain ⟨k4, h⟩ := h
  refine R_callV (pc := 45) (As := []) (rest := [.ref (g.1 + v0)]) (c_X7_here (g := g) v0 M3 _ h) rfl rfl cal_RX7_246 ins_X7_here sel_X7_here (cls_at k4 clsOK7) (by decide) (by decide) rfl rfl (Nat.le_of_ble_eq_true rfl) d_X7_readsCommand_45 (k_I (fun y6 M5 h => ?_)) (fun _ _ h9 => False.elim h9)
  try dsimp only at h
  refine R_bipush (pc := 48) (v := 98) d_X7_readsCommand_48 (by decide) ?_
  refine R_icmp_eq (pc := 50) (tgt := 71) d_X7_readsCommand_50 (by decide) (fun c => ?_) (fun c => ?_)
  · rw [if_pos c] at h
    exact WP_sub (B_X7_readsCommand_71 Q v0 v1 v0 M5 h) (by decide) (ls_s (ls_s ls_0))
  · rw [if_neg c] at h
    refine R_aload_n (pc := 53) d_X7_readsCommand_53 rfl rfl ?_
    refine R_callV (pc := 54) (As := []) (rest := [.ref (g.1 + v0)]) (c_X7_here (g := g) v0 M5 _ h) rfl rfl cal_RX7_246 ins_X7_here sel_X7_here (cls_at k4 clsOK7) (by decide) (by decide) rfl rfl (Nat.le_of_ble_eq_true rfl) d_X7_readsCommand_54 (k_I (fun y8 M7 h => ?_)) (fun _ _ h9 => False.elim h9)
    try dsimp only at h
    refine R_bipush (pc := 57) (v := 120) d_X7_readsCommand_57 (by decide) ?_
    refine R_icmp_eq (pc := 59) (tgt := 71) d_X7_readsCommand_59 (by decide) (fun c => ?_) (fun c => ?_)
    · rw [if_pos c] at h
      exact WP_sub (B_X7_readsCommand_71 Q v0 v1 v0 M7 h) (by decide) (ls_s (ls_s ls_0))
    · rw [if_neg c] at h
      refine R_aload_n (pc := 62) d_X7_readsCommand_62 rfl rfl ?_
      refine R_callV (pc := 63) (As := []) (rest := [.ref (g.1 + v0)]) (c_X7_here (g := g) v0 M7 _ h) rfl rfl cal_RX7_246 ins_X7_here sel_X7_here (cls_at k4 clsOK7) (by decide) (by decide) rfl rfl (Nat.le_of_ble_eq_true rfl) d_X7_readsCommand_63 (k_I (fun y10 M9 h => ?_)) (fun _ _ h9 => False.elim h9)
      try dsimp only at h
      refine R_bipush (pc := 66) (v := 109) d_X7_readsCommand_66 (by decide) ?_
      refine R_icmp_ne (pc := 68) (tgt := 75) d_X7_readsCommand_68 (by decide) (fun c => ?_) (fun c => ?_)
      · rw [if_neg c] at h
        refine R_iconst (pc := 75) (v := 0) d_X7_readsCommand_75 (by decide) ?_
        exact WP_sub (B_X7_readsCommand_76 Q v0 v1 0 v0 M9 h) (by decide) (ls_s (ls_s ls_0))
      · rw [if_pos c] at h
        exact WP_sub (B_X7_readsCommand_71 Q v0 v1 v0 M9 h) (by decide) (ls_s (ls_s ls_0))
def T_X7_readsCommand (Q : Mem → Prop) (v0 : Nat) (M : Mem) : Prop := (kd v0 = 7) ∧ ∀ x2 : Int32, x2 = 4 * (M.1 v0 22) → T_X7_here (fun y4 M3 => if y4 = (98 : Int32) then (T_X7_readsCommand_42 Q v0 x2 0 (M.1 v0 22) (rf v0 20) M3) else (T_X7_here (fun y6 M5 => if y6 = (120 : Int32) then (T_X7_readsCommand_42 Q v0 x2 1 (M.1 v0 22) (rf v0 20) M5) else (T_X7_readsCommand_42 Q v0 x2 2 (M.1 v0 22) (rf v0 20) M5))  v0 M3))  v0 M
set_option maxRecDepth 100000 in
set_option maxHeartbeats 4000000 in
theorem c_X7_readsCommand {g : GG} (v0 : Nat) (M : Mem) (Q : Mem → Prop) (h : T_X7_readsCommand Q v0 M) : CT g 12 mX7_readsCommand [.ref (g.1 + v0)] M 0 (oV Q noX) := by
  refine CT_of (L := [some (.ref (g.1 + v0)), none]) (by decide) rfl (Nat.le_of_ble_eq_true rfl) (ro_V rfl) rfl ?_
  unfold T_X7_readsCommand at h
  refine R_iconst (pc := 0) (v := 4) d_X7_readsCommand_0 (by decide) ?_
  refine R_aload_n (pc := 1) d_X7_readsCommand_1 rfl rfl ?_
  obtain ⟨k1, h⟩ := h
  refine R_getI (pc := 2) fld_RX7_252 rfl rfl k1 d_X7_readsCommand_2 ?_
  refine R_imul (pc := 5) d_X7_readsCommand_5 ?_
  refine N_i (fun x2 ex2 => ?_)
  have h := h x2 ex2
  refine R_istore_n (pc := 6) (L' := [some (.ref (g.1 + v0)), some (.int x2)]) d_X7_readsCommand_6 rfl (by decide) rfl ?_
  refine R_aload_n (pc := 7) d_X7_readsCommand_7 rfl rfl ?_
  refine R_getR (pc := 8) fld_RX7_31 rfl rfl k1 d_X7_readsCommand_8 ?_
  refine R_aload_n (pc := 11) d_X7_readsCommand_11 rfl rfl ?_
  refine R_getI (pc := 12) fld_RX7_252 rfl rfl k1 d_X7_readsCommand_12 ?_
  refine R_aload_n (pc := 15) d_X7_readsCommand_15 rfl rfl ?_
  refine R_callV (pc := 16) (As := []) (rest := [.int (M.1 v0 22), .ref (g.1 + (rf v0 20))]) (c_X7_here (g := g) v0 M _ h) rfl rfl cal_RX7_246 ins_X7_here sel_X7_here (cls_at k1 clsOK7) (by decide) (by decide) rfl rfl (Nat.le_of_ble_eq_true rfl) d_X7_readsCommand_16 (k_I (fun y4 M3 h => ?_)) (fun _ _ h9 => False.elim h9)
  try dsimp only at h
  refine R_bipush (pc := 19) (v := 98) d_X7_readsCommand_19 (by decide) ?_
  refine R_icmp_ne (pc := 21) (tgt := 28) d_X7_readsCommand_21 (by decide) (fun c => ?_) (fun c => ?_)
  · rw [if_neg c] at h
    refine R_aload_n (pc := 28) d_X7_readsCommand_28 rfl rfl ?_
    refine R_callV (pc := 29) (As := []) (rest := [.int (M.1 v0 22), .ref (g.1 + (rf v0 20))]) (c_X7_here (g := g) v0 M3 _ h) rfl rfl cal_RX7_246 ins_X7_here sel_X7_here (cls_at k1 clsOK7) (by decide) (by decide) rfl rfl (Nat.le_of_ble_eq_true rfl) d_X7_readsCommand_29 (k_I (fun y6 M5 h => ?_)) (fun _ _ h9 => False.elim h9)
    try dsimp only at h
    refine R_bipush (pc := 32) (v := 120) d_X7_readsCommand_32 (by decide) ?_
    refine R_icmp_ne (pc := 34) (tgt := 41) d_X7_readsCommand_34 (by decide) (fun c => ?_) (fun c => ?_)
    · rw [if_neg c] at h
      refine R_iconst (pc := 41) (v := 2) d_X7_readsCommand_41 (by decide) ?_
      exact WP_sub (B_X7_readsCommand_42 Q v0 x2 2 (M.1 v0 22) (rf v0 20) M5 h) (by decide) (ls_s (ls_s ls_0))
    · rw [if_pos c] at h
      refine R_iconst (pc := 37) (v := 1) d_X7_readsCommand_37 (by decide) ?_
      refine R_goto (pc := 38) (tgt := 42) d_X7_readsCommand_38 (by decide) ?_
      exact WP_sub (B_X7_readsCommand_42 Q v0 x2 1 (M.1 v0 22) (rf v0 20) M5 h) (by decide) (ls_s (ls_s ls_0))
  · rw [if_pos c] at h
    refine R_iconst (pc := 24) (v := 0) d_X7_readsCommand_24 (by decide) ?_
    refine R_goto (pc := 25) (tgt := 42) d_X7_readsCommand_25 (by decide) ?_
    exact WP_sub (B_X7_readsCommand_42 Q v0 x2 0 (M.1 v0 22) (rf v0 20) M3 h) (by decide) (ls_s (ls_s ls_0))
/-! X7_readsText -/
theorem d_X7_readsText_0 : decode mX7_readsText.2.1 0 = .ok (.aload_n 0, 1) := by decide +kernel
theorem d_X7_readsText_1 : decode mX7_readsText.2.1 1 = .ok (.aload_n 0, 1) := by decide +kernel
theorem d_X7_readsText_2 : decode mX7_readsText.2.1 2 = .ok (.getfield 233, 3) := by decide +kernel
theorem d_X7_readsText_5 : decode mX7_readsText.2.1 5 = .ok (.putfield 239, 3) := by decide +kernel
theorem d_X7_readsText_8 : decode mX7_readsText.2.1 8 = .ok (.aload_n 0, 1) := by decide +kernel
theorem d_X7_readsText_9 : decode mX7_readsText.2.1 9 = .ok (.iconst 0, 1) := by decide +kernel
theorem d_X7_readsText_10 : decode mX7_readsText.2.1 10 = .ok (.putfield 236, 3) := by decide +kernel
theorem d_X7_readsText_13 : decode mX7_readsText.2.1 13 = .ok (.aload_n 0, 1) := by decide +kernel
theorem d_X7_readsText_14 : decode mX7_readsText.2.1 14 = .ok (.iconst 0, 1) := by decide +kernel
theorem d_X7_readsText_15 : decode mX7_readsText.2.1 15 = .ok (.putfield 252, 3) := by decide +kernel
theorem d_X7_readsText_18 : decode mX7_readsText.2.1 18 = .ok (.aload_n 0, 1) := by decide +kernel
theorem d_X7_readsText_19 : decode mX7_readsText.2.1 19 = .ok (.iconst 1, 1) := by decide +kernel
theorem d_X7_readsText_20 : decode mX7_readsText.2.1 20 = .ok (.putfield 242, 3) := by decide +kernel
theorem d_X7_readsText_23 : decode mX7_readsText.2.1 23 = .ok (.aload_n 0, 1) := by decide +kernel
theorem d_X7_readsText_24 : decode mX7_readsText.2.1 24 = .ok (.invokevirtual 264, 3) := by decide +kernel
theorem d_X7_readsText_27 : decode mX7_readsText.2.1 27 = .ok (.aload_n 0, 1) := by decide +kernel
theorem d_X7_readsText_28 : decode mX7_readsText.2.1 28 = .ok (.getfield 242, 3) := by decide +kernel
theorem d_X7_readsText_31 : decode mX7_readsText.2.1 31 = .ok (.ifCond .eq 34, 3) := by decide +kernel
theorem d_X7_readsText_34 : decode mX7_readsText.2.1 34 = .ok (.aload_n 0, 1) := by decide +kernel
theorem d_X7_readsText_35 : decode mX7_readsText.2.1 35 = .ok (.getfield 236, 3) := by decide +kernel
theorem d_X7_readsText_38 : decode mX7_readsText.2.1 38 = .ok (.aload_n 0, 1) := by decide +kernel
theorem d_X7_readsText_39 : decode mX7_readsText.2.1 39 = .ok (.getfield 239, 3) := by decide +kernel
theorem d_X7_readsText_42 : decode mX7_readsText.2.1 42 = .ok (.if_icmp .ge 23, 3) := by decide +kernel
theorem d_X7_readsText_45 : decode mX7_readsText.2.1 45 = .ok (.aload_n 0, 1) := by decide +kernel
theorem d_X7_readsText_46 : decode mX7_readsText.2.1 46 = .ok (.bipush 59, 2) := by decide +kernel
theorem d_X7_readsText_48 : decode mX7_readsText.2.1 48 = .ok (.invokevirtual 258, 3) := by decide +kernel
theorem d_X7_readsText_51 : decode mX7_readsText.2.1 51 = .ok (.aload_n 0, 1) := by decide +kernel
theorem d_X7_readsText_52 : decode mX7_readsText.2.1 52 = .ok (.getfield 242, 3) := by decide +kernel
theorem d_X7_readsText_55 : decode mX7_readsText.2.1 55 = .ok (.ifCond .eq (-28), 3) := by decide +kernel
theorem d_X7_readsText_58 : decode mX7_readsText.2.1 58 = .ok (.aload_n 0, 1) := by decide +kernel
theorem d_X7_readsText_59 : decode mX7_readsText.2.1 59 = .ok (.invokevirtual 264, 3) := by decide +kernel
theorem d_X7_readsText_62 : decode mX7_readsText.2.1 62 = .ok (.goto (-35), 3) := by decide +kernel
theorem d_X7_readsText_65 : decode mX7_readsText.2.1 65 = .ok (.aload_n 0, 1) := by decide +kernel
theorem d_X7_readsText_66 : decode mX7_readsText.2.1 66 = .ok (.getfield 242, 3) := by decide +kernel
theorem d_X7_readsText_69 : decode mX7_readsText.2.1 69 = .ok (.ifCond .eq 7, 3) := by decide +kernel
theorem d_X7_readsText_72 : decode mX7_readsText.2.1 72 = .ok (.iconst (-1), 1) := by decide +kernel
theorem d_X7_readsText_73 : decode mX7_readsText.2.1 73 = .ok (.goto 7, 3) := by decide +kernel
theorem d_X7_readsText_76 : decode mX7_readsText.2.1 76 = .ok (.aload_n 0, 1) := by decide +kernel
theorem d_X7_readsText_77 : decode mX7_readsText.2.1 77 = .ok (.getfield 236, 3) := by decide +kernel
theorem d_X7_readsText_80 : decode mX7_readsText.2.1 80 = .ok (.ireturn, 1) := by decide +kernel
def T_X7_readsText_80 (Q : Int32 → Mem → Prop) (s0 : Int32) (M : Mem) : Prop := Q s0 M
set_option maxRecDepth 100000 in
set_option maxHeartbeats 4000000 in
theorem B_X7_readsText_80 {g : GG} (Q : Int32 → Mem → Prop) (s0 : Int32) (M : Mem) (h : T_X7_readsText_80 Q s0 M) : WP g 13 mX7_readsText 80 [none] [.int s0] M 0 (oI Q noX) := by
  unfold T_X7_readsText_80 at h
  exact R_retv (pc := 80) d_X7_readsText_80 h
def T_X7_readsText_65 (Q : Int32 → Mem → Prop) (v0 : Nat) (M : Mem) : Prop := (kd v0 = 7) ∧ if (M.1 v0 19) = 0 then (T_X7_readsText_80 Q (M.1 v0 17) M) else (T_X7_readsText_80 Q (-1) M)
set_option maxRecDepth 100000 in
set_option maxHeartbeats 4000000 in
theorem B_X7_readsText_65 {g : GG} (Q : Int32 → Mem → Prop) (v0 : Nat) (M : Mem) (h : T_X7_readsText_65 Q v0 M) : WP g 13 mX7_readsText 65 [some (.ref (g.1 + v0))] [] M 0 (oI Q noX) := by
  unfold T_X7_readsText_65 at h
  refine R_aload_n (pc := 65) d_X7_readsText_65 rfl rfl ?_
  obtain ⟨k1, h⟩ := h
  refine R_getI (pc := 66) fld_RX7_242 rfl rfl k1 d_X7_readsText_66 ?_
  refine R_if_eq (pc := 69) (tgt := 76) d_X7_readsText_69 (by decide) (fun c => ?_) (fun c => ?_)
  · rw [if_pos c] at h
    refine R_aload_n (pc := 76) d_X7_readsText_76 rfl rfl ?_
    refine R_getI (pc := 77) fld_RX7_236 rfl rfl k1 d_X7_readsText_77 ?_
    exact WP_sub (B_X7_readsText_80 Q (M.1 v0 17) M h) (by decide) (ls_n ls_0)
  · rw [if_neg c] at h
    refine R_iconst (pc := 72) (v := (-1)) d_X7_readsText_72 (by decide) ?_
    refine R_goto (pc := 73) (tgt := 80) d_X7_readsText_73 (by decide) ?_
    exact WP_sub (B_X7_readsText_80 Q (-1) M h) (by decide) (ls_n ls_0)
def T_X7_readsText_27 (Q : Int32 → Mem → Prop) : Nat → Nat → Mem → Prop
  | 0, _, _ => False
  | n + 1, v0, M => (kd v0 = 7) ∧ if (M.1 v0 19) = 0 then (T_X7_readsText_65 Q v0 M) else (if (M.1 v0 18) ≤ (M.1 v0 17) then (T_X7_readsText_65 Q v0 M) else (T_X7_must (fun M2 => if (M2.1 v0 19) = 0 then ((T_X7_readsText_27 Q n) v0 M2) else (T_X7_readsCommand (fun M3 => (T_X7_readsText_27 Q n) v0 M3)  v0 M2))  v0 59 M))
set_option maxRecDepth 100000 in
set_option maxHeartbeats 4000000 in
theorem B_X7_readsText_27 {g : GG} (Q : Int32 → Mem → Prop) : ∀ (n : Nat) (v0 : Nat) (M : Mem), T_X7_readsText_27 Q n v0 M → WP g 13 mX7_readsText 27 [some (.ref (g.1 + v0))] [] M 0 (oI Q noX) := by
  intro n
  induction n with
  | zero => intro v0 M h; exact h.elim
  | succ n hκ27 =>
    intro v0 M h
    unfold T_X7_readsText_27 at h
    refine R_aload_n (pc := 27) d_X7_readsText_27 rfl rfl ?_
    obtain ⟨k1, h⟩ := h
    refine R_getI (pc := 28) fld_RX7_242 rfl rfl k1 d_X7_readsText_28 ?_
    refine R_if_eq (pc := 31) (tgt := 65) d_X7_readsText_31 (by decide) (fun c => ?_) (fun c => ?_)
    · rw [if_pos c] at h
      exact WP_sub (B_X7_readsText_65 Q v0 M h) (by decide) (ls_s ls_0)
    · rw [if_neg c] at h
      refine R_aload_n (pc := 34) d_X7_readsText_34 rfl rfl ?_
      refine R_getI (pc := 35) fld_RX7_236 rfl rfl k1 d_X7_readsText_35 ?_
      refine R_aload_n (pc := 38) d_X7_readsText_38 rfl rfl ?_
      refine R_getI (pc := 39) fld_RX7_239 rfl rfl k1 d_X7_readsText_39 ?_
      refine R_icmp_ge (pc := 42) (tgt := 65) d_X7_readsText_42 (by decide) (fun c => ?_) (fun c => ?_)
      · rw [if_pos c] at h
        exact WP_sub (B_X7_readsText_65 Q v0 M h) (by decide) (ls_s ls_0)
      · rw [if_neg c] at h
        refine R_aload_n (pc := 45) d_X7_readsText_45 rfl rfl ?_
        refine R_bipush (pc := 46) (v := 59) d_X7_readsText_46 (by decide) ?_
        refine R_callV (pc := 48) (As := [.int 59]) (rest := []) (c_X7_must (g := g) v0 59 M _ h) rfl rfl cal_RX7_258 ins_X7_must sel_X7_must (cls_at k1 clsOK7) (by decide) (by decide) rfl rfl (Nat.le_of_ble_eq_true rfl) d_X7_readsText_48 (k_V (fun M2 h => ?_)) (fun _ _ h9 => False.elim h9)
        try dsimp only at h
        refine R_aload_n (pc := 51) d_X7_readsText_51 rfl rfl ?_
        refine R_getI (pc := 52) fld_RX7_242 rfl rfl k1 d_X7_readsText_52 ?_
        refine R_if_eq (pc := 55) (tgt := 27) d_X7_readsText_55 (by decide) (fun c => ?_) (fun c => ?_)
        · rw [if_pos c] at h
          exact WP_sub (hκ27 v0 M2 h) (by decide) (ls_s ls_0)
        · rw [if_neg c] at h
          refine R_aload_n (pc := 58) d_X7_readsText_58 rfl rfl ?_
          refine R_callV (pc := 59) (As := []) (rest := []) (c_X7_readsCommand (g := g) v0 M2 _ h) rfl rfl cal_RX7_264 ins_X7_readsCommand sel_X7_readsCommand (cls_at k1 clsOK7) (by decide) (by decide) rfl rfl (Nat.le_of_ble_eq_true rfl) d_X7_readsText_59 (k_V (fun M3 h => ?_)) (fun _ _ h9 => False.elim h9)
          try dsimp only at h
          refine R_goto (pc := 62) (tgt := 27) d_X7_readsText_62 (by decide) ?_
          exact WP_sub (hκ27 v0 M3 h) (by decide) (ls_s ls_0)
def T_X7_readsText (Q : Int32 → Mem → Prop) (v0 : Nat) (M : Mem) : Prop := (kd v0 = 7) ∧ ∀ M2 : Mem, M2 = mset M v0 18 (M.1 v0 8) → ∀ M3 : Mem, M3 = mset M2 v0 17 0 → ∀ M4 : Mem, M4 = mset M3 v0 22 0 → ((1 : Int32) = 0 ∨ (1 : Int32) = 1) ∧ ∀ M6 : Mem, M6 = mset M4 v0 19 1 → T_X7_readsCommand (fun M7 => (∃ N : Nat, T_X7_readsText_27 Q N v0 M7))  v0 M6
set_option maxRecDepth 100000 in
set_option maxHeartbeats 4000000 in
theorem c_X7_readsText {g : GG} (v0 : Nat) (M : Mem) (Q : Int32 → Mem → Prop) (h : T_X7_readsText Q v0 M) : CT g 13 mX7_readsText [.ref (g.1 + v0)] M 0 (oI Q noX) := by
  refine CT_of (L := [some (.ref (g.1 + v0))]) (by decide) rfl (Nat.le_of_ble_eq_true rfl) (ro_I rfl) rfl ?_
  unfold T_X7_readsText at h
  refine R_aload_n (pc := 0) d_X7_readsText_0 rfl rfl ?_
  refine R_aload_n (pc := 1) d_X7_readsText_1 rfl rfl ?_
  obtain ⟨k1, h⟩ := h
  refine R_getI (pc := 2) fld_RX7_233 rfl rfl k1 d_X7_readsText_2 ?_
  refine R_putI (pc := 5) fld_RX7_239 rfl rfl rfl k1 rfl rfl d_X7_readsText_5 (N_M (fun M2 eM2 => ?_))
  have h := h M2 eM2
  refine R_aload_n (pc := 8) d_X7_readsText_8 rfl rfl ?_
  refine R_iconst (pc := 9) (v := 0) d_X7_readsText_9 (by decide) ?_
  refine R_putI (pc := 10) fld_RX7_236 rfl rfl rfl k1 rfl rfl d_X7_readsText_10 (N_M (fun M3 eM3 => ?_))
  have h := h M3 eM3
  refine R_aload_n (pc := 13) d_X7_readsText_13 rfl rfl ?_
  refine R_iconst (pc := 14) (v := 0) d_X7_readsText_14 (by decide) ?_
  refine R_putI (pc := 15) fld_RX7_252 rfl rfl rfl k1 rfl rfl d_X7_readsText_15 (N_M (fun M4 eM4 => ?_))
  have h := h M4 eM4
  refine R_aload_n (pc := 18) d_X7_readsText_18 rfl rfl ?_
  refine R_iconst (pc := 19) (v := 1) d_X7_readsText_19 (by decide) ?_
  obtain ⟨k5, h⟩ := h
  refine R_putI (pc := 20) fld_RX7_242 rfl rfl rfl k1 (nar_z k5) (fit_z k5) d_X7_readsText_20 (N_M (fun M6 eM6 => ?_))
  have h := h M6 eM6
  refine R_aload_n (pc := 23) d_X7_readsText_23 rfl rfl ?_
  refine R_callV (pc := 24) (As := []) (rest := []) (c_X7_readsCommand (g := g) v0 M6 _ h) rfl rfl cal_RX7_264 ins_X7_readsCommand sel_X7_readsCommand (cls_at k1 clsOK7) (by decide) (by decide) rfl rfl (Nat.le_of_ble_eq_true rfl) d_X7_readsText_24 (k_V (fun M7 h => ?_)) (fun _ _ h9 => False.elim h9)
  try dsimp only at h
  obtain ⟨N, h⟩ := h
  exact WP_sub (B_X7_readsText_27 Q N v0 M7 h) (by decide) (ls_s ls_0)
/-! X7_perform -/
theorem d_X7_perform_0 : decode mX7_perform.2.1 0 = .ok (.aload_n 0, 1) := by decide +kernel
theorem d_X7_perform_1 : decode mX7_perform.2.1 1 = .ok (.iconst 0, 1) := by decide +kernel
theorem d_X7_perform_2 : decode mX7_perform.2.1 2 = .ok (.putfield 37, 3) := by decide +kernel
theorem d_X7_perform_5 : decode mX7_perform.2.1 5 = .ok (.aload_n 0, 1) := by decide +kernel
theorem d_X7_perform_6 : decode mX7_perform.2.1 6 = .ok (.invokevirtual 160, 3) := by decide +kernel
theorem d_X7_perform_9 : decode mX7_perform.2.1 9 = .ok (.aload_n 0, 1) := by decide +kernel
theorem d_X7_perform_10 : decode mX7_perform.2.1 10 = .ok (.invokevirtual 267, 3) := by decide +kernel
theorem d_X7_perform_13 : decode mX7_perform.2.1 13 = .ok (.istore_n 1, 1) := by decide +kernel
theorem d_X7_perform_14 : decode mX7_perform.2.1 14 = .ok (.aload_n 0, 1) := by decide +kernel
theorem d_X7_perform_15 : decode mX7_perform.2.1 15 = .ok (.iconst 0, 1) := by decide +kernel
theorem d_X7_perform_16 : decode mX7_perform.2.1 16 = .ok (.putfield 233, 3) := by decide +kernel
theorem d_X7_perform_19 : decode mX7_perform.2.1 19 = .ok (.iload_n 1, 1) := by decide +kernel
theorem d_X7_perform_20 : decode mX7_perform.2.1 20 = .ok (.iconst (-1), 1) := by decide +kernel
theorem d_X7_perform_21 : decode mX7_perform.2.1 21 = .ok (.if_icmp .eq 8, 3) := by decide +kernel
theorem d_X7_perform_24 : decode mX7_perform.2.1 24 = .ok (.bipush (-100), 2) := by decide +kernel
theorem d_X7_perform_26 : decode mX7_perform.2.1 26 = .ok (.iload_n 1, 1) := by decide +kernel
theorem d_X7_perform_27 : decode mX7_perform.2.1 27 = .ok (.isub, 1) := by decide +kernel
theorem d_X7_perform_28 : decode mX7_perform.2.1 28 = .ok (.ireturn, 1) := by decide +kernel
theorem d_X7_perform_29 : decode mX7_perform.2.1 29 = .ok (.iconst 0, 1) := by decide +kernel
theorem d_X7_perform_30 : decode mX7_perform.2.1 30 = .ok (.istore_n 2, 1) := by decide +kernel
theorem d_X7_perform_31 : decode mX7_perform.2.1 31 = .ok (.iload_n 2, 1) := by decide +kernel
theorem d_X7_perform_32 : decode mX7_perform.2.1 32 = .ok (.aload_n 0, 1) := by decide +kernel
theorem d_X7_perform_33 : decode mX7_perform.2.1 33 = .ok (.getfield 252, 3) := by decide +kernel
theorem d_X7_perform_36 : decode mX7_perform.2.1 36 = .ok (.if_icmp .ge 145, 3) := by decide +kernel
theorem d_X7_perform_39 : decode mX7_perform.2.1 39 = .ok (.iconst 4, 1) := by decide +kernel
theorem d_X7_perform_40 : decode mX7_perform.2.1 40 = .ok (.iload_n 2, 1) := by decide +kernel
theorem d_X7_perform_41 : decode mX7_perform.2.1 41 = .ok (.imul, 1) := by decide +kernel
theorem d_X7_perform_42 : decode mX7_perform.2.1 42 = .ok (.istore_n 3, 1) := by decide +kernel
theorem d_X7_perform_43 : decode mX7_perform.2.1 43 = .ok (.aload_n 0, 1) := by decide +kernel
theorem d_X7_perform_44 : decode mX7_perform.2.1 44 = .ok (.getfield 31, 3) := by decide +kernel
theorem d_X7_perform_47 : decode mX7_perform.2.1 47 = .ok (.iload_n 2, 1) := by decide +kernel
theorem d_X7_perform_48 : decode mX7_perform.2.1 48 = .ok (.iaload, 1) := by decide +kernel
theorem d_X7_perform_49 : decode mX7_perform.2.1 49 = .ok (.ifCond .ne 41, 3) := by decide +kernel
theorem d_X7_perform_52 : decode mX7_perform.2.1 52 = .ok (.aload_n 0, 1) := by decide +kernel
theorem d_X7_perform_53 : decode mX7_perform.2.1 53 = .ok (.aload_n 0, 1) := by decide +kernel
theorem d_X7_perform_54 : decode mX7_perform.2.1 54 = .ok (.getfield 34, 3) := by decide +kernel
theorem d_X7_perform_57 : decode mX7_perform.2.1 57 = .ok (.iload_n 3, 1) := by decide +kernel
theorem d_X7_perform_58 : decode mX7_perform.2.1 58 = .ok (.iaload, 1) := by decide +kernel
theorem d_X7_perform_59 : decode mX7_perform.2.1 59 = .ok (.aload_n 0, 1) := by decide +kernel
theorem d_X7_perform_60 : decode mX7_perform.2.1 60 = .ok (.getfield 34, 3) := by decide +kernel
theorem d_X7_perform_63 : decode mX7_perform.2.1 63 = .ok (.iload_n 3, 1) := by decide +kernel
theorem d_X7_perform_64 : decode mX7_perform.2.1 64 = .ok (.iconst 1, 1) := by decide +kernel
theorem d_X7_perform_65 : decode mX7_perform.2.1 65 = .ok (.iadd, 1) := by decide +kernel
theorem d_X7_perform_66 : decode mX7_perform.2.1 66 = .ok (.iaload, 1) := by decide +kernel
theorem d_X7_perform_67 : decode mX7_perform.2.1 67 = .ok (.aload_n 0, 1) := by decide +kernel
theorem d_X7_perform_68 : decode mX7_perform.2.1 68 = .ok (.getfield 34, 3) := by decide +kernel
theorem d_X7_perform_71 : decode mX7_perform.2.1 71 = .ok (.iload_n 3, 1) := by decide +kernel
theorem d_X7_perform_72 : decode mX7_perform.2.1 72 = .ok (.iconst 2, 1) := by decide +kernel
theorem d_X7_perform_73 : decode mX7_perform.2.1 73 = .ok (.iadd, 1) := by decide +kernel
theorem d_X7_perform_74 : decode mX7_perform.2.1 74 = .ok (.iaload, 1) := by decide +kernel
theorem d_X7_perform_75 : decode mX7_perform.2.1 75 = .ok (.aload_n 0, 1) := by decide +kernel
theorem d_X7_perform_76 : decode mX7_perform.2.1 76 = .ok (.getfield 34, 3) := by decide +kernel
theorem d_X7_perform_79 : decode mX7_perform.2.1 79 = .ok (.iload_n 3, 1) := by decide +kernel
theorem d_X7_perform_80 : decode mX7_perform.2.1 80 = .ok (.iconst 3, 1) := by decide +kernel
theorem d_X7_perform_81 : decode mX7_perform.2.1 81 = .ok (.iadd, 1) := by decide +kernel
theorem d_X7_perform_82 : decode mX7_perform.2.1 82 = .ok (.iaload, 1) := by decide +kernel
theorem d_X7_perform_83 : decode mX7_perform.2.1 83 = .ok (.iload_n 2, 1) := by decide +kernel
theorem d_X7_perform_84 : decode mX7_perform.2.1 84 = .ok (.invokevirtual 204, 3) := by decide +kernel
theorem d_X7_perform_87 : decode mX7_perform.2.1 87 = .ok (.goto 44, 3) := by decide +kernel
theorem d_X7_perform_90 : decode mX7_perform.2.1 90 = .ok (.aload_n 0, 1) := by decide +kernel
theorem d_X7_perform_91 : decode mX7_perform.2.1 91 = .ok (.getfield 31, 3) := by decide +kernel
theorem d_X7_perform_94 : decode mX7_perform.2.1 94 = .ok (.iload_n 2, 1) := by decide +kernel
theorem d_X7_perform_95 : decode mX7_perform.2.1 95 = .ok (.iaload, 1) := by decide +kernel
theorem d_X7_perform_96 : decode mX7_perform.2.1 96 = .ok (.iconst 1, 1) := by decide +kernel
theorem d_X7_perform_97 : decode mX7_perform.2.1 97 = .ok (.if_icmp .ne 16, 3) := by decide +kernel
theorem d_X7_perform_100 : decode mX7_perform.2.1 100 = .ok (.aload_n 0, 1) := by decide +kernel
theorem d_X7_perform_101 : decode mX7_perform.2.1 101 = .ok (.aload_n 0, 1) := by decide +kernel
theorem d_X7_perform_102 : decode mX7_perform.2.1 102 = .ok (.getfield 34, 3) := by decide +kernel
theorem d_X7_perform_105 : decode mX7_perform.2.1 105 = .ok (.iload_n 3, 1) := by decide +kernel
theorem d_X7_perform_106 : decode mX7_perform.2.1 106 = .ok (.iaload, 1) := by decide +kernel
theorem d_X7_perform_107 : decode mX7_perform.2.1 107 = .ok (.invokevirtual 213, 3) := by decide +kernel
theorem d_X7_perform_110 : decode mX7_perform.2.1 110 = .ok (.goto 21, 3) := by decide +kernel
theorem d_X7_perform_113 : decode mX7_perform.2.1 113 = .ok (.aload_n 0, 1) := by decide +kernel
theorem d_X7_perform_114 : decode mX7_perform.2.1 114 = .ok (.aload_n 0, 1) := by decide +kernel
theorem d_X7_perform_115 : decode mX7_perform.2.1 115 = .ok (.getfield 34, 3) := by decide +kernel
theorem d_X7_perform_118 : decode mX7_perform.2.1 118 = .ok (.iload_n 3, 1) := by decide +kernel
theorem d_X7_perform_119 : decode mX7_perform.2.1 119 = .ok (.iaload, 1) := by decide +kernel
theorem d_X7_perform_120 : decode mX7_perform.2.1 120 = .ok (.aload_n 0, 1) := by decide +kernel
theorem d_X7_perform_121 : decode mX7_perform.2.1 121 = .ok (.getfield 34, 3) := by decide +kernel
theorem d_X7_perform_124 : decode mX7_perform.2.1 124 = .ok (.iload_n 3, 1) := by decide +kernel
theorem d_X7_perform_125 : decode mX7_perform.2.1 125 = .ok (.iconst 1, 1) := by decide +kernel
theorem d_X7_perform_126 : decode mX7_perform.2.1 126 = .ok (.iadd, 1) := by decide +kernel
theorem d_X7_perform_127 : decode mX7_perform.2.1 127 = .ok (.iaload, 1) := by decide +kernel
theorem d_X7_perform_128 : decode mX7_perform.2.1 128 = .ok (.invokevirtual 185, 3) := by decide +kernel
theorem d_X7_perform_131 : decode mX7_perform.2.1 131 = .ok (.istore 4, 2) := by decide +kernel
theorem d_X7_perform_133 : decode mX7_perform.2.1 133 = .ok (.iload 4, 2) := by decide +kernel
theorem d_X7_perform_135 : decode mX7_perform.2.1 135 = .ok (.ifCond .le 40, 3) := by decide +kernel
theorem d_X7_perform_138 : decode mX7_perform.2.1 138 = .ok (.iconst 0, 1) := by decide +kernel
theorem d_X7_perform_139 : decode mX7_perform.2.1 139 = .ok (.istore 5, 2) := by decide +kernel
theorem d_X7_perform_141 : decode mX7_perform.2.1 141 = .ok (.iload 5, 2) := by decide +kernel
theorem d_X7_perform_143 : decode mX7_perform.2.1 143 = .ok (.sipush 552, 3) := by decide +kernel
theorem d_X7_perform_146 : decode mX7_perform.2.1 146 = .ok (.if_icmp .ge 23, 3) := by decide +kernel
theorem d_X7_perform_149 : decode mX7_perform.2.1 149 = .ok (.aload_n 0, 1) := by decide +kernel
theorem d_X7_perform_150 : decode mX7_perform.2.1 150 = .ok (.getfield 7, 3) := by decide +kernel
theorem d_X7_perform_153 : decode mX7_perform.2.1 153 = .ok (.iload 5, 2) := by decide +kernel
theorem d_X7_perform_155 : decode mX7_perform.2.1 155 = .ok (.aload_n 0, 1) := by decide +kernel
theorem d_X7_perform_156 : decode mX7_perform.2.1 156 = .ok (.getfield 16, 3) := by decide +kernel
theorem d_X7_perform_159 : decode mX7_perform.2.1 159 = .ok (.iload 5, 2) := by decide +kernel
theorem d_X7_perform_161 : decode mX7_perform.2.1 161 = .ok (.iaload, 1) := by decide +kernel
theorem d_X7_perform_162 : decode mX7_perform.2.1 162 = .ok (.iastore, 1) := by decide +kernel
theorem d_X7_perform_163 : decode mX7_perform.2.1 163 = .ok (.iinc 5 1, 3) := by decide +kernel
theorem d_X7_perform_166 : decode mX7_perform.2.1 166 = .ok (.goto (-25), 3) := by decide +kernel
theorem d_X7_perform_169 : decode mX7_perform.2.1 169 = .ok (.aload_n 0, 1) := by decide +kernel
theorem d_X7_perform_170 : decode mX7_perform.2.1 170 = .ok (.iconst 1, 1) := by decide +kernel
theorem d_X7_perform_171 : decode mX7_perform.2.1 171 = .ok (.invokevirtual 163, 3) := by decide +kernel
theorem d_X7_perform_174 : decode mX7_perform.2.1 174 = .ok (.ireturn, 1) := by decide +kernel
theorem d_X7_perform_175 : decode mX7_perform.2.1 175 = .ok (.iinc 2 1, 3) := by decide +kernel
theorem d_X7_perform_178 : decode mX7_perform.2.1 178 = .ok (.goto (-147), 3) := by decide +kernel
theorem d_X7_perform_181 : decode mX7_perform.2.1 181 = .ok (.aload_n 0, 1) := by decide +kernel
theorem d_X7_perform_182 : decode mX7_perform.2.1 182 = .ok (.invokevirtual 166, 3) := by decide +kernel
theorem d_X7_perform_185 : decode mX7_perform.2.1 185 = .ok (.aload_n 0, 1) := by decide +kernel
theorem d_X7_perform_186 : decode mX7_perform.2.1 186 = .ok (.getfield 252, 3) := by decide +kernel
theorem d_X7_perform_189 : decode mX7_perform.2.1 189 = .ok (.ireturn, 1) := by decide +kernel
def T_X7_perform_141 (κ31 : Nat → Int32 → Mem → Prop) (Q : Int32 → Mem → Prop) : Nat → Nat → Int32 → Mem → Prop
  | 0, _, _, _ => False
  | n + 1, v0, v5, M => if (552 : Int32) ≤ v5 then ((kd v0 = 7) ∧ T_X7_fails (fun y3 M2 => Q y3 M2)  v0 1 M) else ((kd v0 = 7) ∧ (kd (rf v0 3) = 9) ∧ (vp_in v5 (ln (rf v0 3))) ∧ (kd (rf v0 1) = 9) ∧ (vp_in v5 (ln (rf v0 1))) ∧ ∀ M9 : Mem, M9 = mset M (rf v0 1) (Int32.toNatClampNeg v5) (M.1 (rf v0 3) (Int32.toNatClampNeg v5)) → ∀ x10 : Int32, x10 = v5 + 1 → (T_X7_perform_141 κ31 Q n) v0 x10 M9)
set_option maxRecDepth 100000 in
set_option maxHeartbeats 4000000 in
theorem B_X7_perform_141 {g : GG} (Q : Int32 → Mem → Prop) (κ31 : Nat → Int32 → Mem → Prop) (hκ31 : ∀ (v0 : Nat) (v2 : Int32) (M : Mem), κ31 v0 v2 M → WP g 19 mX7_perform 31 [some (.ref (g.1 + v0)), none, some (.int v2), none, none, none] [] M 0 (oI Q noX)) : ∀ (n : Nat) (v0 : Nat) (v5 : Int32) (M : Mem), T_X7_perform_141 κ31 Q n v0 v5 M → WP g 19 mX7_perform 141 [some (.ref (g.1 + v0)), none, none, none, none, some (.int v5)] [] M 0 (oI Q noX) := by
  intro n
  induction n with
  | zero => intro v0 v5 M h; exact h.elim
  | succ n hκ141 =>
    intro v0 v5 M h
    unfold T_X7_perform_141 at h
    refine R_iload (pc := 141) d_X7_perform_141 rfl ?_
    refine R_sipush (pc := 143) (v := 552) d_X7_perform_143 (by decide) ?_
    refine R_icmp_ge (pc := 146) (tgt := 169) d_X7_perform_146 (by decide) (fun c => ?_) (fun c => ?_)
    · rw [if_pos c] at h
      refine R_aload_n (pc := 169) d_X7_perform_169 rfl rfl ?_
      refine R_iconst (pc := 170) (v := 1) d_X7_perform_170 (by decide) ?_
      obtain ⟨k1, h⟩ := h
      refine R_callV (pc := 171) (As := [.int 1]) (rest := []) (c_X7_fails (g := g) v0 1 M _ h) rfl rfl cal_RX7_163 ins_X7_fails sel_X7_fails (cls_at k1 clsOK7) (by decide) (by decide) rfl rfl (Nat.le_of_ble_eq_true rfl) d_X7_perform_171 (k_I (fun y3 M2 h => ?_)) (fun _ _ h9 => False.elim h9)
      try dsimp only at h
      exact R_retv (pc := 174) d_X7_perform_174 h
    · rw [if_neg c] at h
      refine R_aload_n (pc := 149) d_X7_perform_149 rfl rfl ?_
      obtain ⟨k4, h⟩ := h
      refine R_getR (pc := 150) fld_RX7_7 rfl rfl k4 d_X7_perform_150 ?_
      refine R_iload (pc := 153) d_X7_perform_153 rfl ?_
      refine R_aload_n (pc := 155) d_X7_perform_155 rfl rfl ?_
      refine R_getR (pc := 156) fld_RX7_16 rfl rfl k4 d_X7_perform_156 ?_
      refine R_iload (pc := 159) d_X7_perform_159 rfl ?_
      obtain ⟨k5, h⟩ := h
      obtain ⟨k6, h⟩ := h
      refine R_iald (pc := 161) k5 k6 d_X7_perform_161 ?_
      obtain ⟨k7, h⟩ := h
      obtain ⟨k8, h⟩ := h
      refine R_iast (pc := 162) k7 k8 d_X7_perform_162 (N_M (fun M9 eM9 => ?_))
      have h := h M9 eM9
      obtain ⟨x10, ex10⟩ : ∃ z : Int32, z = v5 + 1 := ⟨_, rfl⟩
      have h := h x10 ex10
      refine R_iinc (pc := 163) (v := x10) (L' := [some (.ref (g.1 + v0)), none, none, none, none, some (.int x10)]) d_X7_perform_163 rfl (by rw [ex10]; rfl) (by decide) rfl ?_
      refine R_goto (pc := 166) (tgt := 141) d_X7_perform_166 (by decide) ?_
      exact WP_sub (hκ141 v0 x10 M9 h) (by decide) (ls_s (ls_n (ls_n (ls_n (ls_n (ls_s ls_0))))))
def T_X7_perform_131 (κ31 : Nat → Int32 → Mem → Prop) (Q : Int32 → Mem → Prop) (v0 : Nat) (v2 : Int32) (s0 : Int32) (M : Mem) : Prop := if s0 ≤ 0 then (∀ x1 : Int32, x1 = v2 + 1 → κ31 v0 x1 M) else ((∃ N : Nat, T_X7_perform_141 κ31 Q N v0 0 M))
set_option maxRecDepth 100000 in
set_option maxHeartbeats 4000000 in
theorem B_X7_perform_131 {g : GG} (Q : Int32 → Mem → Prop) (κ31 : Nat → Int32 → Mem → Prop) (hκ31 : ∀ (v0 : Nat) (v2 : Int32) (M : Mem), κ31 v0 v2 M → WP g 19 mX7_perform 31 [some (.ref (g.1 + v0)), none, some (.int v2), none, none, none] [] M 0 (oI Q noX)) (v0 : Nat) (v2 : Int32) (s0 : Int32) (M : Mem) (h : T_X7_perform_131 κ31 Q v0 v2 s0 M) : WP g 19 mX7_perform 131 [some (.ref (g.1 + v0)), none, some (.int v2), none, none, none] [.int s0] M 0 (oI Q noX) := by
  unfold T_X7_perform_131 at h
  refine R_istore (pc := 131) (L' := [some (.ref (g.1 + v0)), none, some (.int v2), none, some (.int s0), none]) d_X7_perform_131 (by decide) rfl ?_
  refine R_iload (pc := 133) d_X7_perform_133 rfl ?_
  refine R_if_le (pc := 135) (tgt := 175) d_X7_perform_135 (by decide) (fun c => ?_) (fun c => ?_)
  · rw [if_pos c] at h
    obtain ⟨x1, ex1⟩ : ∃ z : Int32, z = v2 + 1 := ⟨_, rfl⟩
    have h := h x1 ex1
    refine R_iinc (pc := 175) (v := x1) (L' := [some (.ref (g.1 + v0)), none, some (.int x1), none, some (.int s0), none]) d_X7_perform_175 rfl (by rw [ex1]; rfl) (by decide) rfl ?_
    refine R_goto (pc := 178) (tgt := 31) d_X7_perform_178 (by decide) ?_
    exact WP_sub (hκ31 v0 x1 M h) (by decide) (ls_s (ls_n (ls_s (ls_n (ls_n (ls_n ls_0))))))
  · rw [if_neg c] at h
    refine R_iconst (pc := 138) (v := 0) d_X7_perform_138 (by decide) ?_
    refine R_istore (pc := 139) (L' := [some (.ref (g.1 + v0)), none, some (.int v2), none, some (.int s0), some (.int 0)]) d_X7_perform_139 (by decide) rfl ?_
    obtain ⟨N, h⟩ := h
    exact WP_sub (B_X7_perform_141 Q κ31 hκ31 N v0 0 M h) (by decide) (ls_s (ls_n (ls_n (ls_n (ls_n (ls_s ls_0))))))
def T_X7_perform_31 (Q : Int32 → Mem → Prop) : Nat → Nat → Int32 → Mem → Prop
  | 0, _, _, _ => False
  | n + 1, v0, v2, M => (kd v0 = 7) ∧ if (M.1 v0 22) ≤ v2 then (T_X7_keeps (fun M2 => Q (M2.1 v0 22) M2)  v0 M) else (∀ x3 : Int32, x3 = 4 * v2 → (kd (rf v0 20) = 9) ∧ (vp_in v2 (ln (rf v0 20))) ∧ if (M.1 (rf v0 20) (Int32.toNatClampNeg v2)) = 0 then ((kd (rf v0 21) = 9) ∧ (vp_in x3 (ln (rf v0 21))) ∧ (vp_in (x3 + 1) (ln (rf v0 21))) ∧ (vp_in (x3 + 2) (ln (rf v0 21))) ∧ (vp_in (x3 + 3) (ln (rf v0 21))) ∧ T_X7_booking (fun y21 M20 => T_X7_perform_131 (T_X7_perform_31 Q n) Q v0 v2 y21 M20)  v0 (M.1 (rf v0 21) (Int32.toNatClampNeg x3)) (M.1 (rf v0 21) (Int32.toNatClampNeg (x3 + 1))) (M.1 (rf v0 21) (Int32.toNatClampNeg (x3 + 2))) (M.1 (rf v0 21) (Int32.toNatClampNeg (x3 + 3))) v2 M) else (if (M.1 (rf v0 20) (Int32.toNatClampNeg v2)) = (1 : Int32) then ((kd (rf v0 21) = 9) ∧ (vp_in x3 (ln (rf v0 21))) ∧ T_X7_cancelling (fun y14 M13 => T_X7_perform_131 (T_X7_perform_31 Q n) Q v0 v2 y14 M13)  v0 (M.1 (rf v0 21) (Int32.toNatClampNeg x3)) M) else ((kd (rf v0 21) = 9) ∧ (vp_in x3 (ln (rf v0 21))) ∧ (vp_in (x3 + 1) (ln (rf v0 21))) ∧ T_X7_moving (fun y10 M9 => T_X7_perform_131 (T_X7_perform_31 Q n) Q v0 v2 y10 M9)  v0 (M.1 (rf v0 21) (Int32.toNatClampNeg x3)) (M.1 (rf v0 21) (Int32.toNatClampNeg (x3 + 1))) M)))
set_option maxRecDepth 100000 in
set_option maxHeartbeats 4000000 in
theorem B_X7_perform_31 {g : GG} (Q : Int32 → Mem → Prop) : ∀ (n : Nat) (v0 : Nat) (v2 : Int32) (M : Mem), T_X7_perform_31 Q n v0 v2 M → WP g 19 mX7_perform 31 [some (.ref (g.1 + v0)), none, some (.int v2), none, none, none] [] M 0 (oI Q noX) := by
  intro n
  induction n with
  | zero => intro v0 v2 M h; exact h.elim
  | succ n hκ31 =>
    intro v0 v2 M h
    unfold T_X7_perform_31 at h
    refine R_iload_n (pc := 31) d_X7_perform_31 rfl rfl ?_
    refine R_aload_n (pc := 32) d_X7_perform_32 rfl rfl ?_
    obtain ⟨k1, h⟩ := h
    refine R_getI (pc := 33) fld_RX7_252 rfl rfl k1 d_X7_perform_33 ?_
    refine R_icmp_ge (pc := 36) (tgt := 181) d_X7_perform_36 (by decide) (fun c => ?_) (fun c => ?_)
    · rw [if_pos c] at h
      refine R_aload_n (pc := 181) d_X7_perform_181 rfl rfl ?_
      refine R_callV (pc := 182) (As := []) (rest := []) (c_X7_keeps (g := g) v0 M _ h) rfl rfl cal_RX7_166 ins_X7_keeps sel_X7_keeps (cls_at k1 clsOK7) (by decide) (by decide) rfl rfl (Nat.le_of_ble_eq_true rfl) d_X7_perform_182 (k_V (fun M2 h => ?_)) (fun _ _ h9 => False.elim h9)
      try dsimp only at h
      refine R_aload_n (pc := 185) d_X7_perform_185 rfl rfl ?_
      refine R_getI (pc := 186) fld_RX7_252 rfl rfl k1 d_X7_perform_186 ?_
      exact R_retv (pc := 189) d_X7_perform_189 h
    · rw [if_neg c] at h
      refine R_iconst (pc := 39) (v := 4) d_X7_perform_39 (by decide) ?_
      refine R_iload_n (pc := 40) d_X7_perform_40 rfl rfl ?_
      refine R_imul (pc := 41) d_X7_perform_41 ?_
      refine N_i (fun x3 ex3 => ?_)
      have h := h x3 ex3
      refine R_istore_n (pc := 42) (L' := [some (.ref (g.1 + v0)), none, some (.int v2), some (.int x3), none, none]) d_X7_perform_42 rfl (by decide) rfl ?_
      refine R_aload_n (pc := 43) d_X7_perform_43 rfl rfl ?_
      refine R_getR (pc := 44) fld_RX7_31 rfl rfl k1 d_X7_perform_44 ?_
      refine R_iload_n (pc := 47) d_X7_perform_47 rfl rfl ?_
      obtain ⟨k4, h⟩ := h
      obtain ⟨k5, h⟩ := h
      refine R_iald (pc := 48) k4 k5 d_X7_perform_48 ?_
      refine R_if_ne (pc := 49) (tgt := 90) d_X7_perform_49 (by decide) (fun c => ?_) (fun c => ?_)
      · rw [if_neg c] at h
        refine R_aload_n (pc := 90) d_X7_perform_90 rfl rfl ?_
        refine R_getR (pc := 91) fld_RX7_31 rfl rfl k1 d_X7_perform_91 ?_
        refine R_iload_n (pc := 94) d_X7_perform_94 rfl rfl ?_
        refine R_iald (pc := 95) k4 k5 d_X7_perform_95 ?_
        refine R_iconst (pc := 96) (v := 1) d_X7_perform_96 (by decide) ?_
        refine R_icmp_ne (pc := 97) (tgt := 113) d_X7_perform_97 (by decide) (fun c => ?_) (fun c => ?_)
        · rw [if_neg c] at h
          refine R_aload_n (pc := 113) d_X7_perform_113 rfl rfl ?_
          refine R_aload_n (pc := 114) d_X7_perform_114 rfl rfl ?_
          refine R_getR (pc := 115) fld_RX7_34 rfl rfl k1 d_X7_perform_115 ?_
          refine R_iload_n (pc := 118) d_X7_perform_118 rfl rfl ?_
          obtain ⟨k6, h⟩ := h
          obtain ⟨k7, h⟩ := h
          refine R_iald (pc := 119) k6 k7 d_X7_perform_119 ?_
          refine R_aload_n (pc := 120) d_X7_perform_120 rfl rfl ?_
          refine R_getR (pc := 121) fld_RX7_34 rfl rfl k1 d_X7_perform_121 ?_
          refine R_iload_n (pc := 124) d_X7_perform_124 rfl rfl ?_
          refine R_iconst (pc := 125) (v := 1) d_X7_perform_125 (by decide) ?_
          refine R_iadd (pc := 126) d_X7_perform_126 ?_
          obtain ⟨k8, h⟩ := h
          refine R_iald (pc := 127) k6 k8 d_X7_perform_127 ?_
          refine R_callV (pc := 128) (As := [.int (M.1 (rf v0 21) (Int32.toNatClampNeg x3)), .int (M.1 (rf v0 21) (Int32.toNatClampNeg (x3 + 1)))]) (rest := []) (c_X7_moving (g := g) v0 (M.1 (rf v0 21) (Int32.toNatClampNeg x3)) (M.1 (rf v0 21) (Int32.toNatClampNeg (x3 + 1))) M _ h) rfl rfl cal_RX7_185 ins_X7_moving sel_X7_moving (cls_at k1 clsOK7) (by decide) (by decide) rfl rfl (Nat.le_of_ble_eq_true rfl) d_X7_perform_128 (k_I (fun y10 M9 h => ?_)) (fun _ _ h9 => False.elim h9)
          try dsimp only at h
          exact WP_sub (B_X7_perform_131 Q (T_X7_perform_31 Q n) hκ31 v0 v2 y10 M9 h) (by decide) (ls_s (ls_n (ls_s (ls_n (ls_n (ls_n ls_0))))))
        · rw [if_pos c] at h
          refine R_aload_n (pc := 100) d_X7_perform_100 rfl rfl ?_
          refine R_aload_n (pc := 101) d_X7_perform_101 rfl rfl ?_
          refine R_getR (pc := 102) fld_RX7_34 rfl rfl k1 d_X7_perform_102 ?_
          refine R_iload_n (pc := 105) d_X7_perform_105 rfl rfl ?_
          obtain ⟨k11, h⟩ := h
          obtain ⟨k12, h⟩ := h
          refine R_iald (pc := 106) k11 k12 d_X7_perform_106 ?_
          refine R_callV (pc := 107) (As := [.int (M.1 (rf v0 21) (Int32.toNatClampNeg x3))]) (rest := []) (c_X7_cancelling (g := g) v0 (M.1 (rf v0 21) (Int32.toNatClampNeg x3)) M _ h) rfl rfl cal_RX7_213 ins_X7_cancelling sel_X7_cancelling (cls_at k1 clsOK7) (by decide) (by decide) rfl rfl (Nat.le_of_ble_eq_true rfl) d_X7_perform_107 (k_I (fun y14 M13 h => ?_)) (fun _ _ h9 => False.elim h9)
          try dsimp only at h
          refine R_goto (pc := 110) (tgt := 131) d_X7_perform_110 (by decide) ?_
          exact WP_sub (B_X7_perform_131 Q (T_X7_perform_31 Q n) hκ31 v0 v2 y14 M13 h) (by decide) (ls_s (ls_n (ls_s (ls_n (ls_n (ls_n ls_0))))))
      · rw [if_pos c] at h
        refine R_aload_n (pc := 52) d_X7_perform_52 rfl rfl ?_
        refine R_aload_n (pc := 53) d_X7_perform_53 rfl rfl ?_
        refine R_getR (pc := 54) fld_RX7_34 rfl rfl k1 d_X7_perform_54 ?_
        refine R_iload_n (pc := 57) d_X7_perform_57 rfl rfl ?_
        obtain ⟨k15, h⟩ := h
        obtain ⟨k16, h⟩ := h
        refine R_iald (pc := 58) k15 k16 d_X7_perform_58 ?_
        refine R_aload_n (pc := 59) d_X7_perform_59 rfl rfl ?_
        refine R_getR (pc := 60) fld_RX7_34 rfl rfl k1 d_X7_perform_60 ?_
        refine R_iload_n (pc := 63) d_X7_perform_63 rfl rfl ?_
        refine R_iconst (pc := 64) (v := 1) d_X7_perform_64 (by decide) ?_
        refine R_iadd (pc := 65) d_X7_perform_65 ?_
        obtain ⟨k17, h⟩ := h
        refine R_iald (pc := 66) k15 k17 d_X7_perform_66 ?_
        refine R_aload_n (pc := 67) d_X7_perform_67 rfl rfl ?_
        refine R_getR (pc := 68) fld_RX7_34 rfl rfl k1 d_X7_perform_68 ?_
        refine R_iload_n (pc := 71) d_X7_perform_71 rfl rfl ?_
        refine R_iconst (pc := 72) (v := 2) d_X7_perform_72 (by decide) ?_
        refine R_iadd (pc := 73) d_X7_perform_73 ?_
        obtain ⟨k18, h⟩ := h
        refine R_iald (pc := 74) k15 k18 d_X7_perform_74 ?_
        refine R_aload_n (pc := 75) d_X7_perform_75 rfl rfl ?_
        refine R_getR (pc := 76) fld_RX7_34 rfl rfl k1 d_X7_perform_76 ?_
        refine R_iload_n (pc := 79) d_X7_perform_79 rfl rfl ?_
        refine R_iconst (pc := 80) (v := 3) d_X7_perform_80 (by decide) ?_
        refine R_iadd (pc := 81) d_X7_perform_81 ?_
        obtain ⟨k19, h⟩ := h
        refine R_iald (pc := 82) k15 k19 d_X7_perform_82 ?_
        refine R_iload_n (pc := 83) d_X7_perform_83 rfl rfl ?_
        refine R_callV (pc := 84) (As := [.int (M.1 (rf v0 21) (Int32.toNatClampNeg x3)), .int (M.1 (rf v0 21) (Int32.toNatClampNeg (x3 + 1))), .int (M.1 (rf v0 21) (Int32.toNatClampNeg (x3 + 2))), .int (M.1 (rf v0 21) (Int32.toNatClampNeg (x3 + 3))), .int v2]) (rest := []) (c_X7_booking (g := g) v0 (M.1 (rf v0 21) (Int32.toNatClampNeg x3)) (M.1 (rf v0 21) (Int32.toNatClampNeg (x3 + 1))) (M.1 (rf v0 21) (Int32.toNatClampNeg (x3 + 2))) (M.1 (rf v0 21) (Int32.toNatClampNeg (x3 + 3))) v2 M _ h) rfl rfl cal_RX7_204 ins_X7_booking sel_X7_booking (cls_at k1 clsOK7) (by decide) (by decide) rfl rfl (Nat.le_of_ble_eq_true rfl) d_X7_perform_84 (k_I (fun y21 M20 h => ?_)) (fun _ _ h9 => False.elim h9)
        try dsimp only at h
        refine R_goto (pc := 87) (tgt := 131) d_X7_perform_87 (by decide) ?_
        exact WP_sub (B_X7_perform_131 Q (T_X7_perform_31 Q n) hκ31 v0 v2 y21 M20 h) (by decide) (ls_s (ls_n (ls_s (ls_n (ls_n (ls_n ls_0))))))
def T_X7_perform (Q : Int32 → Mem → Prop) (v0 : Nat) (M : Mem) : Prop := (kd v0 = 7) ∧ ∀ M2 : Mem, M2 = mset M v0 0 0 → T_X7_remembers (fun M3 => T_X7_readsText (fun y5 M4 => ∀ M6 : Mem, M6 = mset M4 v0 8 0 → if y5 = ((-1) : Int32) then ((∃ N : Nat, T_X7_perform_31 Q N v0 0 M6)) else (Q ((-100) - y5) M6))  v0 M3)  v0 M2
set_option maxRecDepth 100000 in
set_option maxHeartbeats 4000000 in
theorem c_X7_perform {g : GG} (v0 : Nat) (M : Mem) (Q : Int32 → Mem → Prop) (h : T_X7_perform Q v0 M) : CT g 19 mX7_perform [.ref (g.1 + v0)] M 0 (oI Q noX) := by
  refine CT_of (L := [some (.ref (g.1 + v0)), none, none, none, none, none]) (by decide) rfl (Nat.le_of_ble_eq_true rfl) (ro_I rfl) rfl ?_
  unfold T_X7_perform at h
  refine R_aload_n (pc := 0) d_X7_perform_0 rfl rfl ?_
  refine R_iconst (pc := 1) (v := 0) d_X7_perform_1 (by decide) ?_
  obtain ⟨k1, h⟩ := h
  refine R_putI (pc := 2) fld_RX7_37 rfl rfl rfl k1 rfl rfl d_X7_perform_2 (N_M (fun M2 eM2 => ?_))
  have h := h M2 eM2
  refine R_aload_n (pc := 5) d_X7_perform_5 rfl rfl ?_
  refine R_callV (pc := 6) (As := []) (rest := []) (c_X7_remembers (g := g) v0 M2 _ h) rfl rfl cal_RX7_160 ins_X7_remembers sel_X7_remembers (cls_at k1 clsOK7) (by decide) (by decide) rfl rfl (Nat.le_of_ble_eq_true rfl) d_X7_perform_6 (k_V (fun M3 h => ?_)) (fun _ _ h9 => False.elim h9)
  try dsimp only at h
  refine R_aload_n (pc := 9) d_X7_perform_9 rfl rfl ?_
  refine R_callV (pc := 10) (As := []) (rest := []) (c_X7_readsText (g := g) v0 M3 _ h) rfl rfl cal_RX7_267 ins_X7_readsText sel_X7_readsText (cls_at k1 clsOK7) (by decide) (by decide) rfl rfl (Nat.le_of_ble_eq_true rfl) d_X7_perform_10 (k_I (fun y5 M4 h => ?_)) (fun _ _ h9 => False.elim h9)
  try dsimp only at h
  refine R_istore_n (pc := 13) (L' := [some (.ref (g.1 + v0)), some (.int y5), none, none, none, none]) d_X7_perform_13 rfl (by decide) rfl ?_
  refine R_aload_n (pc := 14) d_X7_perform_14 rfl rfl ?_
  refine R_iconst (pc := 15) (v := 0) d_X7_perform_15 (by decide) ?_
  refine R_putI (pc := 16) fld_RX7_233 rfl rfl rfl k1 rfl rfl d_X7_perform_16 (N_M (fun M6 eM6 => ?_))
  have h := h M6 eM6
  refine R_iload_n (pc := 19) d_X7_perform_19 rfl rfl ?_
  refine R_iconst (pc := 20) (v := (-1)) d_X7_perform_20 (by decide) ?_
  refine R_icmp_eq (pc := 21) (tgt := 29) d_X7_perform_21 (by decide) (fun c => ?_) (fun c => ?_)
  · rw [if_pos c] at h
    refine R_iconst (pc := 29) (v := 0) d_X7_perform_29 (by decide) ?_
    refine R_istore_n (pc := 30) (L' := [some (.ref (g.1 + v0)), some (.int y5), some (.int 0), none, none, none]) d_X7_perform_30 rfl (by decide) rfl ?_
    obtain ⟨N, h⟩ := h
    exact WP_sub (B_X7_perform_31 Q N v0 0 M6 h) (by decide) (ls_s (ls_n (ls_s (ls_n (ls_n (ls_n ls_0))))))
  · rw [if_neg c] at h
    refine R_bipush (pc := 24) (v := (-100)) d_X7_perform_24 (by decide) ?_
    refine R_iload_n (pc := 26) d_X7_perform_26 rfl rfl ?_
    refine R_isub (pc := 27) d_X7_perform_27 ?_
    exact R_retv (pc := 28) d_X7_perform_28 h
/-! X7_undo -/
theorem d_X7_undo_0 : decode mX7_undo.2.1 0 = .ok (.aload_n 0, 1) := by decide +kernel
theorem d_X7_undo_1 : decode mX7_undo.2.1 1 = .ok (.iconst 0, 1) := by decide +kernel
theorem d_X7_undo_2 : decode mX7_undo.2.1 2 = .ok (.putfield 37, 3) := by decide +kernel
theorem d_X7_undo_5 : decode mX7_undo.2.1 5 = .ok (.aload_n 0, 1) := by decide +kernel
theorem d_X7_undo_6 : decode mX7_undo.2.1 6 = .ok (.getfield 53, 3) := by decide +kernel
theorem d_X7_undo_9 : decode mX7_undo.2.1 9 = .ok (.ifCond .ne 9, 3) := by decide +kernel
theorem d_X7_undo_12 : decode mX7_undo.2.1 12 = .ok (.aload_n 0, 1) := by decide +kernel
theorem d_X7_undo_13 : decode mX7_undo.2.1 13 = .ok (.iconst 1, 1) := by decide +kernel
theorem d_X7_undo_14 : decode mX7_undo.2.1 14 = .ok (.invokevirtual 163, 3) := by decide +kernel
theorem d_X7_undo_17 : decode mX7_undo.2.1 17 = .ok (.ireturn, 1) := by decide +kernel
theorem d_X7_undo_18 : decode mX7_undo.2.1 18 = .ok (.aload_n 0, 1) := by decide +kernel
theorem d_X7_undo_19 : decode mX7_undo.2.1 19 = .ok (.dup, 1) := by decide +kernel
theorem d_X7_undo_20 : decode mX7_undo.2.1 20 = .ok (.getfield 53, 3) := by decide +kernel
theorem d_X7_undo_23 : decode mX7_undo.2.1 23 = .ok (.iconst 1, 1) := by decide +kernel
theorem d_X7_undo_24 : decode mX7_undo.2.1 24 = .ok (.isub, 1) := by decide +kernel
theorem d_X7_undo_25 : decode mX7_undo.2.1 25 = .ok (.putfield 53, 3) := by decide +kernel
theorem d_X7_undo_28 : decode mX7_undo.2.1 28 = .ok (.iconst 0, 1) := by decide +kernel
theorem d_X7_undo_29 : decode mX7_undo.2.1 29 = .ok (.istore_n 1, 1) := by decide +kernel
theorem d_X7_undo_30 : decode mX7_undo.2.1 30 = .ok (.iload_n 1, 1) := by decide +kernel
theorem d_X7_undo_31 : decode mX7_undo.2.1 31 = .ok (.sipush 552, 3) := by decide +kernel
theorem d_X7_undo_34 : decode mX7_undo.2.1 34 = .ok (.if_icmp .ge 30, 3) := by decide +kernel
theorem d_X7_undo_37 : decode mX7_undo.2.1 37 = .ok (.aload_n 0, 1) := by decide +kernel
theorem d_X7_undo_38 : decode mX7_undo.2.1 38 = .ok (.getfield 7, 3) := by decide +kernel
theorem d_X7_undo_41 : decode mX7_undo.2.1 41 = .ok (.iload_n 1, 1) := by decide +kernel
theorem d_X7_undo_42 : decode mX7_undo.2.1 42 = .ok (.aload_n 0, 1) := by decide +kernel
theorem d_X7_undo_43 : decode mX7_undo.2.1 43 = .ok (.getfield 19, 3) := by decide +kernel
theorem d_X7_undo_46 : decode mX7_undo.2.1 46 = .ok (.sipush 552, 3) := by decide +kernel
theorem d_X7_undo_49 : decode mX7_undo.2.1 49 = .ok (.aload_n 0, 1) := by decide +kernel
theorem d_X7_undo_50 : decode mX7_undo.2.1 50 = .ok (.getfield 53, 3) := by decide +kernel
theorem d_X7_undo_53 : decode mX7_undo.2.1 53 = .ok (.imul, 1) := by decide +kernel
theorem d_X7_undo_54 : decode mX7_undo.2.1 54 = .ok (.iload_n 1, 1) := by decide +kernel
theorem d_X7_undo_55 : decode mX7_undo.2.1 55 = .ok (.iadd, 1) := by decide +kernel
theorem d_X7_undo_56 : decode mX7_undo.2.1 56 = .ok (.iaload, 1) := by decide +kernel
theorem d_X7_undo_57 : decode mX7_undo.2.1 57 = .ok (.iastore, 1) := by decide +kernel
theorem d_X7_undo_58 : decode mX7_undo.2.1 58 = .ok (.iinc 1 1, 3) := by decide +kernel
theorem d_X7_undo_61 : decode mX7_undo.2.1 61 = .ok (.goto (-31), 3) := by decide +kernel
theorem d_X7_undo_64 : decode mX7_undo.2.1 64 = .ok (.aload_n 0, 1) := by decide +kernel
theorem d_X7_undo_65 : decode mX7_undo.2.1 65 = .ok (.getfield 53, 3) := by decide +kernel
theorem d_X7_undo_68 : decode mX7_undo.2.1 68 = .ok (.ireturn, 1) := by decide +kernel
def T_X7_undo_30 (Q : Int32 → Mem → Prop) : Nat → Nat → Int32 → Mem → Prop
  | 0, _, _, _ => False
  | n + 1, v0, v1, M => if (552 : Int32) ≤ v1 then ((kd v0 = 7) ∧ Q (M.1 v0 5) M) else ((kd v0 = 7) ∧ (kd (rf v0 4) = 9) ∧ (vp_in ((552 * (M.1 v0 5)) + v1) (ln (rf v0 4))) ∧ (kd (rf v0 1) = 9) ∧ (vp_in v1 (ln (rf v0 1))) ∧ ∀ M7 : Mem, M7 = mset M (rf v0 1) (Int32.toNatClampNeg v1) (M.1 (rf v0 4) (Int32.toNatClampNeg ((552 * (M.1 v0 5)) + v1))) → ∀ x8 : Int32, x8 = v1 + 1 → (T_X7_undo_30 Q n) v0 x8 M7)
set_option maxRecDepth 100000 in
set_option maxHeartbeats 4000000 in
theorem B_X7_undo_30 {g : GG} (Q : Int32 → Mem → Prop) : ∀ (n : Nat) (v0 : Nat) (v1 : Int32) (M : Mem), T_X7_undo_30 Q n v0 v1 M → WP g 10 mX7_undo 30 [some (.ref (g.1 + v0)), some (.int v1)] [] M 0 (oI Q noX) := by
  intro n
  induction n with
  | zero => intro v0 v1 M h; exact h.elim
  | succ n hκ30 =>
    intro v0 v1 M h
    unfold T_X7_undo_30 at h
    refine R_iload_n (pc := 30) d_X7_undo_30 rfl rfl ?_
    refine R_sipush (pc := 31) (v := 552) d_X7_undo_31 (by decide) ?_
    refine R_icmp_ge (pc := 34) (tgt := 64) d_X7_undo_34 (by decide) (fun c => ?_) (fun c => ?_)
    · rw [if_pos c] at h
      refine R_aload_n (pc := 64) d_X7_undo_64 rfl rfl ?_
      obtain ⟨k1, h⟩ := h
      refine R_getI (pc := 65) fld_RX7_53 rfl rfl k1 d_X7_undo_65 ?_
      exact R_retv (pc := 68) d_X7_undo_68 h
    · rw [if_neg c] at h
      refine R_aload_n (pc := 37) d_X7_undo_37 rfl rfl ?_
      obtain ⟨k2, h⟩ := h
      refine R_getR (pc := 38) fld_RX7_7 rfl rfl k2 d_X7_undo_38 ?_
      refine R_iload_n (pc := 41) d_X7_undo_41 rfl rfl ?_
      refine R_aload_n (pc := 42) d_X7_undo_42 rfl rfl ?_
      refine R_getR (pc := 43) fld_RX7_19 rfl rfl k2 d_X7_undo_43 ?_
      refine R_sipush (pc := 46) (v := 552) d_X7_undo_46 (by decide) ?_
      refine R_aload_n (pc := 49) d_X7_undo_49 rfl rfl ?_
      refine R_getI (pc := 50) fld_RX7_53 rfl rfl k2 d_X7_undo_50 ?_
      refine R_imul (pc := 53) d_X7_undo_53 ?_
      refine R_iload_n (pc := 54) d_X7_undo_54 rfl rfl ?_
      refine R_iadd (pc := 55) d_X7_undo_55 ?_
      obtain ⟨k3, h⟩ := h
      obtain ⟨k4, h⟩ := h
      refine R_iald (pc := 56) k3 k4 d_X7_undo_56 ?_
      obtain ⟨k5, h⟩ := h
      obtain ⟨k6, h⟩ := h
      refine R_iast (pc := 57) k5 k6 d_X7_undo_57 (N_M (fun M7 eM7 => ?_))
      have h := h M7 eM7
      obtain ⟨x8, ex8⟩ : ∃ z : Int32, z = v1 + 1 := ⟨_, rfl⟩
      have h := h x8 ex8
      refine R_iinc (pc := 58) (v := x8) (L' := [some (.ref (g.1 + v0)), some (.int x8)]) d_X7_undo_58 rfl (by rw [ex8]; rfl) (by decide) rfl ?_
      refine R_goto (pc := 61) (tgt := 30) d_X7_undo_61 (by decide) ?_
      exact WP_sub (hκ30 v0 x8 M7 h) (by decide) (ls_s (ls_s ls_0))
def T_X7_undo (Q : Int32 → Mem → Prop) (v0 : Nat) (M : Mem) : Prop := (kd v0 = 7) ∧ ∀ M2 : Mem, M2 = mset M v0 0 0 → if (M2.1 v0 5) = 0 then (T_X7_fails (fun y5 M4 => Q y5 M4)  v0 1 M2) else (∀ M3 : Mem, M3 = mset M2 v0 5 ((M2.1 v0 5) - 1) → (∃ N : Nat, T_X7_undo_30 Q N v0 0 M3))
set_option maxRecDepth 100000 in
set_option maxHeartbeats 4000000 in
theorem c_X7_undo {g : GG} (v0 : Nat) (M : Mem) (Q : Int32 → Mem → Prop) (h : T_X7_undo Q v0 M) : CT g 10 mX7_undo [.ref (g.1 + v0)] M 0 (oI Q noX) := by
  refine CT_of (L := [some (.ref (g.1 + v0)), none]) (by decide) rfl (Nat.le_of_ble_eq_true rfl) (ro_I rfl) rfl ?_
  unfold T_X7_undo at h
  refine R_aload_n (pc := 0) d_X7_undo_0 rfl rfl ?_
  refine R_iconst (pc := 1) (v := 0) d_X7_undo_1 (by decide) ?_
  obtain ⟨k1, h⟩ := h
  refine R_putI (pc := 2) fld_RX7_37 rfl rfl rfl k1 rfl rfl d_X7_undo_2 (N_M (fun M2 eM2 => ?_))
  have h := h M2 eM2
  refine R_aload_n (pc := 5) d_X7_undo_5 rfl rfl ?_
  refine R_getI (pc := 6) fld_RX7_53 rfl rfl k1 d_X7_undo_6 ?_
  refine R_if_ne (pc := 9) (tgt := 18) d_X7_undo_9 (by decide) (fun c => ?_) (fun c => ?_)
  · rw [if_neg c] at h
    refine R_aload_n (pc := 18) d_X7_undo_18 rfl rfl ?_
    refine R_dup (pc := 19) d_X7_undo_19 rfl ?_
    refine R_getI (pc := 20) fld_RX7_53 rfl rfl k1 d_X7_undo_20 ?_
    refine R_iconst (pc := 23) (v := 1) d_X7_undo_23 (by decide) ?_
    refine R_isub (pc := 24) d_X7_undo_24 ?_
    refine R_putI (pc := 25) fld_RX7_53 rfl rfl rfl k1 rfl rfl d_X7_undo_25 (N_M (fun M3 eM3 => ?_))
    have h := h M3 eM3
    refine R_iconst (pc := 28) (v := 0) d_X7_undo_28 (by decide) ?_
    refine R_istore_n (pc := 29) (L' := [some (.ref (g.1 + v0)), some (.int 0)]) d_X7_undo_29 rfl (by decide) rfl ?_
    obtain ⟨N, h⟩ := h
    exact WP_sub (B_X7_undo_30 Q N v0 0 M3 h) (by decide) (ls_s (ls_s ls_0))
  · rw [if_pos c] at h
    refine R_aload_n (pc := 12) d_X7_undo_12 rfl rfl ?_
    refine R_iconst (pc := 13) (v := 1) d_X7_undo_13 (by decide) ?_
    refine R_callV (pc := 14) (As := [.int 1]) (rest := []) (c_X7_fails (g := g) v0 1 M2 _ h) rfl rfl cal_RX7_163 ins_X7_fails sel_X7_fails (cls_at k1 clsOK7) (by decide) (by decide) rfl rfl (Nat.le_of_ble_eq_true rfl) d_X7_undo_14 (k_I (fun y5 M4 h => ?_)) (fun _ _ h9 => False.elim h9)
    try dsimp only at h
    exact R_retv (pc := 17) d_X7_undo_17 h
/-! X7_save -/
theorem d_X7_save_0 : decode mX7_save.2.1 0 = .ok (.aload_n 0, 1) := by decide +kernel
theorem d_X7_save_1 : decode mX7_save.2.1 1 = .ok (.iconst 0, 1) := by decide +kernel
theorem d_X7_save_2 : decode mX7_save.2.1 2 = .ok (.putfield 37, 3) := by decide +kernel
theorem d_X7_save_5 : decode mX7_save.2.1 5 = .ok (.iconst 0, 1) := by decide +kernel
theorem d_X7_save_6 : decode mX7_save.2.1 6 = .ok (.istore_n 1, 1) := by decide +kernel
theorem d_X7_save_7 : decode mX7_save.2.1 7 = .ok (.iload_n 1, 1) := by decide +kernel
theorem d_X7_save_8 : decode mX7_save.2.1 8 = .ok (.sipush 552, 3) := by decide +kernel
theorem d_X7_save_11 : decode mX7_save.2.1 11 = .ok (.if_icmp .ge 21, 3) := by decide +kernel
theorem d_X7_save_14 : decode mX7_save.2.1 14 = .ok (.aload_n 0, 1) := by decide +kernel
theorem d_X7_save_15 : decode mX7_save.2.1 15 = .ok (.getfield 13, 3) := by decide +kernel
theorem d_X7_save_18 : decode mX7_save.2.1 18 = .ok (.iload_n 1, 1) := by decide +kernel
theorem d_X7_save_19 : decode mX7_save.2.1 19 = .ok (.aload_n 0, 1) := by decide +kernel
theorem d_X7_save_20 : decode mX7_save.2.1 20 = .ok (.getfield 7, 3) := by decide +kernel
theorem d_X7_save_23 : decode mX7_save.2.1 23 = .ok (.iload_n 1, 1) := by decide +kernel
theorem d_X7_save_24 : decode mX7_save.2.1 24 = .ok (.iaload, 1) := by decide +kernel
theorem d_X7_save_25 : decode mX7_save.2.1 25 = .ok (.iastore, 1) := by decide +kernel
theorem d_X7_save_26 : decode mX7_save.2.1 26 = .ok (.iinc 1 1, 3) := by decide +kernel
theorem d_X7_save_29 : decode mX7_save.2.1 29 = .ok (.goto (-22), 3) := by decide +kernel
theorem d_X7_save_32 : decode mX7_save.2.1 32 = .ok (.aload_n 0, 1) := by decide +kernel
theorem d_X7_save_33 : decode mX7_save.2.1 33 = .ok (.iconst 1, 1) := by decide +kernel
theorem d_X7_save_34 : decode mX7_save.2.1 34 = .ok (.putfield 270, 3) := by decide +kernel
theorem d_X7_save_37 : decode mX7_save.2.1 37 = .ok (.aload_n 0, 1) := by decide +kernel
theorem d_X7_save_38 : decode mX7_save.2.1 38 = .ok (.iconst 0, 1) := by decide +kernel
theorem d_X7_save_39 : decode mX7_save.2.1 39 = .ok (.invokevirtual 226, 3) := by decide +kernel
theorem d_X7_save_42 : decode mX7_save.2.1 42 = .ok (.ireturn, 1) := by decide +kernel
def T_X7_save_7 (Q : Int32 → Mem → Prop) : Nat → Nat → Int32 → Mem → Prop
  | 0, _, _, _ => False
  | n + 1, v0, v1, M => if (552 : Int32) ≤ v1 then ((kd v0 = 7) ∧ ((1 : Int32) = 0 ∨ (1 : Int32) = 1) ∧ ∀ M3 : Mem, M3 = mset M v0 6 1 → T_X7_inState (fun y5 M4 => Q y5 M4)  v0 0 M3) else ((kd v0 = 7) ∧ (kd (rf v0 1) = 9) ∧ (vp_in v1 (ln (rf v0 1))) ∧ (kd (rf v0 2) = 9) ∧ (vp_in v1 (ln (rf v0 2))) ∧ ∀ M11 : Mem, M11 = mset M (rf v0 2) (Int32.toNatClampNeg v1) (M.1 (rf v0 1) (Int32.toNatClampNeg v1)) → ∀ x12 : Int32, x12 = v1 + 1 → (T_X7_save_7 Q n) v0 x12 M11)
set_option maxRecDepth 100000 in
set_option maxHeartbeats 4000000 in
theorem B_X7_save_7 {g : GG} (Q : Int32 → Mem → Prop) : ∀ (n : Nat) (v0 : Nat) (v1 : Int32) (M : Mem), T_X7_save_7 Q n v0 v1 M → WP g 11 mX7_save 7 [some (.ref (g.1 + v0)), some (.int v1)] [] M 0 (oI Q noX) := by
  intro n
  induction n with
  | zero => intro v0 v1 M h; exact h.elim
  | succ n hκ7 =>
    intro v0 v1 M h
    unfold T_X7_save_7 at h
    refine R_iload_n (pc := 7) d_X7_save_7 rfl rfl ?_
    refine R_sipush (pc := 8) (v := 552) d_X7_save_8 (by decide) ?_
    refine R_icmp_ge (pc := 11) (tgt := 32) d_X7_save_11 (by decide) (fun c => ?_) (fun c => ?_)
    · rw [if_pos c] at h
      refine R_aload_n (pc := 32) d_X7_save_32 rfl rfl ?_
      refine R_iconst (pc := 33) (v := 1) d_X7_save_33 (by decide) ?_
      obtain ⟨k1, h⟩ := h
      obtain ⟨k2, h⟩ := h
      refine R_putI (pc := 34) fld_RX7_270 rfl rfl rfl k1 (nar_z k2) (fit_z k2) d_X7_save_34 (N_M (fun M3 eM3 => ?_))
      have h := h M3 eM3
      refine R_aload_n (pc := 37) d_X7_save_37 rfl rfl ?_
      refine R_iconst (pc := 38) (v := 0) d_X7_save_38 (by decide) ?_
      refine R_callV (pc := 39) (As := [.int 0]) (rest := []) (c_X7_inState (g := g) v0 0 M3 _ h) rfl rfl cal_RX7_226 ins_X7_inState sel_X7_inState (cls_at k1 clsOK7) (by decide) (by decide) rfl rfl (Nat.le_of_ble_eq_true rfl) d_X7_save_39 (k_I (fun y5 M4 h => ?_)) (fun _ _ h9 => False.elim h9)
      try dsimp only at h
      exact R_retv (pc := 42) d_X7_save_42 h
    · rw [if_neg c] at h
      refine R_aload_n (pc := 14) d_X7_save_14 rfl rfl ?_
      obtain ⟨k6, h⟩ := h
      refine R_getR (pc := 15) fld_RX7_13 rfl rfl k6 d_X7_save_15 ?_
      refine R_iload_n (pc := 18) d_X7_save_18 rfl rfl ?_
      refine R_aload_n (pc := 19) d_X7_save_19 rfl rfl ?_
      refine R_getR (pc := 20) fld_RX7_7 rfl rfl k6 d_X7_save_20 ?_
      refine R_iload_n (pc := 23) d_X7_save_23 rfl rfl ?_
      obtain ⟨k7, h⟩ := h
      obtain ⟨k8, h⟩ := h
      refine R_iald (pc := 24) k7 k8 d_X7_save_24 ?_
      obtain ⟨k9, h⟩ := h
      obtain ⟨k10, h⟩ := h
      refine R_iast (pc := 25) k9 k10 d_X7_save_25 (N_M (fun M11 eM11 => ?_))
      have h := h M11 eM11
      obtain ⟨x12, ex12⟩ : ∃ z : Int32, z = v1 + 1 := ⟨_, rfl⟩
      have h := h x12 ex12
      refine R_iinc (pc := 26) (v := x12) (L' := [some (.ref (g.1 + v0)), some (.int x12)]) d_X7_save_26 rfl (by rw [ex12]; rfl) (by decide) rfl ?_
      refine R_goto (pc := 29) (tgt := 7) d_X7_save_29 (by decide) ?_
      exact WP_sub (hκ7 v0 x12 M11 h) (by decide) (ls_s (ls_s ls_0))
def T_X7_save (Q : Int32 → Mem → Prop) (v0 : Nat) (M : Mem) : Prop := (kd v0 = 7) ∧ ∀ M2 : Mem, M2 = mset M v0 0 0 → (∃ N : Nat, T_X7_save_7 Q N v0 0 M2)
set_option maxRecDepth 100000 in
set_option maxHeartbeats 4000000 in
theorem c_X7_save {g : GG} (v0 : Nat) (M : Mem) (Q : Int32 → Mem → Prop) (h : T_X7_save Q v0 M) : CT g 11 mX7_save [.ref (g.1 + v0)] M 0 (oI Q noX) := by
  refine CT_of (L := [some (.ref (g.1 + v0)), none]) (by decide) rfl (Nat.le_of_ble_eq_true rfl) (ro_I rfl) rfl ?_
  unfold T_X7_save at h
  refine R_aload_n (pc := 0) d_X7_save_0 rfl rfl ?_
  refine R_iconst (pc := 1) (v := 0) d_X7_save_1 (by decide) ?_
  obtain ⟨k1, h⟩ := h
  refine R_putI (pc := 2) fld_RX7_37 rfl rfl rfl k1 rfl rfl d_X7_save_2 (N_M (fun M2 eM2 => ?_))
  have h := h M2 eM2
  refine R_iconst (pc := 5) (v := 0) d_X7_save_5 (by decide) ?_
  refine R_istore_n (pc := 6) (L' := [some (.ref (g.1 + v0)), some (.int 0)]) d_X7_save_6 rfl (by decide) rfl ?_
  obtain ⟨N, h⟩ := h
  exact WP_sub (B_X7_save_7 Q N v0 0 M2 h) (by decide) (ls_s (ls_s ls_0))
