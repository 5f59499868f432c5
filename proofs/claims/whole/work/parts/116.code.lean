/-! X7_visit -/
theorem d_X7_visit_0 : decode mX7_visit.2.1 0 = .ok (.aload_n 0, 1) := by decide +kernel
theorem d_X7_visit_1 : decode mX7_visit.2.1 1 = .ok (.iconst 0, 1) := by decide +kernel
theorem d_X7_visit_2 : decode mX7_visit.2.1 2 = .ok (.putfield 37, 3) := by decide +kernel
theorem d_X7_visit_5 : decode mX7_visit.2.1 5 = .ok (.aload_n 0, 1) := by decide +kernel
theorem d_X7_visit_6 : decode mX7_visit.2.1 6 = .ok (.iload_n 1, 1) := by decide +kernel
theorem d_X7_visit_7 : decode mX7_visit.2.1 7 = .ok (.invokevirtual 207, 3) := by decide +kernel
theorem d_X7_visit_10 : decode mX7_visit.2.1 10 = .ok (.ifCond .ne 9, 3) := by decide +kernel
theorem d_X7_visit_13 : decode mX7_visit.2.1 13 = .ok (.aload_n 0, 1) := by decide +kernel
theorem d_X7_visit_14 : decode mX7_visit.2.1 14 = .ok (.iconst 1, 1) := by decide +kernel
theorem d_X7_visit_15 : decode mX7_visit.2.1 15 = .ok (.invokevirtual 163, 3) := by decide +kernel
theorem d_X7_visit_18 : decode mX7_visit.2.1 18 = .ok (.ireturn, 1) := by decide +kernel
theorem d_X7_visit_19 : decode mX7_visit.2.1 19 = .ok (.iload_n 2, 1) := by decide +kernel
theorem d_X7_visit_20 : decode mX7_visit.2.1 20 = .ok (.iconst 0, 1) := by decide +kernel
theorem d_X7_visit_21 : decode mX7_visit.2.1 21 = .ok (.iconst 5, 1) := by decide +kernel
theorem d_X7_visit_22 : decode mX7_visit.2.1 22 = .ok (.invokestatic 41, 3) := by decide +kernel
theorem d_X7_visit_25 : decode mX7_visit.2.1 25 = .ok (.ifCond .eq 10, 3) := by decide +kernel
theorem d_X7_visit_28 : decode mX7_visit.2.1 28 = .ok (.aload_n 0, 1) := by decide +kernel
theorem d_X7_visit_29 : decode mX7_visit.2.1 29 = .ok (.iload_n 1, 1) := by decide +kernel
theorem d_X7_visit_30 : decode mX7_visit.2.1 30 = .ok (.iload_n 2, 1) := by decide +kernel
theorem d_X7_visit_31 : decode mX7_visit.2.1 31 = .ok (.invokevirtual 45, 3) := by decide +kernel
theorem d_X7_visit_34 : decode mX7_visit.2.1 34 = .ok (.ireturn, 1) := by decide +kernel
theorem d_X7_visit_35 : decode mX7_visit.2.1 35 = .ok (.iload_n 2, 1) := by decide +kernel
theorem d_X7_visit_36 : decode mX7_visit.2.1 36 = .ok (.bipush 6, 2) := by decide +kernel
theorem d_X7_visit_38 : decode mX7_visit.2.1 38 = .ok (.if_icmp .ne 23, 3) := by decide +kernel
theorem d_X7_visit_41 : decode mX7_visit.2.1 41 = .ok (.aload_n 0, 1) := by decide +kernel
theorem d_X7_visit_42 : decode mX7_visit.2.1 42 = .ok (.iload_n 1, 1) := by decide +kernel
theorem d_X7_visit_43 : decode mX7_visit.2.1 43 = .ok (.iconst 5, 1) := by decide +kernel
theorem d_X7_visit_44 : decode mX7_visit.2.1 44 = .ok (.invokevirtual 45, 3) := by decide +kernel
theorem d_X7_visit_47 : decode mX7_visit.2.1 47 = .ok (.iconst 2, 1) := by decide +kernel
theorem d_X7_visit_48 : decode mX7_visit.2.1 48 = .ok (.if_icmp .ne 7, 3) := by decide +kernel
theorem d_X7_visit_51 : decode mX7_visit.2.1 51 = .ok (.iconst 0, 1) := by decide +kernel
theorem d_X7_visit_52 : decode mX7_visit.2.1 52 = .ok (.goto 8, 3) := by decide +kernel
theorem d_X7_visit_55 : decode mX7_visit.2.1 55 = .ok (.aload_n 0, 1) := by decide +kernel
theorem d_X7_visit_56 : decode mX7_visit.2.1 56 = .ok (.iload_n 1, 1) := by decide +kernel
theorem d_X7_visit_57 : decode mX7_visit.2.1 57 = .ok (.invokevirtual 75, 3) := by decide +kernel
theorem d_X7_visit_60 : decode mX7_visit.2.1 60 = .ok (.ireturn, 1) := by decide +kernel
theorem d_X7_visit_61 : decode mX7_visit.2.1 61 = .ok (.iload_n 2, 1) := by decide +kernel
theorem d_X7_visit_62 : decode mX7_visit.2.1 62 = .ok (.bipush 7, 2) := by decide +kernel
theorem d_X7_visit_64 : decode mX7_visit.2.1 64 = .ok (.if_icmp .ne 24, 3) := by decide +kernel
theorem d_X7_visit_67 : decode mX7_visit.2.1 67 = .ok (.aload_n 0, 1) := by decide +kernel
theorem d_X7_visit_68 : decode mX7_visit.2.1 68 = .ok (.aload_n 0, 1) := by decide +kernel
theorem d_X7_visit_69 : decode mX7_visit.2.1 69 = .ok (.iload_n 1, 1) := by decide +kernel
theorem d_X7_visit_70 : decode mX7_visit.2.1 70 = .ok (.iconst 1, 1) := by decide +kernel
theorem d_X7_visit_71 : decode mX7_visit.2.1 71 = .ok (.invokevirtual 45, 3) := by decide +kernel
theorem d_X7_visit_74 : decode mX7_visit.2.1 74 = .ok (.invokevirtual 94, 3) := by decide +kernel
theorem d_X7_visit_77 : decode mX7_visit.2.1 77 = .ok (.ifCond .eq 7, 3) := by decide +kernel
theorem d_X7_visit_80 : decode mX7_visit.2.1 80 = .ok (.iconst 1, 1) := by decide +kernel
theorem d_X7_visit_81 : decode mX7_visit.2.1 81 = .ok (.goto 12, 3) := by decide +kernel
theorem d_X7_visit_84 : decode mX7_visit.2.1 84 = .ok (.iconst 0, 1) := by decide +kernel
theorem d_X7_visit_85 : decode mX7_visit.2.1 85 = .ok (.goto 8, 3) := by decide +kernel
theorem d_X7_visit_88 : decode mX7_visit.2.1 88 = .ok (.aload_n 0, 1) := by decide +kernel
theorem d_X7_visit_89 : decode mX7_visit.2.1 89 = .ok (.iconst 2, 1) := by decide +kernel
theorem d_X7_visit_90 : decode mX7_visit.2.1 90 = .ok (.invokevirtual 163, 3) := by decide +kernel
theorem d_X7_visit_93 : decode mX7_visit.2.1 93 = .ok (.ireturn, 1) := by decide +kernel
def T_X7_visit_93 (Q : Int32 → Mem → Prop) (s0 : Int32) (M : Mem) : Prop := Q s0 M
set_option maxRecDepth 100000 in
set_option maxHeartbeats 4000000 in
theorem B_X7_visit_93 {g : GG} (Q : Int32 → Mem → Prop) (s0 : Int32) (M : Mem) (h : T_X7_visit_93 Q s0 M) : WP g 11 mX7_visit 93 [none, none, none] [.int s0] M 0 (oI Q noX) := by
  unfold T_X7_visit_93 at h
  exact R_retv (pc := 93) d_X7_visit_93 h
def T_X7_visit_60 (Q : Int32 → Mem → Prop) (s0 : Int32) (M : Mem) : Prop := Q s0 M
set_option maxRecDepth 100000 in
set_option maxHeartbeats 4000000 in
theorem B_X7_visit_60 {g : GG} (Q : Int32 → Mem → Prop) (s0 : Int32) (M : Mem) (h : T_X7_visit_60 Q s0 M) : WP g 11 mX7_visit 60 [none, none, none] [.int s0] M 0 (oI Q noX) := by
  unfold T_X7_visit_60 at h
  exact R_retv (pc := 60) d_X7_visit_60 h
def T_X7_visit (Q : Int32 → Mem → Prop) (v0 : Nat) (v1 : Int32) (v2 : Int32) (M : Mem) : Prop := (kd v0 = 7) ∧ ∀ M2 : Mem, M2 = mset M v0 0 0 → T_X7_isVisit (fun y4 M3 => if y4 = 0 then (T_X7_fails (fun y20 M19 => Q y20 M19)  v0 1 M3) else (T_X7_in (fun y6 M5 => if y6 = 0 then (if v2 = (6 : Int32) then (T_X7_of (fun y14 M13 => if y14 = (2 : Int32) then (T_X7_visit_60 Q 0 M13) else (T_X7_searchesOf (fun y16 M15 => T_X7_visit_60 Q y16 M15)  v0 v1 M13))  v0 v1 5 M5) else (if v2 = (7 : Int32) then (T_X7_of (fun y10 M9 => T_X7_doesCount (fun y12 M11 => if y12 = 0 then (T_X7_visit_93 Q 0 M11) else (T_X7_visit_93 Q 1 M11))  v0 y10 M9)  v0 v1 1 M5) else (T_X7_fails (fun y8 M7 => T_X7_visit_93 Q y8 M7)  v0 2 M5))) else (T_X7_of (fun y18 M17 => Q y18 M17)  v0 v1 v2 M5))  v2 0 5 M3))  v0 v1 M2
set_option maxRecDepth 100000 in
set_option maxHeartbeats 4000000 in
theorem c_X7_visit {g : GG} (v0 : Nat) (v1 : Int32) (v2 : Int32) (M : Mem) (Q : Int32 → Mem → Prop) (h : T_X7_visit Q v0 v1 v2 M) : CT g 11 mX7_visit [.ref (g.1 + v0), .int v1, .int v2] M 0 (oI Q noX) := by
  refine CT_of (L := [some (.ref (g.1 + v0)), some (.int v1), some (.int v2)]) (by decide) rfl (Nat.le_of_ble_eq_true rfl) (ro_I rfl) rfl ?_
  unfold T_X7_visit at h
  refine R_aload_n (pc := 0) d_X7_visit_0 rfl rfl ?_
  refine R_iconst (pc := 1) (v := 0) d_X7_visit_1 (by decide) ?_
  obtain ⟨k1, h⟩ := h
  refine R_putI (pc := 2) fld_RX7_37 rfl rfl rfl k1 rfl rfl d_X7_visit_2 (N_M (fun M2 eM2 => ?_))
  have h := h M2 eM2
  refine R_aload_n (pc := 5) d_X7_visit_5 rfl rfl ?_
  refine R_iload_n (pc := 6) d_X7_visit_6 rfl rfl ?_
  refine R_callV (pc := 7) (As := [.int v1]) (rest := []) (c_X7_isVisit (g := g) v0 v1 M2 _ h) rfl rfl cal_RX7_207 ins_X7_isVisit sel_X7_isVisit (cls_at k1 clsOK7) (by decide) (by decide) rfl rfl (Nat.le_of_ble_eq_true rfl) d_X7_visit_7 (k_Z (fun y4 M3 h => ?_)) (fun _ _ h9 => False.elim h9)
  try dsimp only at h
  refine R_if_ne (pc := 10) (tgt := 19) d_X7_visit_10 (by decide) (fun c => ?_) (fun c => ?_)
  · rw [if_neg c] at h
    refine R_iload_n (pc := 19) d_X7_visit_19 rfl rfl ?_
    refine R_iconst (pc := 20) (v := 0) d_X7_visit_20 (by decide) ?_
    refine R_iconst (pc := 21) (v := 5) d_X7_visit_21 (by decide) ?_
    refine R_callS (pc := 22) (As := [.int v2, .int 0, .int 5]) (rest := []) (c_X7_in (g := g) v2 0 5 M3 _ h) rfl rfl cal_RX7_41 sta_X7_in (by decide) (by decide) rfl rfl (Nat.le_of_ble_eq_true rfl) d_X7_visit_22 (k_Z (fun y6 M5 h => ?_)) (fun _ _ h9 => False.elim h9)
    try dsimp only at h
    refine R_if_eq (pc := 25) (tgt := 35) d_X7_visit_25 (by decide) (fun c => ?_) (fun c => ?_)
    · rw [if_pos c] at h
      refine R_iload_n (pc := 35) d_X7_visit_35 rfl rfl ?_
      refine R_bipush (pc := 36) (v := 6) d_X7_visit_36 (by decide) ?_
      refine R_icmp_ne (pc := 38) (tgt := 61) d_X7_visit_38 (by decide) (fun c => ?_) (fun c => ?_)
      · rw [if_neg c] at h
        refine R_iload_n (pc := 61) d_X7_visit_61 rfl rfl ?_
        refine R_bipush (pc := 62) (v := 7) d_X7_visit_62 (by decide) ?_
        refine R_icmp_ne (pc := 64) (tgt := 88) d_X7_visit_64 (by decide) (fun c => ?_) (fun c => ?_)
        · rw [if_neg c] at h
          refine R_aload_n (pc := 88) d_X7_visit_88 rfl rfl ?_
          refine R_iconst (pc := 89) (v := 2) d_X7_visit_89 (by decide) ?_
          refine R_callV (pc := 90) (As := [.int 2]) (rest := []) (c_X7_fails (g := g) v0 2 M5 _ h) rfl rfl cal_RX7_163 ins_X7_fails sel_X7_fails (cls_at k1 clsOK7) (by decide) (by decide) rfl rfl (Nat.le_of_ble_eq_true rfl) d_X7_visit_90 (k_I (fun y8 M7 h => ?_)) (fun _ _ h9 => False.elim h9)
          try dsimp only at h
          exact WP_sub (B_X7_visit_93 Q y8 M7 h) (by decide) (ls_n (ls_n (ls_n ls_0)))
        · rw [if_pos c] at h
          refine R_aload_n (pc := 67) d_X7_visit_67 rfl rfl ?_
          refine R_aload_n (pc := 68) d_X7_visit_68 rfl rfl ?_
          refine R_iload_n (pc := 69) d_X7_visit_69 rfl rfl ?_
          refine R_iconst (pc := 70) (v := 1) d_X7_visit_70 (by decide) ?_
          refine R_callV (pc := 71) (As := [.int v1, .int 1]) (rest := [.ref (g.1 + v0)]) (c_X7_of (g := g) v0 v1 1 M5 _ h) rfl rfl cal_RX7_45 ins_X7_of sel_X7_of (cls_at k1 clsOK7) (by decide) (by decide) rfl rfl (Nat.le_of_ble_eq_true rfl) d_X7_visit_71 (k_I (fun y10 M9 h => ?_)) (fun _ _ h9 => False.elim h9)
          try dsimp only at h
          refine R_callV (pc := 74) (As := [.int y10]) (rest := []) (c_X7_doesCount (g := g) v0 y10 M9 _ h) rfl rfl cal_RX7_94 ins_X7_doesCount sel_X7_doesCount (cls_at k1 clsOK7) (by decide) (by decide) rfl rfl (Nat.le_of_ble_eq_true rfl) d_X7_visit_74 (k_Z (fun y12 M11 h => ?_)) (fun _ _ h9 => False.elim h9)
          try dsimp only at h
          refine R_if_eq (pc := 77) (tgt := 84) d_X7_visit_77 (by decide) (fun c => ?_) (fun c => ?_)
          · rw [if_pos c] at h
            refine R_iconst (pc := 84) (v := 0) d_X7_visit_84 (by decide) ?_
            refine R_goto (pc := 85) (tgt := 93) d_X7_visit_85 (by decide) ?_
            exact WP_sub (B_X7_visit_93 Q 0 M11 h) (by decide) (ls_n (ls_n (ls_n ls_0)))
          · rw [if_neg c] at h
            refine R_iconst (pc := 80) (v := 1) d_X7_visit_80 (by decide) ?_
            refine R_goto (pc := 81) (tgt := 93) d_X7_visit_81 (by decide) ?_
            exact WP_sub (B_X7_visit_93 Q 1 M11 h) (by decide) (ls_n (ls_n (ls_n ls_0)))
      · rw [if_pos c] at h
        refine R_aload_n (pc := 41) d_X7_visit_41 rfl rfl ?_
        refine R_iload_n (pc := 42) d_X7_visit_42 rfl rfl ?_
        refine R_iconst (pc := 43) (v := 5) d_X7_visit_43 (by decide) ?_
        refine R_callV (pc := 44) (As := [.int v1, .int 5]) (rest := []) (c_X7_of (g := g) v0 v1 5 M5 _ h) rfl rfl cal_RX7_45 ins_X7_of sel_X7_of (cls_at k1 clsOK7) (by decide) (by decide) rfl rfl (Nat.le_of_ble_eq_true rfl) d_X7_visit_44 (k_I (fun y14 M13 h => ?_)) (fun _ _ h9 => False.elim h9)
        try dsimp only at h
        refine R_iconst (pc := 47) (v := 2) d_X7_visit_47 (by decide) ?_
        refine R_icmp_ne (pc := 48) (tgt := 55) d_X7_visit_48 (by decide) (fun c => ?_) (fun c => ?_)
        · rw [if_neg c] at h
          refine R_aload_n (pc := 55) d_X7_visit_55 rfl rfl ?_
          refine R_iload_n (pc := 56) d_X7_visit_56 rfl rfl ?_
          refine R_callV (pc := 57) (As := [.int v1]) (rest := []) (c_X7_searchesOf (g := g) v0 v1 M13 _ h) rfl rfl cal_RX7_75 ins_X7_searchesOf sel_X7_searchesOf (cls_at k1 clsOK7) (by decide) (by decide) rfl rfl (Nat.le_of_ble_eq_true rfl) d_X7_visit_57 (k_I (fun y16 M15 h => ?_)) (fun _ _ h9 => False.elim h9)
          try dsimp only at h
          exact WP_sub (B_X7_visit_60 Q y16 M15 h) (by decide) (ls_n (ls_n (ls_n ls_0)))
        · rw [if_pos c] at h
          refine R_iconst (pc := 51) (v := 0) d_X7_visit_51 (by decide) ?_
          refine R_goto (pc := 52) (tgt := 60) d_X7_visit_52 (by decide) ?_
          exact WP_sub (B_X7_visit_60 Q 0 M13 h) (by decide) (ls_n (ls_n (ls_n ls_0)))
    · rw [if_neg c] at h
      refine R_aload_n (pc := 28) d_X7_visit_28 rfl rfl ?_
      refine R_iload_n (pc := 29) d_X7_visit_29 rfl rfl ?_
      refine R_iload_n (pc := 30) d_X7_visit_30 rfl rfl ?_
      refine R_callV (pc := 31) (As := [.int v1, .int v2]) (rest := []) (c_X7_of (g := g) v0 v1 v2 M5 _ h) rfl rfl cal_RX7_45 ins_X7_of sel_X7_of (cls_at k1 clsOK7) (by decide) (by decide) rfl rfl (Nat.le_of_ble_eq_true rfl) d_X7_visit_31 (k_I (fun y18 M17 h => ?_)) (fun _ _ h9 => False.elim h9)
      try dsimp only at h
      exact R_retv (pc := 34) d_X7_visit_34 h
  · rw [if_pos c] at h
    refine R_aload_n (pc := 13) d_X7_visit_13 rfl rfl ?_
    refine R_iconst (pc := 14) (v := 1) d_X7_visit_14 (by decide) ?_
    refine R_callV (pc := 15) (As := [.int 1]) (rest := []) (c_X7_fails (g := g) v0 1 M3 _ h) rfl rfl cal_RX7_163 ins_X7_fails sel_X7_fails (cls_at k1 clsOK7) (by decide) (by decide) rfl rfl (Nat.le_of_ble_eq_true rfl) d_X7_visit_15 (k_I (fun y20 M19 h => ?_)) (fun _ _ h9 => False.elim h9)
    try dsimp only at h
    exact R_retv (pc := 18) d_X7_visit_18 h
/-! X7_timeOf -/
theorem d_X7_timeOf_0 : decode mX7_timeOf.2.1 0 = .ok (.bipush 6, 2) := by decide +kernel
theorem d_X7_timeOf_2 : decode mX7_timeOf.2.1 2 = .ok (.iconst 4, 1) := by decide +kernel
theorem d_X7_timeOf_3 : decode mX7_timeOf.2.1 3 = .ok (.aload_n 0, 1) := by decide +kernel
theorem d_X7_timeOf_4 : decode mX7_timeOf.2.1 4 = .ok (.iload_n 1, 1) := by decide +kernel
theorem d_X7_timeOf_5 : decode mX7_timeOf.2.1 5 = .ok (.iconst 2, 1) := by decide +kernel
theorem d_X7_timeOf_6 : decode mX7_timeOf.2.1 6 = .ok (.invokevirtual 45, 3) := by decide +kernel
theorem d_X7_timeOf_9 : decode mX7_timeOf.2.1 9 = .ok (.imul, 1) := by decide +kernel
theorem d_X7_timeOf_10 : decode mX7_timeOf.2.1 10 = .ok (.aload_n 0, 1) := by decide +kernel
theorem d_X7_timeOf_11 : decode mX7_timeOf.2.1 11 = .ok (.iload_n 1, 1) := by decide +kernel
theorem d_X7_timeOf_12 : decode mX7_timeOf.2.1 12 = .ok (.iconst 3, 1) := by decide +kernel
theorem d_X7_timeOf_13 : decode mX7_timeOf.2.1 13 = .ok (.invokevirtual 45, 3) := by decide +kernel
theorem d_X7_timeOf_16 : decode mX7_timeOf.2.1 16 = .ok (.iadd, 1) := by decide +kernel
theorem d_X7_timeOf_17 : decode mX7_timeOf.2.1 17 = .ok (.imul, 1) := by decide +kernel
theorem d_X7_timeOf_18 : decode mX7_timeOf.2.1 18 = .ok (.aload_n 0, 1) := by decide +kernel
theorem d_X7_timeOf_19 : decode mX7_timeOf.2.1 19 = .ok (.iload_n 1, 1) := by decide +kernel
theorem d_X7_timeOf_20 : decode mX7_timeOf.2.1 20 = .ok (.iconst 4, 1) := by decide +kernel
theorem d_X7_timeOf_21 : decode mX7_timeOf.2.1 21 = .ok (.invokevirtual 45, 3) := by decide +kernel
theorem d_X7_timeOf_24 : decode mX7_timeOf.2.1 24 = .ok (.iadd, 1) := by decide +kernel
theorem d_X7_timeOf_25 : decode mX7_timeOf.2.1 25 = .ok (.ireturn, 1) := by decide +kernel
def T_X7_timeOf (Q : Int32 → Mem → Prop) (v0 : Nat) (v1 : Int32) (M : Mem) : Prop := (kd v0 = 7) ∧ T_X7_of (fun y3 M2 => T_X7_of (fun y5 M4 => T_X7_of (fun y7 M6 => Q ((6 * ((4 * y3) + y5)) + y7) M6)  v0 v1 4 M4)  v0 v1 3 M2)  v0 v1 2 M
set_option maxRecDepth 100000 in
set_option maxHeartbeats 4000000 in
theorem c_X7_timeOf {g : GG} (v0 : Nat) (v1 : Int32) (M : Mem) (Q : Int32 → Mem → Prop) (h : T_X7_timeOf Q v0 v1 M) : CT g 10 mX7_timeOf [.ref (g.1 + v0), .int v1] M 0 (oI Q noX) := by
  refine CT_of (L := [some (.ref (g.1 + v0)), some (.int v1)]) (by decide) rfl (Nat.le_of_ble_eq_true rfl) (ro_I rfl) rfl ?_
  unfold T_X7_timeOf at h
  refine R_bipush (pc := 0) (v := 6) d_X7_timeOf_0 (by decide) ?_
  refine R_iconst (pc := 2) (v := 4) d_X7_timeOf_2 (by decide) ?_
  refine R_aload_n (pc := 3) d_X7_timeOf_3 rfl rfl ?_
  refine R_iload_n (pc := 4) d_X7_timeOf_4 rfl rfl ?_
  refine R_iconst (pc := 5) (v := 2) d_X7_timeOf_5 (by decide) ?_
  obtain ⟨k1, h⟩ := h
  refine R_callV (pc := 6) (As := [.int v1, .int 2]) (rest := [.int 4, .int 6]) (c_X7_of (g := g) v0 v1 2 M _ h) rfl rfl cal_RX7_45 ins_X7_of sel_X7_of (cls_at k1 clsOK7) (by decide) (by decide) rfl rfl (Nat.le_of_ble_eq_true rfl) d_X7_timeOf_6 (k_I (fun y3 M2 h => ?_)) (fun _ _ h9 => False.elim h9)
  try dsimp only at h
  refine R_imul (pc := 9) d_X7_timeOf_9 ?_
  refine R_aload_n (pc := 10) d_X7_timeOf_10 rfl rfl ?_
  refine R_iload_n (pc := 11) d_X7_timeOf_11 rfl rfl ?_
  refine R_iconst (pc := 12) (v := 3) d_X7_timeOf_12 (by decide) ?_
  refine R_callV (pc := 13) (As := [.int v1, .int 3]) (rest := [.int (4 * y3), .int 6]) (c_X7_of (g := g) v0 v1 3 M2 _ h) rfl rfl cal_RX7_45 ins_X7_of sel_X7_of (cls_at k1 clsOK7) (by decide) (by decide) rfl rfl (Nat.le_of_ble_eq_true rfl) d_X7_timeOf_13 (k_I (fun y5 M4 h => ?_)) (fun _ _ h9 => False.elim h9)
  try dsimp only at h
  refine R_iadd (pc := 16) d_X7_timeOf_16 ?_
  refine R_imul (pc := 17) d_X7_timeOf_17 ?_
  refine R_aload_n (pc := 18) d_X7_timeOf_18 rfl rfl ?_
  refine R_iload_n (pc := 19) d_X7_timeOf_19 rfl rfl ?_
  refine R_iconst (pc := 20) (v := 4) d_X7_timeOf_20 (by decide) ?_
  refine R_callV (pc := 21) (As := [.int v1, .int 4]) (rest := [.int (6 * ((4 * y3) + y5))]) (c_X7_of (g := g) v0 v1 4 M4 _ h) rfl rfl cal_RX7_45 ins_X7_of sel_X7_of (cls_at k1 clsOK7) (by decide) (by decide) rfl rfl (Nat.le_of_ble_eq_true rfl) d_X7_timeOf_21 (k_I (fun y7 M6 h => ?_)) (fun _ _ h9 => False.elim h9)
  try dsimp only at h
  refine R_iadd (pc := 24) d_X7_timeOf_24 ?_
  exact R_retv (pc := 25) d_X7_timeOf_25 h
/-! X7_next -/
theorem d_X7_next_0 : decode mX7_next.2.1 0 = .ok (.aload_n 0, 1) := by decide +kernel
theorem d_X7_next_1 : decode mX7_next.2.1 1 = .ok (.iconst 0, 1) := by decide +kernel
theorem d_X7_next_2 : decode mX7_next.2.1 2 = .ok (.putfield 37, 3) := by decide +kernel
theorem d_X7_next_5 : decode mX7_next.2.1 5 = .ok (.iconst 0, 1) := by decide +kernel
theorem d_X7_next_6 : decode mX7_next.2.1 6 = .ok (.istore_n 2, 1) := by decide +kernel
theorem d_X7_next_7 : decode mX7_next.2.1 7 = .ok (.iload_n 2, 1) := by decide +kernel
theorem d_X7_next_8 : decode mX7_next.2.1 8 = .ok (.aload_n 0, 1) := by decide +kernel
theorem d_X7_next_9 : decode mX7_next.2.1 9 = .ok (.getfield 7, 3) := by decide +kernel
theorem d_X7_next_12 : decode mX7_next.2.1 12 = .ok (.iconst 4, 1) := by decide +kernel
theorem d_X7_next_13 : decode mX7_next.2.1 13 = .ok (.iaload, 1) := by decide +kernel
theorem d_X7_next_14 : decode mX7_next.2.1 14 = .ok (.if_icmp .ge 77, 3) := by decide +kernel
theorem d_X7_next_17 : decode mX7_next.2.1 17 = .ok (.iconst 0, 1) := by decide +kernel
theorem d_X7_next_18 : decode mX7_next.2.1 18 = .ok (.istore_n 3, 1) := by decide +kernel
theorem d_X7_next_19 : decode mX7_next.2.1 19 = .ok (.iconst 0, 1) := by decide +kernel
theorem d_X7_next_20 : decode mX7_next.2.1 20 = .ok (.istore 4, 2) := by decide +kernel
theorem d_X7_next_22 : decode mX7_next.2.1 22 = .ok (.iload 4, 2) := by decide +kernel
theorem d_X7_next_24 : decode mX7_next.2.1 24 = .ok (.aload_n 0, 1) := by decide +kernel
theorem d_X7_next_25 : decode mX7_next.2.1 25 = .ok (.getfield 7, 3) := by decide +kernel
theorem d_X7_next_28 : decode mX7_next.2.1 28 = .ok (.iconst 4, 1) := by decide +kernel
theorem d_X7_next_29 : decode mX7_next.2.1 29 = .ok (.iaload, 1) := by decide +kernel
theorem d_X7_next_30 : decode mX7_next.2.1 30 = .ok (.if_icmp .ge 40, 3) := by decide +kernel
theorem d_X7_next_33 : decode mX7_next.2.1 33 = .ok (.iload_n 3, 1) := by decide +kernel
theorem d_X7_next_34 : decode mX7_next.2.1 34 = .ok (.aload_n 0, 1) := by decide +kernel
theorem d_X7_next_35 : decode mX7_next.2.1 35 = .ok (.iload 4, 2) := by decide +kernel
theorem d_X7_next_37 : decode mX7_next.2.1 37 = .ok (.invokevirtual 49, 3) := by decide +kernel
theorem d_X7_next_40 : decode mX7_next.2.1 40 = .ok (.ifCond .eq 21, 3) := by decide +kernel
theorem d_X7_next_43 : decode mX7_next.2.1 43 = .ok (.aload_n 0, 1) := by decide +kernel
theorem d_X7_next_44 : decode mX7_next.2.1 44 = .ok (.iload 4, 2) := by decide +kernel
theorem d_X7_next_46 : decode mX7_next.2.1 46 = .ok (.invokevirtual 216, 3) := by decide +kernel
theorem d_X7_next_49 : decode mX7_next.2.1 49 = .ok (.aload_n 0, 1) := by decide +kernel
theorem d_X7_next_50 : decode mX7_next.2.1 50 = .ok (.iload_n 2, 1) := by decide +kernel
theorem d_X7_next_51 : decode mX7_next.2.1 51 = .ok (.invokevirtual 216, 3) := by decide +kernel
theorem d_X7_next_54 : decode mX7_next.2.1 54 = .ok (.if_icmp .ge 7, 3) := by decide +kernel
theorem d_X7_next_57 : decode mX7_next.2.1 57 = .ok (.iconst 1, 1) := by decide +kernel
theorem d_X7_next_58 : decode mX7_next.2.1 58 = .ok (.goto 4, 3) := by decide +kernel
theorem d_X7_next_61 : decode mX7_next.2.1 61 = .ok (.iconst 0, 1) := by decide +kernel
theorem d_X7_next_62 : decode mX7_next.2.1 62 = .ok (.iadd, 1) := by decide +kernel
theorem d_X7_next_63 : decode mX7_next.2.1 63 = .ok (.istore_n 3, 1) := by decide +kernel
theorem d_X7_next_64 : decode mX7_next.2.1 64 = .ok (.iinc 4 1, 3) := by decide +kernel
theorem d_X7_next_67 : decode mX7_next.2.1 67 = .ok (.goto (-45), 3) := by decide +kernel
theorem d_X7_next_70 : decode mX7_next.2.1 70 = .ok (.aload_n 0, 1) := by decide +kernel
theorem d_X7_next_71 : decode mX7_next.2.1 71 = .ok (.iload_n 2, 1) := by decide +kernel
theorem d_X7_next_72 : decode mX7_next.2.1 72 = .ok (.invokevirtual 49, 3) := by decide +kernel
theorem d_X7_next_75 : decode mX7_next.2.1 75 = .ok (.ifCond .eq 10, 3) := by decide +kernel
theorem d_X7_next_78 : decode mX7_next.2.1 78 = .ok (.iload_n 3, 1) := by decide +kernel
theorem d_X7_next_79 : decode mX7_next.2.1 79 = .ok (.iload_n 1, 1) := by decide +kernel
theorem d_X7_next_80 : decode mX7_next.2.1 80 = .ok (.if_icmp .ne 5, 3) := by decide +kernel
theorem d_X7_next_83 : decode mX7_next.2.1 83 = .ok (.iload_n 2, 1) := by decide +kernel
theorem d_X7_next_84 : decode mX7_next.2.1 84 = .ok (.ireturn, 1) := by decide +kernel
theorem d_X7_next_85 : decode mX7_next.2.1 85 = .ok (.iinc 2 1, 3) := by decide +kernel
theorem d_X7_next_88 : decode mX7_next.2.1 88 = .ok (.goto (-81), 3) := by decide +kernel
theorem d_X7_next_91 : decode mX7_next.2.1 91 = .ok (.aload_n 0, 1) := by decide +kernel
theorem d_X7_next_92 : decode mX7_next.2.1 92 = .ok (.iconst 1, 1) := by decide +kernel
theorem d_X7_next_93 : decode mX7_next.2.1 93 = .ok (.invokevirtual 163, 3) := by decide +kernel
theorem d_X7_next_96 : decode mX7_next.2.1 96 = .ok (.ireturn, 1) := by decide +kernel
def T_X7_next_85 (κ7 : Nat → Int32 → Int32 → Mem → Prop) (Q : Int32 → Mem → Prop) (v0 : Nat) (v1 : Int32) (v2 : Int32) (M : Mem) : Prop := ∀ x1 : Int32, x1 = v2 + 1 → κ7 v0 v1 x1 M
set_option maxRecDepth 100000 in
set_option maxHeartbeats 4000000 in
theorem B_X7_next_85 {g : GG} (Q : Int32 → Mem → Prop) (κ7 : Nat → Int32 → Int32 → Mem → Prop) (hκ7 : ∀ (v0 : Nat) (v1 : Int32) (v2 : Int32) (M : Mem), κ7 v0 v1 v2 M → WP g 11 mX7_next 7 [some (.ref (g.1 + v0)), some (.int v1), some (.int v2), none, none] [] M 0 (oI Q noX)) (v0 : Nat) (v1 : Int32) (v2 : Int32) (M : Mem) (h : T_X7_next_85 κ7 Q v0 v1 v2 M) : WP g 11 mX7_next 85 [some (.ref (g.1 + v0)), some (.int v1), some (.int v2), none, none] [] M 0 (oI Q noX) := by
  unfold T_X7_next_85 at h
  obtain ⟨x1, ex1⟩ : ∃ z : Int32, z = v2 + 1 := ⟨_, rfl⟩
  have h := h x1 ex1
  refine R_iinc (pc := 85) (v := x1) (L' := [some (.ref (g.1 + v0)), some (.int v1), some (.int x1), none, none]) d_X7_next_85 rfl (by rw [ex1]; rfl) (by decide) rfl ?_
  refine R_goto (pc := 88) (tgt := 7) d_X7_next_88 (by decide) ?_
  exact WP_sub (hκ7 v0 v1 x1 M h) (by decide) (ls_s (ls_s (ls_s (ls_n (ls_n ls_0)))))
def T_X7_next_62 (κ7 : Nat → Int32 → Int32 → Mem → Prop) (κ22 : Nat → Int32 → Int32 → Int32 → Int32 → Mem → Prop) (Q : Int32 → Mem → Prop) (v0 : Nat) (v1 : Int32) (v2 : Int32) (v4 : Int32) (s0 : Int32) (s1 : Int32) (M : Mem) : Prop := ∀ x1 : Int32, x1 = s1 + s0 → ∀ x2 : Int32, x2 = v4 + 1 → κ22 v0 v1 v2 x1 x2 M
set_option maxRecDepth 100000 in
set_option maxHeartbeats 4000000 in
theorem B_X7_next_62 {g : GG} (Q : Int32 → Mem → Prop) (κ7 : Nat → Int32 → Int32 → Mem → Prop) (hκ7 : ∀ (v0 : Nat) (v1 : Int32) (v2 : Int32) (M : Mem), κ7 v0 v1 v2 M → WP g 11 mX7_next 7 [some (.ref (g.1 + v0)), some (.int v1), some (.int v2), none, none] [] M 0 (oI Q noX)) (κ22 : Nat → Int32 → Int32 → Int32 → Int32 → Mem → Prop) (hκ22 : ∀ (v0 : Nat) (v1 : Int32) (v2 : Int32) (v3 : Int32) (v4 : Int32) (M : Mem), κ22 v0 v1 v2 v3 v4 M → WP g 11 mX7_next 22 [some (.ref (g.1 + v0)), some (.int v1), some (.int v2), some (.int v3), some (.int v4)] [] M 0 (oI Q noX)) (v0 : Nat) (v1 : Int32) (v2 : Int32) (v4 : Int32) (s0 : Int32) (s1 : Int32) (M : Mem) (h : T_X7_next_62 κ7 κ22 Q v0 v1 v2 v4 s0 s1 M) : WP g 11 mX7_next 62 [some (.ref (g.1 + v0)), some (.int v1), some (.int v2), none, some (.int v4)] [.int s0, .int s1] M 0 (oI Q noX) := by
  unfold T_X7_next_62 at h
  refine R_iadd (pc := 62) d_X7_next_62 ?_
  refine N_i (fun x1 ex1 => ?_)
  have h := h x1 ex1
  refine R_istore_n (pc := 63) (L' := [some (.ref (g.1 + v0)), some (.int v1), some (.int v2), some (.int x1), some (.int v4)]) d_X7_next_63 rfl (by decide) rfl ?_
  obtain ⟨x2, ex2⟩ : ∃ z : Int32, z = v4 + 1 := ⟨_, rfl⟩
  have h := h x2 ex2
  refine R_iinc (pc := 64) (v := x2) (L' := [some (.ref (g.1 + v0)), some (.int v1), some (.int v2), some (.int x1), some (.int x2)]) d_X7_next_64 rfl (by rw [ex2]; rfl) (by decide) rfl ?_
  refine R_goto (pc := 67) (tgt := 22) d_X7_next_67 (by decide) ?_
  exact WP_sub (hκ22 v0 v1 v2 x1 x2 M h) (by decide) (ls_s (ls_s (ls_s (ls_s (ls_s ls_0)))))
def T_X7_next_61 (κ7 : Nat → Int32 → Int32 → Mem → Prop) (κ22 : Nat → Int32 → Int32 → Int32 → Int32 → Mem → Prop) (Q : Int32 → Mem → Prop) (v0 : Nat) (v1 : Int32) (v2 : Int32) (v4 : Int32) (s0 : Int32) (M : Mem) : Prop := T_X7_next_62 κ7 κ22 Q v0 v1 v2 v4 0 s0 M
set_option maxRecDepth 100000 in
set_option maxHeartbeats 4000000 in
theorem B_X7_next_61 {g : GG} (Q : Int32 → Mem → Prop) (κ7 : Nat → Int32 → Int32 → Mem → Prop) (hκ7 : ∀ (v0 : Nat) (v1 : Int32) (v2 : Int32) (M : Mem), κ7 v0 v1 v2 M → WP g 11 mX7_next 7 [some (.ref (g.1 + v0)), some (.int v1), some (.int v2), none, none] [] M 0 (oI Q noX)) (κ22 : Nat → Int32 → Int32 → Int32 → Int32 → Mem → Prop) (hκ22 : ∀ (v0 : Nat) (v1 : Int32) (v2 : Int32) (v3 : Int32) (v4 : Int32) (M : Mem), κ22 v0 v1 v2 v3 v4 M → WP g 11 mX7_next 22 [some (.ref (g.1 + v0)), some (.int v1), some (.int v2), some (.int v3), some (.int v4)] [] M 0 (oI Q noX)) (v0 : Nat) (v1 : Int32) (v2 : Int32) (v4 : Int32) (s0 : Int32) (M : Mem) (h : T_X7_next_61 κ7 κ22 Q v0 v1 v2 v4 s0 M) : WP g 11 mX7_next 61 [some (.ref (g.1 + v0)), some (.int v1), some (.int v2), none, some (.int v4)] [.int s0] M 0 (oI Q noX) := by
  unfold T_X7_next_61 at h
  refine R_iconst (pc := 61) (v := 0) d_X7_next_61 (by decide) ?_
  exact WP_sub (B_X7_next_62 Q κ7 hκ7 κ22 hκ22 v0 v1 v2 v4 0 s0 M h) (by decide) (ls_s (ls_s (ls_s (ls_n (ls_s ls_0)))))
def T_X7_next_22 (κ7 : Nat → Int32 → Int32 → Mem → Prop) (Q : Int32 → Mem → Prop) : Nat → Nat → Int32 → Int32 → Int32 → Int32 → Mem → Prop
  | 0, _, _, _, _, _, _ => False
  | n + 1, v0, v1, v2, v3, v4, M => (kd v0 = 7) ∧ (kd (rf v0 1) = 9) ∧ (vp_in 4 (ln (rf v0 1))) ∧ if (M.1 (rf v0 1) (Int32.toNatClampNeg 4)) ≤ v4 then (T_X7_isBooked (fun y5 M4 => if y5 = 0 then (T_X7_next_85 κ7 Q v0 v1 v2 M4) else (if v3 = v1 then (Q v2 M4) else (T_X7_next_85 κ7 Q v0 v1 v2 M4)))  v0 v2 M) else (T_X7_isBooked (fun y7 M6 => if y7 = 0 then (T_X7_next_61 κ7 (T_X7_next_22 κ7 Q n) Q v0 v1 v2 v4 v3 M6) else (T_X7_timeOf (fun y9 M8 => T_X7_timeOf (fun y11 M10 => if y11 ≤ y9 then (T_X7_next_61 κ7 (T_X7_next_22 κ7 Q n) Q v0 v1 v2 v4 v3 M10) else (T_X7_next_62 κ7 (T_X7_next_22 κ7 Q n) Q v0 v1 v2 v4 1 v3 M10))  v0 v2 M8)  v0 v4 M6))  v0 v4 M)
set_option maxRecDepth 100000 in
set_option maxHeartbeats 4000000 in
theorem B_X7_next_22 {g : GG} (Q : Int32 → Mem → Prop) (κ7 : Nat → Int32 → Int32 → Mem → Prop) (hκ7 : ∀ (v0 : Nat) (v1 : Int32) (v2 : Int32) (M : Mem), κ7 v0 v1 v2 M → WP g 11 mX7_next 7 [some (.ref (g.1 + v0)), some (.int v1), some (.int v2), none, none] [] M 0 (oI Q noX)) : ∀ (n : Nat) (v0 : Nat) (v1 : Int32) (v2 : Int32) (v3 : Int32) (v4 : Int32) (M : Mem), T_X7_next_22 κ7 Q n v0 v1 v2 v3 v4 M → WP g 11 mX7_next 22 [some (.ref (g.1 + v0)), some (.int v1), some (.int v2), some (.int v3), some (.int v4)] [] M 0 (oI Q noX) := by
  intro n
  induction n with
  | zero => intro v0 v1 v2 v3 v4 M h; exact h.elim
  | succ n hκ22 =>
    intro v0 v1 v2 v3 v4 M h
    unfold T_X7_next_22 at h
    refine R_iload (pc := 22) d_X7_next_22 rfl ?_
    refine R_aload_n (pc := 24) d_X7_next_24 rfl rfl ?_
    obtain ⟨k1, h⟩ := h
    refine R_getR (pc := 25) fld_RX7_7 rfl rfl k1 d_X7_next_25 ?_
    refine R_iconst (pc := 28) (v := 4) d_X7_next_28 (by decide) ?_
    obtain ⟨k2, h⟩ := h
    obtain ⟨k3, h⟩ := h
    refine R_iald (pc := 29) k2 k3 d_X7_next_29 ?_
    refine R_icmp_ge (pc := 30) (tgt := 70) d_X7_next_30 (by decide) (fun c => ?_) (fun c => ?_)
    · rw [if_pos c] at h
      refine R_aload_n (pc := 70) d_X7_next_70 rfl rfl ?_
      refine R_iload_n (pc := 71) d_X7_next_71 rfl rfl ?_
      refine R_callV (pc := 72) (As := [.int v2]) (rest := []) (c_X7_isBooked (g := g) v0 v2 M _ h) rfl rfl cal_RX7_49 ins_X7_isBooked sel_X7_isBooked (cls_at k1 clsOK7) (by decide) (by decide) rfl rfl (Nat.le_of_ble_eq_true rfl) d_X7_next_72 (k_Z (fun y5 M4 h => ?_)) (fun _ _ h9 => False.elim h9)
      try dsimp only at h
      refine R_if_eq (pc := 75) (tgt := 85) d_X7_next_75 (by decide) (fun c => ?_) (fun c => ?_)
      · rw [if_pos c] at h
        exact WP_sub (B_X7_next_85 Q κ7 hκ7 v0 v1 v2 M4 h) (by decide) (ls_s (ls_s (ls_s (ls_n (ls_n ls_0)))))
      · rw [if_neg c] at h
        refine R_iload_n (pc := 78) d_X7_next_78 rfl rfl ?_
        refine R_iload_n (pc := 79) d_X7_next_79 rfl rfl ?_
        refine R_icmp_ne (pc := 80) (tgt := 85) d_X7_next_80 (by decide) (fun c => ?_) (fun c => ?_)
        · rw [if_neg c] at h
          exact WP_sub (B_X7_next_85 Q κ7 hκ7 v0 v1 v2 M4 h) (by decide) (ls_s (ls_s (ls_s (ls_n (ls_n ls_0)))))
        · rw [if_pos c] at h
          refine R_iload_n (pc := 83) d_X7_next_83 rfl rfl ?_
          exact R_retv (pc := 84) d_X7_next_84 h
    · rw [if_neg c] at h
      refine R_iload_n (pc := 33) d_X7_next_33 rfl rfl ?_
      refine R_aload_n (pc := 34) d_X7_next_34 rfl rfl ?_
      refine R_iload (pc := 35) d_X7_next_35 rfl ?_
      refine R_callV (pc := 37) (As := [.int v4]) (rest := [.int v3]) (c_X7_isBooked (g := g) v0 v4 M _ h) rfl rfl cal_RX7_49 ins_X7_isBooked sel_X7_isBooked (cls_at k1 clsOK7) (by decide) (by decide) rfl rfl (Nat.le_of_ble_eq_true rfl) d_X7_next_37 (k_Z (fun y7 M6 h => ?_)) (fun _ _ h9 => False.elim h9)
      try dsimp only at h
      refine R_if_eq (pc := 40) (tgt := 61) d_X7_next_40 (by decide) (fun c => ?_) (fun c => ?_)
      · rw [if_pos c] at h
        exact WP_sub (B_X7_next_61 Q κ7 hκ7 (T_X7_next_22 κ7 Q n) hκ22 v0 v1 v2 v4 v3 M6 h) (by decide) (ls_s (ls_s (ls_s (ls_n (ls_s ls_0)))))
      · rw [if_neg c] at h
        refine R_aload_n (pc := 43) d_X7_next_43 rfl rfl ?_
        refine R_iload (pc := 44) d_X7_next_44 rfl ?_
        refine R_callV (pc := 46) (As := [.int v4]) (rest := [.int v3]) (c_X7_timeOf (g := g) v0 v4 M6 _ h) rfl rfl cal_RX7_216 ins_X7_timeOf sel_X7_timeOf (cls_at k1 clsOK7) (by decide) (by decide) rfl rfl (Nat.le_of_ble_eq_true rfl) d_X7_next_46 (k_I (fun y9 M8 h => ?_)) (fun _ _ h9 => False.elim h9)
        try dsimp only at h
        refine R_aload_n (pc := 49) d_X7_next_49 rfl rfl ?_
        refine R_iload_n (pc := 50) d_X7_next_50 rfl rfl ?_
        refine R_callV (pc := 51) (As := [.int v2]) (rest := [.int y9, .int v3]) (c_X7_timeOf (g := g) v0 v2 M8 _ h) rfl rfl cal_RX7_216 ins_X7_timeOf sel_X7_timeOf (cls_at k1 clsOK7) (by decide) (by decide) rfl rfl (Nat.le_of_ble_eq_true rfl) d_X7_next_51 (k_I (fun y11 M10 h => ?_)) (fun _ _ h9 => False.elim h9)
        try dsimp only at h
        refine R_icmp_ge (pc := 54) (tgt := 61) d_X7_next_54 (by decide) (fun c => ?_) (fun c => ?_)
        · rw [if_pos c] at h
          exact WP_sub (B_X7_next_61 Q κ7 hκ7 (T_X7_next_22 κ7 Q n) hκ22 v0 v1 v2 v4 v3 M10 h) (by decide) (ls_s (ls_s (ls_s (ls_n (ls_s ls_0)))))
        · rw [if_neg c] at h
          refine R_iconst (pc := 57) (v := 1) d_X7_next_57 (by decide) ?_
          refine R_goto (pc := 58) (tgt := 62) d_X7_next_58 (by decide) ?_
          exact WP_sub (B_X7_next_62 Q κ7 hκ7 (T_X7_next_22 κ7 Q n) hκ22 v0 v1 v2 v4 1 v3 M10 h) (by decide) (ls_s (ls_s (ls_s (ls_n (ls_s ls_0)))))
def T_X7_next_7 (Q : Int32 → Mem → Prop) : Nat → Nat → Int32 → Int32 → Mem → Prop
  | 0, _, _, _, _ => False
  | n + 1, v0, v1, v2, M => (kd v0 = 7) ∧ (kd (rf v0 1) = 9) ∧ (vp_in 4 (ln (rf v0 1))) ∧ if (M.1 (rf v0 1) (Int32.toNatClampNeg 4)) ≤ v2 then (T_X7_fails (fun y5 M4 => Q y5 M4)  v0 1 M) else ((∃ N : Nat, T_X7_next_22 (T_X7_next_7 Q n) Q N v0 v1 v2 0 0 M))
set_option maxRecDepth 100000 in
set_option maxHeartbeats 4000000 in
theorem B_X7_next_7 {g : GG} (Q : Int32 → Mem → Prop) : ∀ (n : Nat) (v0 : Nat) (v1 : Int32) (v2 : Int32) (M : Mem), T_X7_next_7 Q n v0 v1 v2 M → WP g 11 mX7_next 7 [some (.ref (g.1 + v0)), some (.int v1), some (.int v2), none, none] [] M 0 (oI Q noX) := by
  intro n
  induction n with
  | zero => intro v0 v1 v2 M h; exact h.elim
  | succ n hκ7 =>
    intro v0 v1 v2 M h
    unfold T_X7_next_7 at h
    refine R_iload_n (pc := 7) d_X7_next_7 rfl rfl ?_
    refine R_aload_n (pc := 8) d_X7_next_8 rfl rfl ?_
    obtain ⟨k1, h⟩ := h
    refine R_getR (pc := 9) fld_RX7_7 rfl rfl k1 d_X7_next_9 ?_
    refine R_iconst (pc := 12) (v := 4) d_X7_next_12 (by decide) ?_
    obtain ⟨k2, h⟩ := h
    obtain ⟨k3, h⟩ := h
    refine R_iald (pc := 13) k2 k3 d_X7_next_13 ?_
    refine R_icmp_ge (pc := 14) (tgt := 91) d_X7_next_14 (by decide) (fun c => ?_) (fun c => ?_)
    · rw [if_pos c] at h
      refine R_aload_n (pc := 91) d_X7_next_91 rfl rfl ?_
      refine R_iconst (pc := 92) (v := 1) d_X7_next_92 (by decide) ?_
      refine R_callV (pc := 93) (As := [.int 1]) (rest := []) (c_X7_fails (g := g) v0 1 M _ h) rfl rfl cal_RX7_163 ins_X7_fails sel_X7_fails (cls_at k1 clsOK7) (by decide) (by decide) rfl rfl (Nat.le_of_ble_eq_true rfl) d_X7_next_93 (k_I (fun y5 M4 h => ?_)) (fun _ _ h9 => False.elim h9)
      try dsimp only at h
      exact R_retv (pc := 96) d_X7_next_96 h
    · rw [if_neg c] at h
      refine R_iconst (pc := 17) (v := 0) d_X7_next_17 (by decide) ?_
      refine R_istore_n (pc := 18) (L' := [some (.ref (g.1 + v0)), some (.int v1), some (.int v2), some (.int 0), none]) d_X7_next_18 rfl (by decide) rfl ?_
      refine R_iconst (pc := 19) (v := 0) d_X7_next_19 (by decide) ?_
      refine R_istore (pc := 20) (L' := [some (.ref (g.1 + v0)), some (.int v1), some (.int v2), some (.int 0), some (.int 0)]) d_X7_next_20 (by decide) rfl ?_
      obtain ⟨N, h⟩ := h
      exact WP_sub (B_X7_next_22 Q (T_X7_next_7 Q n) hκ7 N v0 v1 v2 0 0 M h) (by decide) (ls_s (ls_s (ls_s (ls_s (ls_s ls_0)))))
def T_X7_next (Q : Int32 → Mem → Prop) (v0 : Nat) (v1 : Int32) (M : Mem) : Prop := (kd v0 = 7) ∧ ∀ M2 : Mem, M2 = mset M v0 0 0 → (∃ N : Nat, T_X7_next_7 Q N v0 v1 0 M2)
set_option maxRecDepth 100000 in
set_option maxHeartbeats 4000000 in
theorem c_X7_next {g : GG} (v0 : Nat) (v1 : Int32) (M : Mem) (Q : Int32 → Mem → Prop) (h : T_X7_next Q v0 v1 M) : CT g 11 mX7_next [.ref (g.1 + v0), .int v1] M 0 (oI Q noX) := by
  refine CT_of (L := [some (.ref (g.1 + v0)), some (.int v1), none, none, none]) (by decide) rfl (Nat.le_of_ble_eq_true rfl) (ro_I rfl) rfl ?_
  unfold T_X7_next at h
  refine R_aload_n (pc := 0) d_X7_next_0 rfl rfl ?_
  refine R_iconst (pc := 1) (v := 0) d_X7_next_1 (by decide) ?_
  obtain ⟨k1, h⟩ := h
  refine R_putI (pc := 2) fld_RX7_37 rfl rfl rfl k1 rfl rfl d_X7_next_2 (N_M (fun M2 eM2 => ?_))
  have h := h M2 eM2
  refine R_iconst (pc := 5) (v := 0) d_X7_next_5 (by decide) ?_
  refine R_istore_n (pc := 6) (L' := [some (.ref (g.1 + v0)), some (.int v1), some (.int 0), none, none]) d_X7_next_6 rfl (by decide) rfl ?_
  obtain ⟨N, h⟩ := h
  exact WP_sub (B_X7_next_7 Q N v0 v1 0 M2 h) (by decide) (ls_s (ls_s (ls_s (ls_n (ls_n ls_0)))))
/-! X7_slot -/
theorem d_X7_slot_0 : decode mX7_slot.2.1 0 = .ok (.aload_n 0, 1) := by decide +kernel
theorem d_X7_slot_1 : decode mX7_slot.2.1 1 = .ok (.iconst 0, 1) := by decide +kernel
theorem d_X7_slot_2 : decode mX7_slot.2.1 2 = .ok (.putfield 37, 3) := by decide +kernel
theorem d_X7_slot_5 : decode mX7_slot.2.1 5 = .ok (.iload_n 1, 1) := by decide +kernel
theorem d_X7_slot_6 : decode mX7_slot.2.1 6 = .ok (.iconst 0, 1) := by decide +kernel
theorem d_X7_slot_7 : decode mX7_slot.2.1 7 = .ok (.bipush 55, 2) := by decide +kernel
theorem d_X7_slot_9 : decode mX7_slot.2.1 9 = .ok (.invokestatic 41, 3) := by decide +kernel
theorem d_X7_slot_12 : decode mX7_slot.2.1 12 = .ok (.ifCond .eq 12, 3) := by decide +kernel
theorem d_X7_slot_15 : decode mX7_slot.2.1 15 = .ok (.iload_n 2, 1) := by decide +kernel
theorem d_X7_slot_16 : decode mX7_slot.2.1 16 = .ok (.iconst 0, 1) := by decide +kernel
theorem d_X7_slot_17 : decode mX7_slot.2.1 17 = .ok (.iconst 3, 1) := by decide +kernel
theorem d_X7_slot_18 : decode mX7_slot.2.1 18 = .ok (.invokestatic 41, 3) := by decide +kernel
theorem d_X7_slot_21 : decode mX7_slot.2.1 21 = .ok (.ifCond .ne 9, 3) := by decide +kernel
theorem d_X7_slot_24 : decode mX7_slot.2.1 24 = .ok (.aload_n 0, 1) := by decide +kernel
theorem d_X7_slot_25 : decode mX7_slot.2.1 25 = .ok (.iconst 1, 1) := by decide +kernel
theorem d_X7_slot_26 : decode mX7_slot.2.1 26 = .ok (.invokevirtual 163, 3) := by decide +kernel
theorem d_X7_slot_29 : decode mX7_slot.2.1 29 = .ok (.ireturn, 1) := by decide +kernel
theorem d_X7_slot_30 : decode mX7_slot.2.1 30 = .ok (.iload_n 3, 1) := by decide +kernel
theorem d_X7_slot_31 : decode mX7_slot.2.1 31 = .ok (.ifCond .eq 12, 3) := by decide +kernel
theorem d_X7_slot_34 : decode mX7_slot.2.1 34 = .ok (.aload_n 0, 1) := by decide +kernel
theorem d_X7_slot_35 : decode mX7_slot.2.1 35 = .ok (.iload_n 1, 1) := by decide +kernel
theorem d_X7_slot_36 : decode mX7_slot.2.1 36 = .ok (.iload_n 2, 1) := by decide +kernel
theorem d_X7_slot_37 : decode mX7_slot.2.1 37 = .ok (.invokevirtual 91, 3) := by decide +kernel
theorem d_X7_slot_40 : decode mX7_slot.2.1 40 = .ok (.goto 9, 3) := by decide +kernel
theorem d_X7_slot_43 : decode mX7_slot.2.1 43 = .ok (.aload_n 0, 1) := by decide +kernel
theorem d_X7_slot_44 : decode mX7_slot.2.1 44 = .ok (.iload_n 1, 1) := by decide +kernel
theorem d_X7_slot_45 : decode mX7_slot.2.1 45 = .ok (.iload_n 2, 1) := by decide +kernel
theorem d_X7_slot_46 : decode mX7_slot.2.1 46 = .ok (.invokevirtual 78, 3) := by decide +kernel
theorem d_X7_slot_49 : decode mX7_slot.2.1 49 = .ok (.ireturn, 1) := by decide +kernel
def T_X7_slot_49 (Q : Int32 → Mem → Prop) (s0 : Int32) (M : Mem) : Prop := Q s0 M
set_option maxRecDepth 100000 in
set_option maxHeartbeats 4000000 in
theorem B_X7_slot_49 {g : GG} (Q : Int32 → Mem → Prop) (s0 : Int32) (M : Mem) (h : T_X7_slot_49 Q s0 M) : WP g 13 mX7_slot 49 [none, none, none, none] [.int s0] M 0 (oI Q noX) := by
  unfold T_X7_slot_49 at h
  exact R_retv (pc := 49) d_X7_slot_49 h
def T_X7_slot_24 (Q : Int32 → Mem → Prop) (v0 : Nat) (M : Mem) : Prop := (kd v0 = 7) ∧ T_X7_fails (fun y3 M2 => Q y3 M2)  v0 1 M
set_option maxRecDepth 100000 in
set_option maxHeartbeats 4000000 in
theorem B_X7_slot_24 {g : GG} (Q : Int32 → Mem → Prop) (v0 : Nat) (M : Mem) (h : T_X7_slot_24 Q v0 M) : WP g 13 mX7_slot 24 [some (.ref (g.1 + v0)), none, none, none] [] M 0 (oI Q noX) := by
  unfold T_X7_slot_24 at h
  refine R_aload_n (pc := 24) d_X7_slot_24 rfl rfl ?_
  refine R_iconst (pc := 25) (v := 1) d_X7_slot_25 (by decide) ?_
  obtain ⟨k1, h⟩ := h
  refine R_callV (pc := 26) (As := [.int 1]) (rest := []) (c_X7_fails (g := g) v0 1 M _ h) rfl rfl cal_RX7_163 ins_X7_fails sel_X7_fails (cls_at k1 clsOK7) (by decide) (by decide) rfl rfl (Nat.le_of_ble_eq_true rfl) d_X7_slot_26 (k_I (fun y3 M2 h => ?_)) (fun _ _ h9 => False.elim h9)
  try dsimp only at h
  exact R_retv (pc := 29) d_X7_slot_29 h
def T_X7_slot (Q : Int32 → Mem → Prop) (v0 : Nat) (v1 : Int32) (v2 : Int32) (v3 : Int32) (M : Mem) : Prop := (kd v0 = 7) ∧ ∀ M2 : Mem, M2 = mset M v0 0 0 → T_X7_in (fun y4 M3 => if y4 = 0 then (T_X7_slot_24 Q v0 M3) else (T_X7_in (fun y6 M5 => if y6 = 0 then (T_X7_slot_24 Q v0 M5) else (if v3 = 0 then (T_X7_usedRooms (fun y8 M7 => T_X7_slot_49 Q y8 M7)  v0 v1 v2 M5) else (T_X7_left (fun y10 M9 => T_X7_slot_49 Q y10 M9)  v0 v1 v2 M5)))  v2 0 3 M3))  v1 0 55 M2
set_option maxRecDepth 100000 in
set_option maxHeartbeats 4000000 in
theorem c_X7_slot {g : GG} (v0 : Nat) (v1 : Int32) (v2 : Int32) (v3 : Int32) (M : Mem) (Q : Int32 → Mem → Prop) (h : T_X7_slot Q v0 v1 v2 v3 M) : CT g 13 mX7_slot [.ref (g.1 + v0), .int v1, .int v2, .int v3] M 0 (oI Q noX) := by
  refine CT_of (L := [some (.ref (g.1 + v0)), some (.int v1), some (.int v2), some (.int v3)]) (by decide) rfl (Nat.le_of_ble_eq_true rfl) (ro_I rfl) rfl ?_
  unfold T_X7_slot at h
  refine R_aload_n (pc := 0) d_X7_slot_0 rfl rfl ?_
  refine R_iconst (pc := 1) (v := 0) d_X7_slot_1 (by decide) ?_
  obtain ⟨k1, h⟩ := h
  refine R_putI (pc := 2) fld_RX7_37 rfl rfl rfl k1 rfl rfl d_X7_slot_2 (N_M (fun M2 eM2 => ?_))
  have h := h M2 eM2
  refine R_iload_n (pc := 5) d_X7_slot_5 rfl rfl ?_
  refine R_iconst (pc := 6) (v := 0) d_X7_slot_6 (by decide) ?_
  refine R_bipush (pc := 7) (v := 55) d_X7_slot_7 (by decide) ?_
  refine R_callS (pc := 9) (As := [.int v1, .int 0, .int 55]) (rest := []) (c_X7_in (g := g) v1 0 55 M2 _ h) rfl rfl cal_RX7_41 sta_X7_in (by decide) (by decide) rfl rfl (Nat.le_of_ble_eq_true rfl) d_X7_slot_9 (k_Z (fun y4 M3 h => ?_)) (fun _ _ h9 => False.elim h9)
  try dsimp only at h
  refine R_if_eq (pc := 12) (tgt := 24) d_X7_slot_12 (by decide) (fun c => ?_) (fun c => ?_)
  · rw [if_pos c] at h
    exact WP_sub (B_X7_slot_24 Q v0 M3 h) (by decide) (ls_s (ls_n (ls_n (ls_n ls_0))))
  · rw [if_neg c] at h
    refine R_iload_n (pc := 15) d_X7_slot_15 rfl rfl ?_
    refine R_iconst (pc := 16) (v := 0) d_X7_slot_16 (by decide) ?_
    refine R_iconst (pc := 17) (v := 3) d_X7_slot_17 (by decide) ?_
    refine R_callS (pc := 18) (As := [.int v2, .int 0, .int 3]) (rest := []) (c_X7_in (g := g) v2 0 3 M3 _ h) rfl rfl cal_RX7_41 sta_X7_in (by decide) (by decide) rfl rfl (Nat.le_of_ble_eq_true rfl) d_X7_slot_18 (k_Z (fun y6 M5 h => ?_)) (fun _ _ h9 => False.elim h9)
    try dsimp only at h
    refine R_if_ne (pc := 21) (tgt := 30) d_X7_slot_21 (by decide) (fun c => ?_) (fun c => ?_)
    · rw [if_neg c] at h
      refine R_iload_n (pc := 30) d_X7_slot_30 rfl rfl ?_
      refine R_if_eq (pc := 31) (tgt := 43) d_X7_slot_31 (by decide) (fun c => ?_) (fun c => ?_)
      · rw [if_pos c] at h
        refine R_aload_n (pc := 43) d_X7_slot_43 rfl rfl ?_
        refine R_iload_n (pc := 44) d_X7_slot_44 rfl rfl ?_
        refine R_iload_n (pc := 45) d_X7_slot_45 rfl rfl ?_
        refine R_callV (pc := 46) (As := [.int v1, .int v2]) (rest := []) (c_X7_usedRooms (g := g) v0 v1 v2 M5 _ h) rfl rfl cal_RX7_78 ins_X7_usedRooms sel_X7_usedRooms (cls_at k1 clsOK7) (by decide) (by decide) rfl rfl (Nat.le_of_ble_eq_true rfl) d_X7_slot_46 (k_I (fun y8 M7 h => ?_)) (fun _ _ h9 => False.elim h9)
        try dsimp only at h
        exact WP_sub (B_X7_slot_49 Q y8 M7 h) (by decide) (ls_n (ls_n (ls_n (ls_n ls_0))))
      · rw [if_neg c] at h
        refine R_aload_n (pc := 34) d_X7_slot_34 rfl rfl ?_
        refine R_iload_n (pc := 35) d_X7_slot_35 rfl rfl ?_
        refine R_iload_n (pc := 36) d_X7_slot_36 rfl rfl ?_
        refine R_callV (pc := 37) (As := [.int v1, .int v2]) (rest := []) (c_X7_left (g := g) v0 v1 v2 M5 _ h) rfl rfl cal_RX7_91 ins_X7_left sel_X7_left (cls_at k1 clsOK7) (by decide) (by decide) rfl rfl (Nat.le_of_ble_eq_true rfl) d_X7_slot_37 (k_I (fun y10 M9 h => ?_)) (fun _ _ h9 => False.elim h9)
        try dsimp only at h
        refine R_goto (pc := 40) (tgt := 49) d_X7_slot_40 (by decide) ?_
        exact WP_sub (B_X7_slot_49 Q y10 M9 h) (by decide) (ls_n (ls_n (ls_n (ls_n ls_0))))
    · rw [if_pos c] at h
      exact WP_sub (B_X7_slot_24 Q v0 M5 h) (by decide) (ls_s (ls_n (ls_n (ls_n ls_0))))
/-! X7_pass -/
theorem d_X7_pass_0 : decode mX7_pass.2.1 0 = .ok (.aload_n 0, 1) := by decide +kernel
theorem d_X7_pass_1 : decode mX7_pass.2.1 1 = .ok (.iconst 0, 1) := by decide +kernel
theorem d_X7_pass_2 : decode mX7_pass.2.1 2 = .ok (.putfield 37, 3) := by decide +kernel
theorem d_X7_pass_5 : decode mX7_pass.2.1 5 = .ok (.aload_n 0, 1) := by decide +kernel
theorem d_X7_pass_6 : decode mX7_pass.2.1 6 = .ok (.invokevirtual 160, 3) := by decide +kernel
theorem d_X7_pass_9 : decode mX7_pass.2.1 9 = .ok (.iload_n 1, 1) := by decide +kernel
theorem d_X7_pass_10 : decode mX7_pass.2.1 10 = .ok (.iconst 1, 1) := by decide +kernel
theorem d_X7_pass_11 : decode mX7_pass.2.1 11 = .ok (.bipush 20, 2) := by decide +kernel
theorem d_X7_pass_13 : decode mX7_pass.2.1 13 = .ok (.invokestatic 41, 3) := by decide +kernel
theorem d_X7_pass_16 : decode mX7_pass.2.1 16 = .ok (.ifCond .ne 9, 3) := by decide +kernel
theorem d_X7_pass_19 : decode mX7_pass.2.1 19 = .ok (.aload_n 0, 1) := by decide +kernel
theorem d_X7_pass_20 : decode mX7_pass.2.1 20 = .ok (.iconst 1, 1) := by decide +kernel
theorem d_X7_pass_21 : decode mX7_pass.2.1 21 = .ok (.invokevirtual 163, 3) := by decide +kernel
theorem d_X7_pass_24 : decode mX7_pass.2.1 24 = .ok (.ireturn, 1) := by decide +kernel
theorem d_X7_pass_25 : decode mX7_pass.2.1 25 = .ok (.aload_n 0, 1) := by decide +kernel
theorem d_X7_pass_26 : decode mX7_pass.2.1 26 = .ok (.getfield 7, 3) := by decide +kernel
theorem d_X7_pass_29 : decode mX7_pass.2.1 29 = .ok (.iconst 0, 1) := by decide +kernel
theorem d_X7_pass_30 : decode mX7_pass.2.1 30 = .ok (.iaload, 1) := by decide +kernel
theorem d_X7_pass_31 : decode mX7_pass.2.1 31 = .ok (.iload_n 1, 1) := by decide +kernel
theorem d_X7_pass_32 : decode mX7_pass.2.1 32 = .ok (.iadd, 1) := by decide +kernel
theorem d_X7_pass_33 : decode mX7_pass.2.1 33 = .ok (.bipush 55, 2) := by decide +kernel
theorem d_X7_pass_35 : decode mX7_pass.2.1 35 = .ok (.if_icmp .le 9, 3) := by decide +kernel
theorem d_X7_pass_38 : decode mX7_pass.2.1 38 = .ok (.aload_n 0, 1) := by decide +kernel
theorem d_X7_pass_39 : decode mX7_pass.2.1 39 = .ok (.iconst 2, 1) := by decide +kernel
theorem d_X7_pass_40 : decode mX7_pass.2.1 40 = .ok (.invokevirtual 163, 3) := by decide +kernel
theorem d_X7_pass_43 : decode mX7_pass.2.1 43 = .ok (.ireturn, 1) := by decide +kernel
theorem d_X7_pass_44 : decode mX7_pass.2.1 44 = .ok (.aload_n 0, 1) := by decide +kernel
theorem d_X7_pass_45 : decode mX7_pass.2.1 45 = .ok (.getfield 7, 3) := by decide +kernel
theorem d_X7_pass_48 : decode mX7_pass.2.1 48 = .ok (.iconst 0, 1) := by decide +kernel
theorem d_X7_pass_49 : decode mX7_pass.2.1 49 = .ok (.dup2, 1) := by decide +kernel
theorem d_X7_pass_50 : decode mX7_pass.2.1 50 = .ok (.iaload, 1) := by decide +kernel
theorem d_X7_pass_51 : decode mX7_pass.2.1 51 = .ok (.iload_n 1, 1) := by decide +kernel
theorem d_X7_pass_52 : decode mX7_pass.2.1 52 = .ok (.iadd, 1) := by decide +kernel
theorem d_X7_pass_53 : decode mX7_pass.2.1 53 = .ok (.iastore, 1) := by decide +kernel
theorem d_X7_pass_54 : decode mX7_pass.2.1 54 = .ok (.iconst 0, 1) := by decide +kernel
theorem d_X7_pass_55 : decode mX7_pass.2.1 55 = .ok (.istore_n 2, 1) := by decide +kernel
theorem d_X7_pass_56 : decode mX7_pass.2.1 56 = .ok (.iconst 0, 1) := by decide +kernel
theorem d_X7_pass_57 : decode mX7_pass.2.1 57 = .ok (.istore_n 3, 1) := by decide +kernel
theorem d_X7_pass_58 : decode mX7_pass.2.1 58 = .ok (.iload_n 3, 1) := by decide +kernel
theorem d_X7_pass_59 : decode mX7_pass.2.1 59 = .ok (.aload_n 0, 1) := by decide +kernel
theorem d_X7_pass_60 : decode mX7_pass.2.1 60 = .ok (.getfield 7, 3) := by decide +kernel
theorem d_X7_pass_63 : decode mX7_pass.2.1 63 = .ok (.iconst 4, 1) := by decide +kernel
theorem d_X7_pass_64 : decode mX7_pass.2.1 64 = .ok (.iaload, 1) := by decide +kernel
theorem d_X7_pass_65 : decode mX7_pass.2.1 65 = .ok (.if_icmp .ge 41, 3) := by decide +kernel
theorem d_X7_pass_68 : decode mX7_pass.2.1 68 = .ok (.aload_n 0, 1) := by decide +kernel
theorem d_X7_pass_69 : decode mX7_pass.2.1 69 = .ok (.iload_n 3, 1) := by decide +kernel
theorem d_X7_pass_70 : decode mX7_pass.2.1 70 = .ok (.invokevirtual 49, 3) := by decide +kernel
theorem d_X7_pass_73 : decode mX7_pass.2.1 73 = .ok (.ifCond .eq 27, 3) := by decide +kernel
theorem d_X7_pass_76 : decode mX7_pass.2.1 76 = .ok (.aload_n 0, 1) := by decide +kernel
theorem d_X7_pass_77 : decode mX7_pass.2.1 77 = .ok (.iload_n 3, 1) := by decide +kernel
theorem d_X7_pass_78 : decode mX7_pass.2.1 78 = .ok (.iconst 2, 1) := by decide +kernel
theorem d_X7_pass_79 : decode mX7_pass.2.1 79 = .ok (.invokevirtual 45, 3) := by decide +kernel
theorem d_X7_pass_82 : decode mX7_pass.2.1 82 = .ok (.aload_n 0, 1) := by decide +kernel
theorem d_X7_pass_83 : decode mX7_pass.2.1 83 = .ok (.getfield 7, 3) := by decide +kernel
theorem d_X7_pass_86 : decode mX7_pass.2.1 86 = .ok (.iconst 0, 1) := by decide +kernel
theorem d_X7_pass_87 : decode mX7_pass.2.1 87 = .ok (.iaload, 1) := by decide +kernel
theorem d_X7_pass_88 : decode mX7_pass.2.1 88 = .ok (.if_icmp .ge 12, 3) := by decide +kernel
theorem d_X7_pass_91 : decode mX7_pass.2.1 91 = .ok (.aload_n 0, 1) := by decide +kernel
theorem d_X7_pass_92 : decode mX7_pass.2.1 92 = .ok (.iload_n 3, 1) := by decide +kernel
theorem d_X7_pass_93 : decode mX7_pass.2.1 93 = .ok (.iconst 1, 1) := by decide +kernel
theorem d_X7_pass_94 : decode mX7_pass.2.1 94 = .ok (.invokevirtual 133, 3) := by decide +kernel
theorem d_X7_pass_97 : decode mX7_pass.2.1 97 = .ok (.iinc 2 1, 3) := by decide +kernel
theorem d_X7_pass_100 : decode mX7_pass.2.1 100 = .ok (.iinc 3 1, 3) := by decide +kernel
theorem d_X7_pass_103 : decode mX7_pass.2.1 103 = .ok (.goto (-45), 3) := by decide +kernel
theorem d_X7_pass_106 : decode mX7_pass.2.1 106 = .ok (.aload_n 0, 1) := by decide +kernel
theorem d_X7_pass_107 : decode mX7_pass.2.1 107 = .ok (.getfield 7, 3) := by decide +kernel
theorem d_X7_pass_110 : decode mX7_pass.2.1 110 = .ok (.bipush 6, 2) := by decide +kernel
theorem d_X7_pass_112 : decode mX7_pass.2.1 112 = .ok (.iaload, 1) := by decide +kernel
theorem d_X7_pass_113 : decode mX7_pass.2.1 113 = .ok (.iconst 1, 1) := by decide +kernel
theorem d_X7_pass_114 : decode mX7_pass.2.1 114 = .ok (.isub, 1) := by decide +kernel
theorem d_X7_pass_115 : decode mX7_pass.2.1 115 = .ok (.istore_n 3, 1) := by decide +kernel
theorem d_X7_pass_116 : decode mX7_pass.2.1 116 = .ok (.iload_n 3, 1) := by decide +kernel
theorem d_X7_pass_117 : decode mX7_pass.2.1 117 = .ok (.ifCond .lt 37, 3) := by decide +kernel
theorem d_X7_pass_120 : decode mX7_pass.2.1 120 = .ok (.aload_n 0, 1) := by decide +kernel
theorem d_X7_pass_121 : decode mX7_pass.2.1 121 = .ok (.getfield 7, 3) := by decide +kernel
theorem d_X7_pass_124 : decode mX7_pass.2.1 124 = .ok (.sipush 488, 3) := by decide +kernel
theorem d_X7_pass_127 : decode mX7_pass.2.1 127 = .ok (.iconst 4, 1) := by decide +kernel
theorem d_X7_pass_128 : decode mX7_pass.2.1 128 = .ok (.iload_n 3, 1) := by decide +kernel
theorem d_X7_pass_129 : decode mX7_pass.2.1 129 = .ok (.imul, 1) := by decide +kernel
theorem d_X7_pass_130 : decode mX7_pass.2.1 130 = .ok (.iadd, 1) := by decide +kernel
theorem d_X7_pass_131 : decode mX7_pass.2.1 131 = .ok (.iconst 3, 1) := by decide +kernel
theorem d_X7_pass_132 : decode mX7_pass.2.1 132 = .ok (.iadd, 1) := by decide +kernel
theorem d_X7_pass_133 : decode mX7_pass.2.1 133 = .ok (.iaload, 1) := by decide +kernel
theorem d_X7_pass_134 : decode mX7_pass.2.1 134 = .ok (.aload_n 0, 1) := by decide +kernel
theorem d_X7_pass_135 : decode mX7_pass.2.1 135 = .ok (.getfield 7, 3) := by decide +kernel
theorem d_X7_pass_138 : decode mX7_pass.2.1 138 = .ok (.iconst 0, 1) := by decide +kernel
theorem d_X7_pass_139 : decode mX7_pass.2.1 139 = .ok (.iaload, 1) := by decide +kernel
theorem d_X7_pass_140 : decode mX7_pass.2.1 140 = .ok (.if_icmp .ge 8, 3) := by decide +kernel
theorem d_X7_pass_143 : decode mX7_pass.2.1 143 = .ok (.aload_n 0, 1) := by decide +kernel
theorem d_X7_pass_144 : decode mX7_pass.2.1 144 = .ok (.iload_n 3, 1) := by decide +kernel
theorem d_X7_pass_145 : decode mX7_pass.2.1 145 = .ok (.invokevirtual 150, 3) := by decide +kernel
theorem d_X7_pass_148 : decode mX7_pass.2.1 148 = .ok (.iinc 3 (-1), 3) := by decide +kernel
theorem d_X7_pass_151 : decode mX7_pass.2.1 151 = .ok (.goto (-35), 3) := by decide +kernel
theorem d_X7_pass_154 : decode mX7_pass.2.1 154 = .ok (.aload_n 0, 1) := by decide +kernel
theorem d_X7_pass_155 : decode mX7_pass.2.1 155 = .ok (.invokevirtual 166, 3) := by decide +kernel
theorem d_X7_pass_158 : decode mX7_pass.2.1 158 = .ok (.iload_n 2, 1) := by decide +kernel
theorem d_X7_pass_159 : decode mX7_pass.2.1 159 = .ok (.ireturn, 1) := by decide +kernel
def T_X7_pass_148 (κ116 : Nat → Int32 → Int32 → Mem → Prop) (Q : Int32 → Mem → Prop) (v0 : Nat) (v2 : Int32) (v3 : Int32) (M : Mem) : Prop := ∀ x1 : Int32, x1 = v3 + (-1) → κ116 v0 v2 x1 M
set_option maxRecDepth 100000 in
set_option maxHeartbeats 4000000 in
theorem B_X7_pass_148 {g : GG} (Q : Int32 → Mem → Prop) (κ116 : Nat → Int32 → Int32 → Mem → Prop) (hκ116 : ∀ (v0 : Nat) (v2 : Int32) (v3 : Int32) (M : Mem), κ116 v0 v2 v3 M → WP g 11 mX7_pass 116 [some (.ref (g.1 + v0)), none, some (.int v2), some (.int v3)] [] M 0 (oI Q noX)) (v0 : Nat) (v2 : Int32) (v3 : Int32) (M : Mem) (h : T_X7_pass_148 κ116 Q v0 v2 v3 M) : WP g 11 mX7_pass 148 [some (.ref (g.1 + v0)), none, some (.int v2), some (.int v3)] [] M 0 (oI Q noX) := by
  unfold T_X7_pass_148 at h
  obtain ⟨x1, ex1⟩ : ∃ z : Int32, z = v3 + (-1) := ⟨_, rfl⟩
  have h := h x1 ex1
  refine R_iinc (pc := 148) (v := x1) (L' := [some (.ref (g.1 + v0)), none, some (.int v2), some (.int x1)]) d_X7_pass_148 rfl (by rw [ex1]; rfl) (by decide) rfl ?_
  refine R_goto (pc := 151) (tgt := 116) d_X7_pass_151 (by decide) ?_
  exact WP_sub (hκ116 v0 v2 x1 M h) (by decide) (ls_s (ls_n (ls_s (ls_s ls_0))))
def T_X7_pass_116 (Q : Int32 → Mem → Prop) : Nat → Nat → Int32 → Int32 → Mem → Prop
  | 0, _, _, _, _ => False
  | n + 1, v0, v2, v3, M => if v3 < 0 then ((kd v0 = 7) ∧ T_X7_keeps (fun M2 => Q v2 M2)  v0 M) else ((kd v0 = 7) ∧ (kd (rf v0 1) = 9) ∧ (vp_in ((488 + (4 * v3)) + 3) (ln (rf v0 1))) ∧ (vp_in 0 (ln (rf v0 1))) ∧ if (M.1 (rf v0 1) (Int32.toNatClampNeg 0)) ≤ (M.1 (rf v0 1) (Int32.toNatClampNeg ((488 + (4 * v3)) + 3))) then (T_X7_pass_148 (T_X7_pass_116 Q n) Q v0 v2 v3 M) else (T_X7_dropsWish (fun M7 => T_X7_pass_148 (T_X7_pass_116 Q n) Q v0 v2 v3 M7)  v0 v3 M))
set_option maxRecDepth 100000 in
set_option maxHeartbeats 4000000 in
theorem B_X7_pass_116 {g : GG} (Q : Int32 → Mem → Prop) : ∀ (n : Nat) (v0 : Nat) (v2 : Int32) (v3 : Int32) (M : Mem), T_X7_pass_116 Q n v0 v2 v3 M → WP g 11 mX7_pass 116 [some (.ref (g.1 + v0)), none, some (.int v2), some (.int v3)] [] M 0 (oI Q noX) := by
  intro n
  induction n with
  | zero => intro v0 v2 v3 M h; exact h.elim
  | succ n hκ116 =>
    intro v0 v2 v3 M h
    unfold T_X7_pass_116 at h
    refine R_iload_n (pc := 116) d_X7_pass_116 rfl rfl ?_
    refine R_if_lt (pc := 117) (tgt := 154) d_X7_pass_117 (by decide) (fun c => ?_) (fun c => ?_)
    · rw [if_pos c] at h
      refine R_aload_n (pc := 154) d_X7_pass_154 rfl rfl ?_
      obtain ⟨k1, h⟩ := h
      refine R_callV (pc := 155) (As := []) (rest := []) (c_X7_keeps (g := g) v0 M _ h) rfl rfl cal_RX7_166 ins_X7_keeps sel_X7_keeps (cls_at k1 clsOK7) (by decide) (by decide) rfl rfl (Nat.le_of_ble_eq_true rfl) d_X7_pass_155 (k_V (fun M2 h => ?_)) (fun _ _ h9 => False.elim h9)
      try dsimp only at h
      refine R_iload_n (pc := 158) d_X7_pass_158 rfl rfl ?_
      exact R_retv (pc := 159) d_X7_pass_159 h
    · rw [if_neg c] at h
      refine R_aload_n (pc := 120) d_X7_pass_120 rfl rfl ?_
      obtain ⟨k3, h⟩ := h
      refine R_getR (pc := 121) fld_RX7_7 rfl rfl k3 d_X7_pass_121 ?_
      refine R_sipush (pc := 124) (v := 488) d_X7_pass_124 (by decide) ?_
      refine R_iconst (pc := 127) (v := 4) d_X7_pass_127 (by decide) ?_
      refine R_iload_n (pc := 128) d_X7_pass_128 rfl rfl ?_
      refine R_imul (pc := 129) d_X7_pass_129 ?_
      refine R_iadd (pc := 130) d_X7_pass_130 ?_
      refine R_iconst (pc := 131) (v := 3) d_X7_pass_131 (by decide) ?_
      refine R_iadd (pc := 132) d_X7_pass_132 ?_
      obtain ⟨k4, h⟩ := h
      obtain ⟨k5, h⟩ := h
      refine R_iald (pc := 133) k4 k5 d_X7_pass_133 ?_
      refine R_aload_n (pc := 134) d_X7_pass_134 rfl rfl ?_
      refine R_getR (pc := 135) fld_RX7_7 rfl rfl k3 d_X7_pass_135 ?_
      refine R_iconst (pc := 138) (v := 0) d_X7_pass_138 (by decide) ?_
      obtain ⟨k6, h⟩ := h
      refine R_iald (pc := 139) k4 k6 d_X7_pass_139 ?_
      refine R_icmp_ge (pc := 140) (tgt := 148) d_X7_pass_140 (by decide) (fun c => ?_) (fun c => ?_)
      · rw [if_pos c] at h
        exact WP_sub (B_X7_pass_148 Q (T_X7_pass_116 Q n) hκ116 v0 v2 v3 M h) (by decide) (ls_s (ls_n (ls_s (ls_s ls_0))))
      · rw [if_neg c] at h
        refine R_aload_n (pc := 143) d_X7_pass_143 rfl rfl ?_
        refine R_iload_n (pc := 144) d_X7_pass_144 rfl rfl ?_
        refine R_callV (pc := 145) (As := [.int v3]) (rest := []) (c_X7_dropsWish (g := g) v0 v3 M _ h) rfl rfl cal_RX7_150 ins_X7_dropsWish sel_X7_dropsWish (cls_at k3 clsOK7) (by decide) (by decide) rfl rfl (Nat.le_of_ble_eq_true rfl) d_X7_pass_145 (k_V (fun M7 h => ?_)) (fun _ _ h9 => False.elim h9)
        try dsimp only at h
        exact WP_sub (B_X7_pass_148 Q (T_X7_pass_116 Q n) hκ116 v0 v2 v3 M7 h) (by decide) (ls_s (ls_n (ls_s (ls_s ls_0))))
def T_X7_pass_100 (κ58 : Nat → Int32 → Int32 → Mem → Prop) (Q : Int32 → Mem → Prop) (v0 : Nat) (v2 : Int32) (v3 : Int32) (M : Mem) : Prop := ∀ x1 : Int32, x1 = v3 + 1 → κ58 v0 v2 x1 M
set_option maxRecDepth 100000 in
set_option maxHeartbeats 4000000 in
theorem B_X7_pass_100 {g : GG} (Q : Int32 → Mem → Prop) (κ58 : Nat → Int32 → Int32 → Mem → Prop) (hκ58 : ∀ (v0 : Nat) (v2 : Int32) (v3 : Int32) (M : Mem), κ58 v0 v2 v3 M → WP g 11 mX7_pass 58 [some (.ref (g.1 + v0)), none, some (.int v2), some (.int v3)] [] M 0 (oI Q noX)) (v0 : Nat) (v2 : Int32) (v3 : Int32) (M : Mem) (h : T_X7_pass_100 κ58 Q v0 v2 v3 M) : WP g 11 mX7_pass 100 [some (.ref (g.1 + v0)), none, some (.int v2), some (.int v3)] [] M 0 (oI Q noX) := by
  unfold T_X7_pass_100 at h
  obtain ⟨x1, ex1⟩ : ∃ z : Int32, z = v3 + 1 := ⟨_, rfl⟩
  have h := h x1 ex1
  refine R_iinc (pc := 100) (v := x1) (L' := [some (.ref (g.1 + v0)), none, some (.int v2), some (.int x1)]) d_X7_pass_100 rfl (by rw [ex1]; rfl) (by decide) rfl ?_
  refine R_goto (pc := 103) (tgt := 58) d_X7_pass_103 (by decide) ?_
  exact WP_sub (hκ58 v0 v2 x1 M h) (by decide) (ls_s (ls_n (ls_s (ls_s ls_0))))
def T_X7_pass_58 (Q : Int32 → Mem → Prop) : Nat → Nat → Int32 → Int32 → Mem → Prop
  | 0, _, _, _, _ => False
  | n + 1, v0, v2, v3, M => (kd v0 = 7) ∧ (kd (rf v0 1) = 9) ∧ (vp_in 4 (ln (rf v0 1))) ∧ if (M.1 (rf v0 1) (Int32.toNatClampNeg 4)) ≤ v3 then ((vp_in 6 (ln (rf v0 1))) ∧ ∀ x5 : Int32, x5 = (M.1 (rf v0 1) (Int32.toNatClampNeg 6)) - 1 → (∃ N : Nat, T_X7_pass_116 Q N v0 v2 x5 M)) else (T_X7_isBooked (fun y7 M6 => if y7 = 0 then (T_X7_pass_100 (T_X7_pass_58 Q n) Q v0 v2 v3 M6) else (T_X7_of (fun y9 M8 => (vp_in 0 (ln (rf v0 1))) ∧ if (M8.1 (rf v0 1) (Int32.toNatClampNeg 0)) ≤ y9 then (T_X7_pass_100 (T_X7_pass_58 Q n) Q v0 v2 v3 M8) else (T_X7_setState (fun M11 => ∀ x12 : Int32, x12 = v2 + 1 → T_X7_pass_100 (T_X7_pass_58 Q n) Q v0 x12 v3 M11)  v0 v3 1 M8))  v0 v3 2 M6))  v0 v3 M)
set_option maxRecDepth 100000 in
set_option maxHeartbeats 4000000 in
theorem B_X7_pass_58 {g : GG} (Q : Int32 → Mem → Prop) : ∀ (n : Nat) (v0 : Nat) (v2 : Int32) (v3 : Int32) (M : Mem), T_X7_pass_58 Q n v0 v2 v3 M → WP g 11 mX7_pass 58 [some (.ref (g.1 + v0)), none, some (.int v2), some (.int v3)] [] M 0 (oI Q noX) := by
  intro n
  induction n with
  | zero => intro v0 v2 v3 M h; exact h.elim
  | succ n hκ58 =>
    intro v0 v2 v3 M h
    unfold T_X7_pass_58 at h
    refine R_iload_n (pc := 58) d_X7_pass_58 rfl rfl ?_
    refine R_aload_n (pc := 59) d_X7_pass_59 rfl rfl ?_
    obtain ⟨k1, h⟩ := h
    refine R_getR (pc := 60) fld_RX7_7 rfl rfl k1 d_X7_pass_60 ?_
    refine R_iconst (pc := 63) (v := 4) d_X7_pass_63 (by decide) ?_
    obtain ⟨k2, h⟩ := h
    obtain ⟨k3, h⟩ := h
    refine R_iald (pc := 64) k2 k3 d_X7_pass_64 ?_
    refine R_icmp_ge (pc := 65) (tgt := 106) d_X7_pass_65 (by decide) (fun c => ?_) (fun c => ?_)
    · rw [if_pos c] at h
      refine R_aload_n (pc := 106) d_X7_pass_106 rfl rfl ?_
      refine R_getR (pc := 107) fld_RX7_7 rfl rfl k1 d_X7_pass_107 ?_
      refine R_bipush (pc := 110) (v := 6) d_X7_pass_110 (by decide) ?_
      obtain ⟨k4, h⟩ := h
      refine R_iald (pc := 112) k2 k4 d_X7_pass_112 ?_
      refine R_iconst (pc := 113) (v := 1) d_X7_pass_113 (by decide) ?_
      refine R_isub (pc := 114) d_X7_pass_114 ?_
      refine N_i (fun x5 ex5 => ?_)
      have h := h x5 ex5
      refine R_istore_n (pc := 115) (L' := [some (.ref (g.1 + v0)), none, some (.int v2), some (.int x5)]) d_X7_pass_115 rfl (by decide) rfl ?_
      obtain ⟨N, h⟩ := h
      exact WP_sub (B_X7_pass_116 Q N v0 v2 x5 M h) (by decide) (ls_s (ls_n (ls_s (ls_s ls_0))))
    · rw [if_neg c] at h
      refine R_aload_n (pc := 68) d_X7_pass_68 rfl rfl ?_
      refine R_iload_n (pc := 69) d_X7_pass_69 rfl rfl ?_
      refine R_callV (pc := 70) (As := [.int v3]) (rest := []) (c_X7_isBooked (g := g) v0 v3 M _ h) rfl rfl cal_RX7_49 ins_X7_isBooked sel_X7_isBooked (cls_at k1 clsOK7) (by decide) (by decide) rfl rfl (Nat.le_of_ble_eq_true rfl) d_X7_pass_70 (k_Z (fun y7 M6 h => ?_)) (fun _ _ h9 => False.elim h9)
      try dsimp only at h
      refine R_if_eq (pc := 73) (tgt := 100) d_X7_pass_73 (by decide) (fun c => ?_) (fun c => ?_)
      · rw [if_pos c] at h
        exact WP_sub (B_X7_pass_100 Q (T_X7_pass_58 Q n) hκ58 v0 v2 v3 M6 h) (by decide) (ls_s (ls_n (ls_s (ls_s ls_0))))
      · rw [if_neg c] at h
        refine R_aload_n (pc := 76) d_X7_pass_76 rfl rfl ?_
        refine R_iload_n (pc := 77) d_X7_pass_77 rfl rfl ?_
        refine R_iconst (pc := 78) (v := 2) d_X7_pass_78 (by decide) ?_
        refine R_callV (pc := 79) (As := [.int v3, .int 2]) (rest := []) (c_X7_of (g := g) v0 v3 2 M6 _ h) rfl rfl cal_RX7_45 ins_X7_of sel_X7_of (cls_at k1 clsOK7) (by decide) (by decide) rfl rfl (Nat.le_of_ble_eq_true rfl) d_X7_pass_79 (k_I (fun y9 M8 h => ?_)) (fun _ _ h9 => False.elim h9)
        try dsimp only at h
        refine R_aload_n (pc := 82) d_X7_pass_82 rfl rfl ?_
        refine R_getR (pc := 83) fld_RX7_7 rfl rfl k1 d_X7_pass_83 ?_
        refine R_iconst (pc := 86) (v := 0) d_X7_pass_86 (by decide) ?_
        obtain ⟨k10, h⟩ := h
        refine R_iald (pc := 87) k2 k10 d_X7_pass_87 ?_
        refine R_icmp_ge (pc := 88) (tgt := 100) d_X7_pass_88 (by decide) (fun c => ?_) (fun c => ?_)
        · rw [if_pos c] at h
          exact WP_sub (B_X7_pass_100 Q (T_X7_pass_58 Q n) hκ58 v0 v2 v3 M8 h) (by decide) (ls_s (ls_n (ls_s (ls_s ls_0))))
        · rw [if_neg c] at h
          refine R_aload_n (pc := 91) d_X7_pass_91 rfl rfl ?_
          refine R_iload_n (pc := 92) d_X7_pass_92 rfl rfl ?_
          refine R_iconst (pc := 93) (v := 1) d_X7_pass_93 (by decide) ?_
          refine R_callV (pc := 94) (As := [.int v3, .int 1]) (rest := []) (c_X7_setState (g := g) v0 v3 1 M8 _ h) rfl rfl cal_RX7_133 ins_X7_setState sel_X7_setState (cls_at k1 clsOK7) (by decide) (by decide) rfl rfl (Nat.le_of_ble_eq_true rfl) d_X7_pass_94 (k_V (fun M11 h => ?_)) (fun _ _ h9 => False.elim h9)
          try dsimp only at h
          obtain ⟨x12, ex12⟩ : ∃ z : Int32, z = v2 + 1 := ⟨_, rfl⟩
          have h := h x12 ex12
          refine R_iinc (pc := 97) (v := x12) (L' := [some (.ref (g.1 + v0)), none, some (.int x12), some (.int v3)]) d_X7_pass_97 rfl (by rw [ex12]; rfl) (by decide) rfl ?_
          exact WP_sub (B_X7_pass_100 Q (T_X7_pass_58 Q n) hκ58 v0 x12 v3 M11 h) (by decide) (ls_s (ls_n (ls_s (ls_s ls_0))))
def T_X7_pass (Q : Int32 → Mem → Prop) (v0 : Nat) (v1 : Int32) (M : Mem) : Prop := (kd v0 = 7) ∧ ∀ M2 : Mem, M2 = mset M v0 0 0 → T_X7_remembers (fun M3 => T_X7_in (fun y5 M4 => if y5 = 0 then (T_X7_fails (fun y12 M11 => Q y12 M11)  v0 1 M4) else ((kd (rf v0 1) = 9) ∧ (vp_in 0 (ln (rf v0 1))) ∧ if ((M4.1 (rf v0 1) (Int32.toNatClampNeg 0)) + v1) ≤ (55 : Int32) then (∀ M8 : Mem, M8 = mset M4 (rf v0 1) (Int32.toNatClampNeg 0) ((M4.1 (rf v0 1) (Int32.toNatClampNeg 0)) + v1) → (∃ N : Nat, T_X7_pass_58 Q N v0 0 0 M8)) else (T_X7_fails (fun y10 M9 => Q y10 M9)  v0 2 M4)))  v1 1 20 M3)  v0 M2
set_option maxRecDepth 100000 in
set_option maxHeartbeats 4000000 in
theorem c_X7_pass {g : GG} (v0 : Nat) (v1 : Int32) (M : Mem) (Q : Int32 → Mem → Prop) (h : T_X7_pass Q v0 v1 M) : CT g 11 mX7_pass [.ref (g.1 + v0), .int v1] M 0 (oI Q noX) := by
  refine CT_of (L := [some (.ref (g.1 + v0)), some (.int v1), none, none]) (by decide) rfl (Nat.le_of_ble_eq_true rfl) (ro_I rfl) rfl ?_
  unfold T_X7_pass at h
  refine R_aload_n (pc := 0) d_X7_pass_0 rfl rfl ?_
  refine R_iconst (pc := 1) (v := 0) d_X7_pass_1 (by decide) ?_
  obtain ⟨k1, h⟩ := h
  refine R_putI (pc := 2) fld_RX7_37 rfl rfl rfl k1 rfl rfl d_X7_pass_2 (N_M (fun M2 eM2 => ?_))
  have h := h M2 eM2
  refine R_aload_n (pc := 5) d_X7_pass_5 rfl rfl ?_
  refine R_callV (pc := 6) (As := []) (rest := []) (c_X7_remembers (g := g) v0 M2 _ h) rfl rfl cal_RX7_160 ins_X7_remembers sel_X7_remembers (cls_at k1 clsOK7) (by decide) (by decide) rfl rfl (Nat.le_of_ble_eq_true rfl) d_X7_pass_6 (k_V (fun M3 h => ?_)) (fun _ _ h9 => False.elim h9)
  try dsimp only at h
  refine R_iload_n (pc := 9) d_X7_pass_9 rfl rfl ?_
  refine R_iconst (pc := 10) (v := 1) d_X7_pass_10 (by decide) ?_
  refine R_bipush (pc := 11) (v := 20) d_X7_pass_11 (by decide) ?_
  refine R_callS (pc := 13) (As := [.int v1, .int 1, .int 20]) (rest := []) (c_X7_in (g := g) v1 1 20 M3 _ h) rfl rfl cal_RX7_41 sta_X7_in (by decide) (by decide) rfl rfl (Nat.le_of_ble_eq_true rfl) d_X7_pass_13 (k_Z (fun y5 M4 h => ?_)) (fun _ _ h9 => False.elim h9)
  try dsimp only at h
  refine R_if_ne (pc := 16) (tgt := 25) d_X7_pass_16 (by decide) (fun c => ?_) (fun c => ?_)
  · rw [if_neg c] at h
    refine R_aload_n (pc := 25) d_X7_pass_25 rfl rfl ?_
    refine R_getR (pc := 26) fld_RX7_7 rfl rfl k1 d_X7_pass_26 ?_
    refine R_iconst (pc := 29) (v := 0) d_X7_pass_29 (by decide) ?_
    obtain ⟨k6, h⟩ := h
    obtain ⟨k7, h⟩ := h
    refine R_iald (pc := 30) k6 k7 d_X7_pass_30 ?_
    refine R_iload_n (pc := 31) d_X7_pass_31 rfl rfl ?_
    refine R_iadd (pc := 32) d_X7_pass_32 ?_
    refine R_bipush (pc := 33) (v := 55) d_X7_pass_33 (by decide) ?_
    refine R_icmp_le (pc := 35) (tgt := 44) d_X7_pass_35 (by decide) (fun c => ?_) (fun c => ?_)
    · rw [if_pos c] at h
      refine R_aload_n (pc := 44) d_X7_pass_44 rfl rfl ?_
      refine R_getR (pc := 45) fld_RX7_7 rfl rfl k1 d_X7_pass_45 ?_
      refine R_iconst (pc := 48) (v := 0) d_X7_pass_48 (by decide) ?_
      refine R_dup2 (pc := 49) d_X7_pass_49 rfl rfl ?_
      refine R_iald (pc := 50) k6 k7 d_X7_pass_50 ?_
      refine R_iload_n (pc := 51) d_X7_pass_51 rfl rfl ?_
      refine R_iadd (pc := 52) d_X7_pass_52 ?_
      refine R_iast (pc := 53) k6 k7 d_X7_pass_53 (N_M (fun M8 eM8 => ?_))
      have h := h M8 eM8
      refine R_iconst (pc := 54) (v := 0) d_X7_pass_54 (by decide) ?_
      refine R_istore_n (pc := 55) (L' := [some (.ref (g.1 + v0)), some (.int v1), some (.int 0), none]) d_X7_pass_55 rfl (by decide) rfl ?_
      refine R_iconst (pc := 56) (v := 0) d_X7_pass_56 (by decide) ?_
      refine R_istore_n (pc := 57) (L' := [some (.ref (g.1 + v0)), some (.int v1), some (.int 0), some (.int 0)]) d_X7_pass_57 rfl (by decide) rfl ?_
      obtain ⟨N, h⟩ := h
      exact WP_sub (B_X7_pass_58 Q N v0 0 0 M8 h) (by decide) (ls_s (ls_n (ls_s (ls_s ls_0))))
    · rw [if_neg c] at h
      refine R_aload_n (pc := 38) d_X7_pass_38 rfl rfl ?_
      refine R_iconst (pc := 39) (v := 2) d_X7_pass_39 (by decide) ?_
      refine R_callV (pc := 40) (As := [.int 2]) (rest := []) (c_X7_fails (g := g) v0 2 M4 _ h) rfl rfl cal_RX7_163 ins_X7_fails sel_X7_fails (cls_at k1 clsOK7) (by decide) (by decide) rfl rfl (Nat.le_of_ble_eq_true rfl) d_X7_pass_40 (k_I (fun y10 M9 h => ?_)) (fun _ _ h9 => False.elim h9)
      try dsimp only at h
      exact R_retv (pc := 43) d_X7_pass_43 h
  · rw [if_pos c] at h
    refine R_aload_n (pc := 19) d_X7_pass_19 rfl rfl ?_
    refine R_iconst (pc := 20) (v := 1) d_X7_pass_20 (by decide) ?_
    refine R_callV (pc := 21) (As := [.int 1]) (rest := []) (c_X7_fails (g := g) v0 1 M4 _ h) rfl rfl cal_RX7_163 ins_X7_fails sel_X7_fails (cls_at k1 clsOK7) (by decide) (by decide) rfl rfl (Nat.le_of_ble_eq_true rfl) d_X7_pass_21 (k_I (fun y12 M11 h => ?_)) (fun _ _ h9 => False.elim h9)
    try dsimp only at h
    exact R_retv (pc := 24) d_X7_pass_24 h
/-! X7_isOther -/
theorem d_X7_isOther_0 : decode mX7_isOther.2.1 0 = .ok (.iload_n 1, 1) := by decide +kernel
theorem d_X7_isOther_1 : decode mX7_isOther.2.1 1 = .ok (.ifCond .ne 19, 3) := by decide +kernel
theorem d_X7_isOther_4 : decode mX7_isOther.2.1 4 = .ok (.iload_n 2, 1) := by decide +kernel
theorem d_X7_isOther_5 : decode mX7_isOther.2.1 5 = .ok (.iconst 0, 1) := by decide +kernel
theorem d_X7_isOther_6 : decode mX7_isOther.2.1 6 = .ok (.aload_n 0, 1) := by decide +kernel
theorem d_X7_isOther_7 : decode mX7_isOther.2.1 7 = .ok (.getfield 7, 3) := by decide +kernel
theorem d_X7_isOther_10 : decode mX7_isOther.2.1 10 = .ok (.iconst 2, 1) := by decide +kernel
theorem d_X7_isOther_11 : decode mX7_isOther.2.1 11 = .ok (.iaload, 1) := by decide +kernel
theorem d_X7_isOther_12 : decode mX7_isOther.2.1 12 = .ok (.iconst 1, 1) := by decide +kernel
theorem d_X7_isOther_13 : decode mX7_isOther.2.1 13 = .ok (.isub, 1) := by decide +kernel
theorem d_X7_isOther_14 : decode mX7_isOther.2.1 14 = .ok (.invokestatic 41, 3) := by decide +kernel
theorem d_X7_isOther_17 : decode mX7_isOther.2.1 17 = .ok (.goto 35, 3) := by decide +kernel
theorem d_X7_isOther_20 : decode mX7_isOther.2.1 20 = .ok (.iload_n 1, 1) := by decide +kernel
theorem d_X7_isOther_21 : decode mX7_isOther.2.1 21 = .ok (.iconst 1, 1) := by decide +kernel
theorem d_X7_isOther_22 : decode mX7_isOther.2.1 22 = .ok (.if_icmp .ne 12, 3) := by decide +kernel
theorem d_X7_isOther_25 : decode mX7_isOther.2.1 25 = .ok (.iload_n 2, 1) := by decide +kernel
theorem d_X7_isOther_26 : decode mX7_isOther.2.1 26 = .ok (.iconst 0, 1) := by decide +kernel
theorem d_X7_isOther_27 : decode mX7_isOther.2.1 27 = .ok (.iconst 2, 1) := by decide +kernel
theorem d_X7_isOther_28 : decode mX7_isOther.2.1 28 = .ok (.invokestatic 41, 3) := by decide +kernel
theorem d_X7_isOther_31 : decode mX7_isOther.2.1 31 = .ok (.goto 21, 3) := by decide +kernel
theorem d_X7_isOther_34 : decode mX7_isOther.2.1 34 = .ok (.iload_n 1, 1) := by decide +kernel
theorem d_X7_isOther_35 : decode mX7_isOther.2.1 35 = .ok (.iconst 2, 1) := by decide +kernel
theorem d_X7_isOther_36 : decode mX7_isOther.2.1 36 = .ok (.if_icmp .ne 11, 3) := by decide +kernel
theorem d_X7_isOther_39 : decode mX7_isOther.2.1 39 = .ok (.aload_n 0, 1) := by decide +kernel
theorem d_X7_isOther_40 : decode mX7_isOther.2.1 40 = .ok (.iload_n 2, 1) := by decide +kernel
theorem d_X7_isOther_41 : decode mX7_isOther.2.1 41 = .ok (.invokevirtual 179, 3) := by decide +kernel
theorem d_X7_isOther_44 : decode mX7_isOther.2.1 44 = .ok (.ifCond .eq 7, 3) := by decide +kernel
theorem d_X7_isOther_47 : decode mX7_isOther.2.1 47 = .ok (.iconst 1, 1) := by decide +kernel
theorem d_X7_isOther_48 : decode mX7_isOther.2.1 48 = .ok (.goto 4, 3) := by decide +kernel
theorem d_X7_isOther_51 : decode mX7_isOther.2.1 51 = .ok (.iconst 0, 1) := by decide +kernel
theorem d_X7_isOther_52 : decode mX7_isOther.2.1 52 = .ok (.ireturn, 1) := by decide +kernel
def T_X7_isOther_52 (Q : Int32 → Mem → Prop) (s0 : Int32) (M : Mem) : Prop := ((s0 : Int32) = 0 ∨ (s0 : Int32) = 1) ∧ Q s0 M
set_option maxRecDepth 100000 in
set_option maxHeartbeats 4000000 in
theorem B_X7_isOther_52 {g : GG} (Q : Int32 → Mem → Prop) (s0 : Int32) (M : Mem) (h : T_X7_isOther_52 Q s0 M) : WP g 11 mX7_isOther 52 [none, none, none] [.int s0] M 0 (oZ Q noX) := by
  unfold T_X7_isOther_52 at h
  exact R_retv (pc := 52) d_X7_isOther_52 h
def T_X7_isOther_47 (Q : Int32 → Mem → Prop) (M : Mem) : Prop := T_X7_isOther_52 Q 1 M
set_option maxRecDepth 100000 in
set_option maxHeartbeats 4000000 in
theorem B_X7_isOther_47 {g : GG} (Q : Int32 → Mem → Prop) (M : Mem) (h : T_X7_isOther_47 Q  M) : WP g 11 mX7_isOther 47 [none, none, none] [] M 0 (oZ Q noX) := by
  unfold T_X7_isOther_47 at h
  refine R_iconst (pc := 47) (v := 1) d_X7_isOther_47 (by decide) ?_
  refine R_goto (pc := 48) (tgt := 52) d_X7_isOther_48 (by decide) ?_
  exact WP_sub (B_X7_isOther_52 Q 1 M h) (by decide) (ls_n (ls_n (ls_n ls_0)))
def T_X7_isOther (Q : Int32 → Mem → Prop) (v0 : Nat) (v1 : Int32) (v2 : Int32) (M : Mem) : Prop := if v1 = 0 then ((kd v0 = 7) ∧ (kd (rf v0 1) = 9) ∧ (vp_in 2 (ln (rf v0 1))) ∧ T_X7_in (fun y10 M9 => T_X7_isOther_52 Q y10 M9)  v2 0 ((M.1 (rf v0 1) (Int32.toNatClampNeg 2)) - 1) M) else (if v1 = (1 : Int32) then (T_X7_in (fun y5 M4 => T_X7_isOther_52 Q y5 M4)  v2 0 2 M) else (if v1 = (2 : Int32) then ((kd v0 = 7) ∧ T_X7_isInmate (fun y3 M2 => if y3 = 0 then (T_X7_isOther_52 Q 0 M2) else (T_X7_isOther_47 Q M2))  v0 v2 M) else (T_X7_isOther_47 Q M)))
set_option maxRecDepth 100000 in
set_option maxHeartbeats 4000000 in
theorem c_X7_isOther {g : GG} (v0 : Nat) (v1 : Int32) (v2 : Int32) (M : Mem) (Q : Int32 → Mem → Prop) (h : T_X7_isOther Q v0 v1 v2 M) : CT g 11 mX7_isOther [.ref (g.1 + v0), .int v1, .int v2] M 0 (oZ Q noX) := by
  refine CT_of (L := [some (.ref (g.1 + v0)), some (.int v1), some (.int v2)]) (by decide) rfl (Nat.le_of_ble_eq_true rfl) (ro_Z rfl) rfl ?_
  unfold T_X7_isOther at h
  refine R_iload_n (pc := 0) d_X7_isOther_0 rfl rfl ?_
  refine R_if_ne (pc := 1) (tgt := 20) d_X7_isOther_1 (by decide) (fun c => ?_) (fun c => ?_)
  · rw [if_neg c] at h
    refine R_iload_n (pc := 20) d_X7_isOther_20 rfl rfl ?_
    refine R_iconst (pc := 21) (v := 1) d_X7_isOther_21 (by decide) ?_
    refine R_icmp_ne (pc := 22) (tgt := 34) d_X7_isOther_22 (by decide) (fun c => ?_) (fun c => ?_)
    · rw [if_neg c] at h
      refine R_iload_n (pc := 34) d_X7_isOther_34 rfl rfl ?_
      refine R_iconst (pc := 35) (v := 2) d_X7_isOther_35 (by decide) ?_
      refine R_icmp_ne (pc := 36) (tgt := 47) d_X7_isOther_36 (by decide) (fun c => ?_) (fun c => ?_)
      · rw [if_neg c] at h
        exact WP_sub (B_X7_isOther_47 Q M h) (by decide) (ls_n (ls_n (ls_n ls_0)))
      · rw [if_pos c] at h
        refine R_aload_n (pc := 39) d_X7_isOther_39 rfl rfl ?_
        refine R_iload_n (pc := 40) d_X7_isOther_40 rfl rfl ?_
        obtain ⟨k1, h⟩ := h
        refine R_callV (pc := 41) (As := [.int v2]) (rest := []) (c_X7_isInmate (g := g) v0 v2 M _ h) rfl rfl cal_RX7_179 ins_X7_isInmate sel_X7_isInmate (cls_at k1 clsOK7) (by decide) (by decide) rfl rfl (Nat.le_of_ble_eq_true rfl) d_X7_isOther_41 (k_Z (fun y3 M2 h => ?_)) (fun _ _ h9 => False.elim h9)
        try dsimp only at h
        refine R_if_eq (pc := 44) (tgt := 51) d_X7_isOther_44 (by decide) (fun c => ?_) (fun c => ?_)
        · rw [if_pos c] at h
          refine R_iconst (pc := 51) (v := 0) d_X7_isOther_51 (by decide) ?_
          exact WP_sub (B_X7_isOther_52 Q 0 M2 h) (by decide) (ls_n (ls_n (ls_n ls_0)))
        · rw [if_neg c] at h
          exact WP_sub (B_X7_isOther_47 Q M2 h) (by decide) (ls_n (ls_n (ls_n ls_0)))
    · rw [if_pos c] at h
      refine R_iload_n (pc := 25) d_X7_isOther_25 rfl rfl ?_
      refine R_iconst (pc := 26) (v := 0) d_X7_isOther_26 (by decide) ?_
      refine R_iconst (pc := 27) (v := 2) d_X7_isOther_27 (by decide) ?_
      refine R_callS (pc := 28) (As := [.int v2, .int 0, .int 2]) (rest := []) (c_X7_in (g := g) v2 0 2 M _ h) rfl rfl cal_RX7_41 sta_X7_in (by decide) (by decide) rfl rfl (Nat.le_of_ble_eq_true rfl) d_X7_isOther_28 (k_Z (fun y5 M4 h => ?_)) (fun _ _ h9 => False.elim h9)
      try dsimp only at h
      refine R_goto (pc := 31) (tgt := 52) d_X7_isOther_31 (by decide) ?_
      exact WP_sub (B_X7_isOther_52 Q y5 M4 h) (by decide) (ls_n (ls_n (ls_n ls_0)))
  · rw [if_pos c] at h
    refine R_iload_n (pc := 4) d_X7_isOther_4 rfl rfl ?_
    refine R_iconst (pc := 5) (v := 0) d_X7_isOther_5 (by decide) ?_
    refine R_aload_n (pc := 6) d_X7_isOther_6 rfl rfl ?_
    obtain ⟨k6, h⟩ := h
    refine R_getR (pc := 7) fld_RX7_7 rfl rfl k6 d_X7_isOther_7 ?_
    refine R_iconst (pc := 10) (v := 2) d_X7_isOther_10 (by decide) ?_
    obtain ⟨k7, h⟩ := h
    obtain ⟨k8, h⟩ := h
    refine R_iald (pc := 11) k7 k8 d_X7_isOther_11 ?_
    refine R_iconst (pc := 12) (v := 1) d_X7_isOther_12 (by decide) ?_
    refine R_isub (pc := 13) d_X7_isOther_13 ?_
    refine R_callS (pc := 14) (As := [.int v2, .int 0, .int ((M.1 (rf v0 1) (Int32.toNatClampNeg 2)) - 1)]) (rest := []) (c_X7_in (g := g) v2 0 ((M.1 (rf v0 1) (Int32.toNatClampNeg 2)) - 1) M _ h) rfl rfl cal_RX7_41 sta_X7_in (by decide) (by decide) rfl rfl (Nat.le_of_ble_eq_true rfl) d_X7_isOther_14 (k_Z (fun y10 M9 h => ?_)) (fun _ _ h9 => False.elim h9)
    try dsimp only at h
    refine R_goto (pc := 17) (tgt := 52) d_X7_isOther_17 (by decide) ?_
    exact WP_sub (B_X7_isOther_52 Q y10 M9 h) (by decide) (ls_n (ls_n (ls_n ls_0)))
/-! X7_parts -/
theorem d_X7_parts_0 : decode mX7_parts.2.1 0 = .ok (.iconst 0, 1) := by decide +kernel
theorem d_X7_parts_1 : decode mX7_parts.2.1 1 = .ok (.istore 5, 2) := by decide +kernel
theorem d_X7_parts_3 : decode mX7_parts.2.1 3 = .ok (.iconst 4, 1) := by decide +kernel
theorem d_X7_parts_4 : decode mX7_parts.2.1 4 = .ok (.iload_n 3, 1) := by decide +kernel
theorem d_X7_parts_5 : decode mX7_parts.2.1 5 = .ok (.imul, 1) := by decide +kernel
theorem d_X7_parts_6 : decode mX7_parts.2.1 6 = .ok (.istore 6, 2) := by decide +kernel
theorem d_X7_parts_8 : decode mX7_parts.2.1 8 = .ok (.iload 6, 2) := by decide +kernel
theorem d_X7_parts_10 : decode mX7_parts.2.1 10 = .ok (.iconst 4, 1) := by decide +kernel
theorem d_X7_parts_11 : decode mX7_parts.2.1 11 = .ok (.iload 4, 2) := by decide +kernel
theorem d_X7_parts_13 : decode mX7_parts.2.1 13 = .ok (.imul, 1) := by decide +kernel
theorem d_X7_parts_14 : decode mX7_parts.2.1 14 = .ok (.iconst 4, 1) := by decide +kernel
theorem d_X7_parts_15 : decode mX7_parts.2.1 15 = .ok (.iadd, 1) := by decide +kernel
theorem d_X7_parts_16 : decode mX7_parts.2.1 16 = .ok (.if_icmp .ge 111, 3) := by decide +kernel
theorem d_X7_parts_19 : decode mX7_parts.2.1 19 = .ok (.aload_n 0, 1) := by decide +kernel
theorem d_X7_parts_20 : decode mX7_parts.2.1 20 = .ok (.iload_n 1, 1) := by decide +kernel
theorem d_X7_parts_21 : decode mX7_parts.2.1 21 = .ok (.iload 6, 2) := by decide +kernel
theorem d_X7_parts_23 : decode mX7_parts.2.1 23 = .ok (.iconst 4, 1) := by decide +kernel
theorem d_X7_parts_24 : decode mX7_parts.2.1 24 = .ok (.idiv, 1) := by decide +kernel
theorem d_X7_parts_25 : decode mX7_parts.2.1 25 = .ok (.iload 6, 2) := by decide +kernel
theorem d_X7_parts_27 : decode mX7_parts.2.1 27 = .ok (.iconst 4, 1) := by decide +kernel
theorem d_X7_parts_28 : decode mX7_parts.2.1 28 = .ok (.irem, 1) := by decide +kernel
theorem d_X7_parts_29 : decode mX7_parts.2.1 29 = .ok (.invokevirtual 117, 3) := by decide +kernel
theorem d_X7_parts_32 : decode mX7_parts.2.1 32 = .ok (.istore 7, 2) := by decide +kernel
theorem d_X7_parts_34 : decode mX7_parts.2.1 34 = .ok (.aload_n 0, 1) := by decide +kernel
theorem d_X7_parts_35 : decode mX7_parts.2.1 35 = .ok (.iload_n 2, 1) := by decide +kernel
theorem d_X7_parts_36 : decode mX7_parts.2.1 36 = .ok (.iload 6, 2) := by decide +kernel
theorem d_X7_parts_38 : decode mX7_parts.2.1 38 = .ok (.iconst 4, 1) := by decide +kernel
theorem d_X7_parts_39 : decode mX7_parts.2.1 39 = .ok (.idiv, 1) := by decide +kernel
theorem d_X7_parts_40 : decode mX7_parts.2.1 40 = .ok (.iload 6, 2) := by decide +kernel
theorem d_X7_parts_42 : decode mX7_parts.2.1 42 = .ok (.iconst 4, 1) := by decide +kernel
theorem d_X7_parts_43 : decode mX7_parts.2.1 43 = .ok (.irem, 1) := by decide +kernel
theorem d_X7_parts_44 : decode mX7_parts.2.1 44 = .ok (.invokevirtual 117, 3) := by decide +kernel
theorem d_X7_parts_47 : decode mX7_parts.2.1 47 = .ok (.istore 8, 2) := by decide +kernel
theorem d_X7_parts_49 : decode mX7_parts.2.1 49 = .ok (.iload 7, 2) := by decide +kernel
theorem d_X7_parts_51 : decode mX7_parts.2.1 51 = .ok (.iconst (-1), 1) := by decide +kernel
theorem d_X7_parts_52 : decode mX7_parts.2.1 52 = .ok (.if_icmp .eq 69, 3) := by decide +kernel
theorem d_X7_parts_55 : decode mX7_parts.2.1 55 = .ok (.iload 8, 2) := by decide +kernel
theorem d_X7_parts_57 : decode mX7_parts.2.1 57 = .ok (.iconst (-1), 1) := by decide +kernel
theorem d_X7_parts_58 : decode mX7_parts.2.1 58 = .ok (.if_icmp .eq 63, 3) := by decide +kernel
theorem d_X7_parts_61 : decode mX7_parts.2.1 61 = .ok (.aload_n 0, 1) := by decide +kernel
theorem d_X7_parts_62 : decode mX7_parts.2.1 62 = .ok (.getfield 7, 3) := by decide +kernel
theorem d_X7_parts_65 : decode mX7_parts.2.1 65 = .ok (.bipush 54, 2) := by decide +kernel
theorem d_X7_parts_67 : decode mX7_parts.2.1 67 = .ok (.aload_n 0, 1) := by decide +kernel
theorem d_X7_parts_68 : decode mX7_parts.2.1 68 = .ok (.iload 7, 2) := by decide +kernel
theorem d_X7_parts_70 : decode mX7_parts.2.1 70 = .ok (.iconst 4, 1) := by decide +kernel
theorem d_X7_parts_71 : decode mX7_parts.2.1 71 = .ok (.invokevirtual 45, 3) := by decide +kernel
theorem d_X7_parts_74 : decode mX7_parts.2.1 74 = .ok (.iadd, 1) := by decide +kernel
theorem d_X7_parts_75 : decode mX7_parts.2.1 75 = .ok (.iaload, 1) := by decide +kernel
theorem d_X7_parts_76 : decode mX7_parts.2.1 76 = .ok (.aload_n 0, 1) := by decide +kernel
theorem d_X7_parts_77 : decode mX7_parts.2.1 77 = .ok (.getfield 7, 3) := by decide +kernel
theorem d_X7_parts_80 : decode mX7_parts.2.1 80 = .ok (.bipush 54, 2) := by decide +kernel
theorem d_X7_parts_82 : decode mX7_parts.2.1 82 = .ok (.aload_n 0, 1) := by decide +kernel
theorem d_X7_parts_83 : decode mX7_parts.2.1 83 = .ok (.iload 8, 2) := by decide +kernel
theorem d_X7_parts_85 : decode mX7_parts.2.1 85 = .ok (.iconst 4, 1) := by decide +kernel
theorem d_X7_parts_86 : decode mX7_parts.2.1 86 = .ok (.invokevirtual 45, 3) := by decide +kernel
theorem d_X7_parts_89 : decode mX7_parts.2.1 89 = .ok (.iadd, 1) := by decide +kernel
theorem d_X7_parts_90 : decode mX7_parts.2.1 90 = .ok (.iaload, 1) := by decide +kernel
theorem d_X7_parts_91 : decode mX7_parts.2.1 91 = .ok (.isub, 1) := by decide +kernel
theorem d_X7_parts_92 : decode mX7_parts.2.1 92 = .ok (.invokestatic 59, 3) := by decide +kernel
theorem d_X7_parts_95 : decode mX7_parts.2.1 95 = .ok (.iconst 2, 1) := by decide +kernel
theorem d_X7_parts_96 : decode mX7_parts.2.1 96 = .ok (.if_icmp .ge 25, 3) := by decide +kernel
theorem d_X7_parts_99 : decode mX7_parts.2.1 99 = .ok (.aload_n 0, 1) := by decide +kernel
theorem d_X7_parts_100 : decode mX7_parts.2.1 100 = .ok (.iload 7, 2) := by decide +kernel
theorem d_X7_parts_102 : decode mX7_parts.2.1 102 = .ok (.iload 8, 2) := by decide +kernel
theorem d_X7_parts_104 : decode mX7_parts.2.1 104 = .ok (.if_icmp .le 8, 3) := by decide +kernel
theorem d_X7_parts_107 : decode mX7_parts.2.1 107 = .ok (.iload 7, 2) := by decide +kernel
theorem d_X7_parts_109 : decode mX7_parts.2.1 109 = .ok (.goto 5, 3) := by decide +kernel
theorem d_X7_parts_112 : decode mX7_parts.2.1 112 = .ok (.iload 8, 2) := by decide +kernel
theorem d_X7_parts_114 : decode mX7_parts.2.1 114 = .ok (.iconst 1, 1) := by decide +kernel
theorem d_X7_parts_115 : decode mX7_parts.2.1 115 = .ok (.invokevirtual 157, 3) := by decide +kernel
theorem d_X7_parts_118 : decode mX7_parts.2.1 118 = .ok (.iinc 5 1, 3) := by decide +kernel
theorem d_X7_parts_121 : decode mX7_parts.2.1 121 = .ok (.iinc 6 1, 3) := by decide +kernel
theorem d_X7_parts_124 : decode mX7_parts.2.1 124 = .ok (.goto (-116), 3) := by decide +kernel
theorem d_X7_parts_127 : decode mX7_parts.2.1 127 = .ok (.iload 5, 2) := by decide +kernel
theorem d_X7_parts_129 : decode mX7_parts.2.1 129 = .ok (.ireturn, 1) := by decide +kernel
def T_X7_parts_121 (κ8 : Nat → Int32 → Int32 → Int32 → Int32 → Int32 → Mem → Prop) (Q : Int32 → Mem → Prop) (v0 : Nat) (v1 : Int32) (v2 : Int32) (v4 : Int32) (v5 : Int32) (v6 : Int32) (M : Mem) : Prop := ∀ x1 : Int32, x1 = v6 + 1 → κ8 v0 v1 v2 v4 v5 x1 M
set_option maxRecDepth 100000 in
set_option maxHeartbeats 4000000 in
theorem B_X7_parts_121 {g : GG} (Q : Int32 → Mem → Prop) (κ8 : Nat → Int32 → Int32 → Int32 → Int32 → Int32 → Mem → Prop) (hκ8 : ∀ (v0 : Nat) (v1 : Int32) (v2 : Int32) (v4 : Int32) (v5 : Int32) (v6 : Int32) (M : Mem), κ8 v0 v1 v2 v4 v5 v6 M → WP g 13 mX7_parts 8 [some (.ref (g.1 + v0)), some (.int v1), some (.int v2), none, some (.int v4), some (.int v5), some (.int v6), none, none] [] M 0 (oI Q noX)) (v0 : Nat) (v1 : Int32) (v2 : Int32) (v4 : Int32) (v5 : Int32) (v6 : Int32) (M : Mem) (h : T_X7_parts_121 κ8 Q v0 v1 v2 v4 v5 v6 M) : WP g 13 mX7_parts 121 [some (.ref (g.1 + v0)), some (.int v1), some (.int v2), none, some (.int v4), some (.int v5), some (.int v6), none, none] [] M 0 (oI Q noX) := by
  unfold T_X7_parts_121 at h
  obtain ⟨x1, ex1⟩ : ∃ z : Int32, z = v6 + 1 := ⟨_, rfl⟩
  have h := h x1 ex1
  refine R_iinc (pc := 121) (v := x1) (L' := [some (.ref (g.1 + v0)), some (.int v1), some (.int v2), none, some (.int v4), some (.int v5), some (.int x1), none, none]) d_X7_parts_121 rfl (by rw [ex1]; rfl) (by decide) rfl ?_
  refine R_goto (pc := 124) (tgt := 8) d_X7_parts_124 (by decide) ?_
  exact WP_sub (hκ8 v0 v1 v2 v4 v5 x1 M h) (by decide) (ls_s (ls_s (ls_s (ls_n (ls_s (ls_s (ls_s (ls_n (ls_n ls_0)))))))))
def T_X7_parts_114 (κ8 : Nat → Int32 → Int32 → Int32 → Int32 → Int32 → Mem → Prop) (Q : Int32 → Mem → Prop) (v0 : Nat) (v1 : Int32) (v2 : Int32) (v4 : Int32) (v5 : Int32) (v6 : Int32) (s0 : Int32) (s1 : Nat) (M : Mem) : Prop := (kd s1 = 7) ∧ T_X7_cancels (fun M2 => ∀ x3 : Int32, x3 = v5 + 1 → T_X7_parts_121 κ8 Q v0 v1 v2 v4 x3 v6 M2)  s1 s0 1 M
set_option maxRecDepth 100000 in
set_option maxHeartbeats 4000000 in
theorem B_X7_parts_114 {g : GG} (Q : Int32 → Mem → Prop) (κ8 : Nat → Int32 → Int32 → Int32 → Int32 → Int32 → Mem → Prop) (hκ8 : ∀ (v0 : Nat) (v1 : Int32) (v2 : Int32) (v4 : Int32) (v5 : Int32) (v6 : Int32) (M : Mem), κ8 v0 v1 v2 v4 v5 v6 M → WP g 13 mX7_parts 8 [some (.ref (g.1 + v0)), some (.int v1), some (.int v2), none, some (.int v4), some (.int v5), some (.int v6), none, none] [] M 0 (oI Q noX)) (v0 : Nat) (v1 : Int32) (v2 : Int32) (v4 : Int32) (v5 : Int32) (v6 : Int32) (s0 : Int32) (s1 : Nat) (M : Mem) (h : T_X7_parts_114 κ8 Q v0 v1 v2 v4 v5 v6 s0 s1 M) : WP g 13 mX7_parts 114 [some (.ref (g.1 + v0)), some (.int v1), some (.int v2), none, some (.int v4), some (.int v5), some (.int v6), none, none] [.int s0, .ref (g.1 + s1)] M 0 (oI Q noX) := by
  unfold T_X7_parts_114 at h
  refine R_iconst (pc := 114) (v := 1) d_X7_parts_114 (by decide) ?_
  obtain ⟨k1, h⟩ := h
  refine R_callV (pc := 115) (As := [.int s0, .int 1]) (rest := []) (c_X7_cancels (g := g) s1 s0 1 M _ h) rfl rfl cal_RX7_157 ins_X7_cancels sel_X7_cancels (cls_at k1 clsOK7) (by decide) (by decide) rfl rfl (Nat.le_of_ble_eq_true rfl) d_X7_parts_115 (k_V (fun M2 h => ?_)) (fun _ _ h9 => False.elim h9)
  try dsimp only at h
  obtain ⟨x3, ex3⟩ : ∃ z : Int32, z = v5 + 1 := ⟨_, rfl⟩
  have h := h x3 ex3
  refine R_iinc (pc := 118) (v := x3) (L' := [some (.ref (g.1 + v0)), some (.int v1), some (.int v2), none, some (.int v4), some (.int x3), some (.int v6), none, none]) d_X7_parts_118 rfl (by rw [ex3]; rfl) (by decide) rfl ?_
  exact WP_sub (B_X7_parts_121 Q κ8 hκ8 v0 v1 v2 v4 x3 v6 M2 h) (by decide) (ls_s (ls_s (ls_s (ls_n (ls_s (ls_s (ls_s (ls_n (ls_n ls_0)))))))))
def T_X7_parts_8 (Q : Int32 → Mem → Prop) : Nat → Nat → Int32 → Int32 → Int32 → Int32 → Int32 → Mem → Prop
  | 0, _, _, _, _, _, _, _ => False
  | n + 1, v0, v1, v2, v4, v5, v6, M => if ((4 * v4) + 4) ≤ v6 then (Q v5 M) else ((kd v0 = 7) ∧ T_X7_visitOf (fun y3 M2 => T_X7_visitOf (fun y5 M4 => if y3 = ((-1) : Int32) then (T_X7_parts_121 (T_X7_parts_8 Q n) Q v0 v1 v2 v4 v5 v6 M4) else (if y5 = ((-1) : Int32) then (T_X7_parts_121 (T_X7_parts_8 Q n) Q v0 v1 v2 v4 v5 v6 M4) else (T_X7_of (fun y7 M6 => (kd (rf v0 1) = 9) ∧ (vp_in (54 + y7) (ln (rf v0 1))) ∧ T_X7_of (fun y11 M10 => (vp_in (54 + y11) (ln (rf v0 1))) ∧ T_X7_size (fun y14 M13 => if (2 : Int32) ≤ y14 then (T_X7_parts_121 (T_X7_parts_8 Q n) Q v0 v1 v2 v4 v5 v6 M13) else (if y3 ≤ y5 then (T_X7_parts_114 (T_X7_parts_8 Q n) Q v0 v1 v2 v4 v5 v6 y5 v0 M13) else (T_X7_parts_114 (T_X7_parts_8 Q n) Q v0 v1 v2 v4 v5 v6 y3 v0 M13)))  ((M6.1 (rf v0 1) (Int32.toNatClampNeg (54 + y7))) - (M10.1 (rf v0 1) (Int32.toNatClampNeg (54 + y11)))) M10)  v0 y5 4 M6)  v0 y3 4 M4)))  v0 v2 (v6 / 4) (v6 - v6 / 4 * 4) M2)  v0 v1 (v6 / 4) (v6 - v6 / 4 * 4) M)
set_option maxRecDepth 100000 in
set_option maxHeartbeats 4000000 in
theorem B_X7_parts_8 {g : GG} (Q : Int32 → Mem → Prop) : ∀ (n : Nat) (v0 : Nat) (v1 : Int32) (v2 : Int32) (v4 : Int32) (v5 : Int32) (v6 : Int32) (M : Mem), T_X7_parts_8 Q n v0 v1 v2 v4 v5 v6 M → WP g 13 mX7_parts 8 [some (.ref (g.1 + v0)), some (.int v1), some (.int v2), none, some (.int v4), some (.int v5), some (.int v6), none, none] [] M 0 (oI Q noX) := by
  intro n
  induction n with
  | zero => intro v0 v1 v2 v4 v5 v6 M h; exact h.elim
  | succ n hκ8 =>
    intro v0 v1 v2 v4 v5 v6 M h
    unfold T_X7_parts_8 at h
    refine R_iload (pc := 8) d_X7_parts_8 rfl ?_
    refine R_iconst (pc := 10) (v := 4) d_X7_parts_10 (by decide) ?_
    refine R_iload (pc := 11) d_X7_parts_11 rfl ?_
    refine R_imul (pc := 13) d_X7_parts_13 ?_
    refine R_iconst (pc := 14) (v := 4) d_X7_parts_14 (by decide) ?_
    refine R_iadd (pc := 15) d_X7_parts_15 ?_
    refine R_icmp_ge (pc := 16) (tgt := 127) d_X7_parts_16 (by decide) (fun c => ?_) (fun c => ?_)
    · rw [if_pos c] at h
      refine R_iload (pc := 127) d_X7_parts_127 rfl ?_
      exact R_retv (pc := 129) d_X7_parts_129 h
    · rw [if_neg c] at h
      refine R_aload_n (pc := 19) d_X7_parts_19 rfl rfl ?_
      refine R_iload_n (pc := 20) d_X7_parts_20 rfl rfl ?_
      refine R_iload (pc := 21) d_X7_parts_21 rfl ?_
      refine R_iconst (pc := 23) (v := 4) d_X7_parts_23 (by decide) ?_
      refine R_idiv (pc := 24) d_X7_parts_24 (by decide) ?_
      refine R_iload (pc := 25) d_X7_parts_25 rfl ?_
      refine R_iconst (pc := 27) (v := 4) d_X7_parts_27 (by decide) ?_
      refine R_irem (pc := 28) d_X7_parts_28 (by decide) ?_
      obtain ⟨k1, h⟩ := h
      refine R_callV (pc := 29) (As := [.int v1, .int (v6 / 4), .int (v6 - v6 / 4 * 4)]) (rest := []) (c_X7_visitOf (g := g) v0 v1 (v6 / 4) (v6 - v6 / 4 * 4) M _ h) rfl rfl cal_RX7_117 ins_X7_visitOf sel_X7_visitOf (cls_at k1 clsOK7) (by decide) (by decide) rfl rfl (Nat.le_of_ble_eq_true rfl) d_X7_parts_29 (k_I (fun y3 M2 h => ?_)) (fun _ _ h9 => False.elim h9)
      try dsimp only at h
      refine R_istore (pc := 32) (L' := [some (.ref (g.1 + v0)), some (.int v1), some (.int v2), none, some (.int v4), some (.int v5), some (.int v6), some (.int y3), none]) d_X7_parts_32 (by decide) rfl ?_
      refine R_aload_n (pc := 34) d_X7_parts_34 rfl rfl ?_
      refine R_iload_n (pc := 35) d_X7_parts_35 rfl rfl ?_
      refine R_iload (pc := 36) d_X7_parts_36 rfl ?_
      refine R_iconst (pc := 38) (v := 4) d_X7_parts_38 (by decide) ?_
      refine R_idiv (pc := 39) d_X7_parts_39 (by decide) ?_
      refine R_iload (pc := 40) d_X7_parts_40 rfl ?_
      refine R_iconst (pc := 42) (v := 4) d_X7_parts_42 (by decide) ?_
      refine R_irem (pc := 43) d_X7_parts_43 (by decide) ?_
      refine R_callV (pc := 44) (As := [.int v2, .int (v6 / 4), .int (v6 - v6 / 4 * 4)]) (rest := []) (c_X7_visitOf (g := g) v0 v2 (v6 / 4) (v6 - v6 / 4 * 4) M2 _ h) rfl rfl cal_RX7_117 ins_X7_visitOf sel_X7_visitOf (cls_at k1 clsOK7) (by decide) (by decide) rfl rfl (Nat.le_of_ble_eq_true rfl) d_X7_parts_44 (k_I (fun y5 M4 h => ?_)) (fun _ _ h9 => False.elim h9)
      try dsimp only at h
      refine R_istore (pc := 47) (L' := [some (.ref (g.1 + v0)), some (.int v1), some (.int v2), none, some (.int v4), some (.int v5), some (.int v6), some (.int y3), some (.int y5)]) d_X7_parts_47 (by decide) rfl ?_
      refine R_iload (pc := 49) d_X7_parts_49 rfl ?_
      refine R_iconst (pc := 51) (v := (-1)) d_X7_parts_51 (by decide) ?_
      refine R_icmp_eq (pc := 52) (tgt := 121) d_X7_parts_52 (by decide) (fun c => ?_) (fun c => ?_)
      · rw [if_pos c] at h
        exact WP_sub (B_X7_parts_121 Q (T_X7_parts_8 Q n) hκ8 v0 v1 v2 v4 v5 v6 M4 h) (by decide) (ls_s (ls_s (ls_s (ls_n (ls_s (ls_s (ls_s (ls_n (ls_n ls_0)))))))))
      · rw [if_neg c] at h
        refine R_iload (pc := 55) d_X7_parts_55 rfl ?_
        refine R_iconst (pc := 57) (v := (-1)) d_X7_parts_57 (by decide) ?_
        refine R_icmp_eq (pc := 58) (tgt := 121) d_X7_parts_58 (by decide) (fun c => ?_) (fun c => ?_)
        · rw [if_pos c] at h
          exact WP_sub (B_X7_parts_121 Q (T_X7_parts_8 Q n) hκ8 v0 v1 v2 v4 v5 v6 M4 h) (by decide) (ls_s (ls_s (ls_s (ls_n (ls_s (ls_s (ls_s (ls_n (ls_n ls_0)))))))))
        · rw [if_neg c] at h
          refine R_aload_n (pc := 61) d_X7_parts_61 rfl rfl ?_
          refine R_getR (pc := 62) fld_RX7_7 rfl rfl k1 d_X7_parts_62 ?_
          refine R_bipush (pc := 65) (v := 54) d_X7_parts_65 (by decide) ?_
          refine R_aload_n (pc := 67) d_X7_parts_67 rfl rfl ?_
          refine R_iload (pc := 68) d_X7_parts_68 rfl ?_
          refine R_iconst (pc := 70) (v := 4) d_X7_parts_70 (by decide) ?_
          refine R_callV (pc := 71) (As := [.int y3, .int 4]) (rest := [.int 54, .ref (g.1 + (rf v0 1))]) (c_X7_of (g := g) v0 y3 4 M4 _ h) rfl rfl cal_RX7_45 ins_X7_of sel_X7_of (cls_at k1 clsOK7) (by decide) (by decide) rfl rfl (Nat.le_of_ble_eq_true rfl) d_X7_parts_71 (k_I (fun y7 M6 h => ?_)) (fun _ _ h9 => False.elim h9)
          try dsimp only at h
          refine R_iadd (pc := 74) d_X7_parts_74 ?_
          obtain ⟨k8, h⟩ := h
          obtain ⟨k9, h⟩ := h
          refine R_iald (pc := 75) k8 k9 d_X7_parts_75 ?_
          refine R_aload_n (pc := 76) d_X7_parts_76 rfl rfl ?_
          refine R_getR (pc := 77) fld_RX7_7 rfl rfl k1 d_X7_parts_77 ?_
          refine R_bipush (pc := 80) (v := 54) d_X7_parts_80 (by decide) ?_
          refine R_aload_n (pc := 82) d_X7_parts_82 rfl rfl ?_
          refine R_iload (pc := 83) d_X7_parts_83 rfl ?_
          refine R_iconst (pc := 85) (v := 4) d_X7_parts_85 (by decide) ?_
          refine R_callV (pc := 86) (As := [.int y5, .int 4]) (rest := [.int 54, .ref (g.1 + (rf v0 1)), .int (M6.1 (rf v0 1) (Int32.toNatClampNeg (54 + y7)))]) (c_X7_of (g := g) v0 y5 4 M6 _ h) rfl rfl cal_RX7_45 ins_X7_of sel_X7_of (cls_at k1 clsOK7) (by decide) (by decide) rfl rfl (Nat.le_of_ble_eq_true rfl) d_X7_parts_86 (k_I (fun y11 M10 h => ?_)) (fun _ _ h9 => False.elim h9)
          try dsimp only at h
          refine R_iadd (pc := 89) d_X7_parts_89 ?_
          obtain ⟨k12, h⟩ := h
          refine R_iald (pc := 90) k8 k12 d_X7_parts_90 ?_
          refine R_isub (pc := 91) d_X7_parts_91 ?_
          refine R_callS (pc := 92) (As := [.int ((M6.1 (rf v0 1) (Int32.toNatClampNeg (54 + y7))) - (M10.1 (rf v0 1) (Int32.toNatClampNeg (54 + y11))))]) (rest := []) (c_X7_size (g := g) ((M6.1 (rf v0 1) (Int32.toNatClampNeg (54 + y7))) - (M10.1 (rf v0 1) (Int32.toNatClampNeg (54 + y11)))) M10 _ h) rfl rfl cal_RX7_59 sta_X7_size (by decide) (by decide) rfl rfl (Nat.le_of_ble_eq_true rfl) d_X7_parts_92 (k_I (fun y14 M13 h => ?_)) (fun _ _ h9 => False.elim h9)
          try dsimp only at h
          refine R_iconst (pc := 95) (v := 2) d_X7_parts_95 (by decide) ?_
          refine R_icmp_ge (pc := 96) (tgt := 121) d_X7_parts_96 (by decide) (fun c => ?_) (fun c => ?_)
          · rw [if_pos c] at h
            exact WP_sub (B_X7_parts_121 Q (T_X7_parts_8 Q n) hκ8 v0 v1 v2 v4 v5 v6 M13 h) (by decide) (ls_s (ls_s (ls_s (ls_n (ls_s (ls_s (ls_s (ls_n (ls_n ls_0)))))))))
          · rw [if_neg c] at h
            refine R_aload_n (pc := 99) d_X7_parts_99 rfl rfl ?_
            refine R_iload (pc := 100) d_X7_parts_100 rfl ?_
            refine R_iload (pc := 102) d_X7_parts_102 rfl ?_
            refine R_icmp_le (pc := 104) (tgt := 112) d_X7_parts_104 (by decide) (fun c => ?_) (fun c => ?_)
            · rw [if_pos c] at h
              refine R_iload (pc := 112) d_X7_parts_112 rfl ?_
              exact WP_sub (B_X7_parts_114 Q (T_X7_parts_8 Q n) hκ8 v0 v1 v2 v4 v5 v6 y5 v0 M13 h) (by decide) (ls_s (ls_s (ls_s (ls_n (ls_s (ls_s (ls_s (ls_n (ls_n ls_0)))))))))
            · rw [if_neg c] at h
              refine R_iload (pc := 107) d_X7_parts_107 rfl ?_
              refine R_goto (pc := 109) (tgt := 114) d_X7_parts_109 (by decide) ?_
              exact WP_sub (B_X7_parts_114 Q (T_X7_parts_8 Q n) hκ8 v0 v1 v2 v4 v5 v6 y3 v0 M13 h) (by decide) (ls_s (ls_s (ls_s (ls_n (ls_s (ls_s (ls_s (ls_n (ls_n ls_0)))))))))
def T_X7_parts (Q : Int32 → Mem → Prop) (v0 : Nat) (v1 : Int32) (v2 : Int32) (v3 : Int32) (v4 : Int32) (M : Mem) : Prop := ∀ x1 : Int32, x1 = 4 * v3 → (∃ N : Nat, T_X7_parts_8 Q N v0 v1 v2 v4 0 x1 M)
set_option maxRecDepth 100000 in
set_option maxHeartbeats 4000000 in
theorem c_X7_parts {g : GG} (v0 : Nat) (v1 : Int32) (v2 : Int32) (v3 : Int32) (v4 : Int32) (M : Mem) (Q : Int32 → Mem → Prop) (h : T_X7_parts Q v0 v1 v2 v3 v4 M) : CT g 13 mX7_parts [.ref (g.1 + v0), .int v1, .int v2, .int v3, .int v4] M 0 (oI Q noX) := by
  refine CT_of (L := [some (.ref (g.1 + v0)), some (.int v1), some (.int v2), some (.int v3), some (.int v4), none, none, none, none]) (by decide) rfl (Nat.le_of_ble_eq_true rfl) (ro_I rfl) rfl ?_
  unfold T_X7_parts at h
  refine R_iconst (pc := 0) (v := 0) d_X7_parts_0 (by decide) ?_
  refine R_istore (pc := 1) (L' := [some (.ref (g.1 + v0)), some (.int v1), some (.int v2), some (.int v3), some (.int v4), some (.int 0), none, none, none]) d_X7_parts_1 (by decide) rfl ?_
  refine R_iconst (pc := 3) (v := 4) d_X7_parts_3 (by decide) ?_
  refine R_iload_n (pc := 4) d_X7_parts_4 rfl rfl ?_
  refine R_imul (pc := 5) d_X7_parts_5 ?_
  refine N_i (fun x1 ex1 => ?_)
  have h := h x1 ex1
  refine R_istore (pc := 6) (L' := [some (.ref (g.1 + v0)), some (.int v1), some (.int v2), some (.int v3), some (.int v4), some (.int 0), some (.int x1), none, none]) d_X7_parts_6 (by decide) rfl ?_
  obtain ⟨N, h⟩ := h
  exact WP_sub (B_X7_parts_8 Q N v0 v1 v2 v4 0 x1 M h) (by decide) (ls_s (ls_s (ls_s (ls_n (ls_s (ls_s (ls_s (ls_n (ls_n ls_0)))))))))
