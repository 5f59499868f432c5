def T_L_law_2534 (κ28 : Nat → Nat → Nat → Nat → Int32 → Mem → Prop) (Q : Int32 → Mem → Prop) (sl : Nat) (xs : Nat → Int32) (v1 : Nat) (v2 : Nat) (v3 : Nat) (v4 : Nat) (v5 : Int32) (M : Mem) : Prop := ∀ x1 : Int32, x1 = v5 + 6 → κ28 v1 v2 v3 v4 x1 M
set_option maxRecDepth 100000 in
set_option maxHeartbeats 4000000 in
theorem B_L_law_2534 {g : GG} {kr : Nat} (Q : Int32 → Mem → Prop) (κ28 : Nat → Nat → Nat → Nat → Int32 → Mem → Prop) (hκ28 : ∀ (v1 : Nat) (v2 : Nat) (v3 : Nat) (v4 : Nat) (v5 : Int32) (M : Mem), κ28 v1 v2 v3 v4 v5 M → WP g 20 mL_law 28 [some (.ref g.2.2.2.1), some (.ref (g.1 + v1)), some (.ref (g.1 + v2)), some (.ref (g.1 + v3)), some (.ref (g.1 + v4)), some (.int v5), none, none, none] [] M kr (oZ Q noX)) (v1 : Nat) (v2 : Nat) (v3 : Nat) (v4 : Nat) (v5 : Int32) (M : Mem) (h : T_L_law_2534 κ28 Q g.2.2.2.2.1 g.2.2.2.2.2 v1 v2 v3 v4 v5 M) : WP g 20 mL_law 2534 [some (.ref g.2.2.2.1), some (.ref (g.1 + v1)), some (.ref (g.1 + v2)), some (.ref (g.1 + v3)), some (.ref (g.1 + v4)), some (.int v5), none, none, none] [] M (kr + 0) (oZ Q noX) := by
  unfold T_L_law_2534 at h
  obtain ⟨x1, ex1⟩ : ∃ z : Int32, z = v5 + 6 := ⟨_, rfl⟩
  have h := h x1 ex1
  refine R_iinc (pc := 2534) (v := x1) (L' := [some (.ref g.2.2.2.1), some (.ref (g.1 + v1)), some (.ref (g.1 + v2)), some (.ref (g.1 + v3)), some (.ref (g.1 + v4)), some (.int x1), none, none, none]) d_L_law_2534 rfl (by rw [ex1]; rfl) (by decide) rfl ?_
  refine R_goto (pc := 2537) (tgt := 28) d_L_law_2537 (by decide) ?_
  exact WP_sub (hκ28 v1 v2 v3 v4 x1 M h) (by omega) (ls_s (ls_s (ls_s (ls_s (ls_s (ls_s (ls_n (ls_n (ls_n ls_0)))))))))
def T_L_law_2531 (κ28 : Nat → Nat → Nat → Nat → Int32 → Mem → Prop) (Q : Int32 → Mem → Prop) (sl : Nat) (xs : Nat → Int32) (v1 : Nat) (v2 : Nat) (v3 : Nat) (v4 : Nat) (v5 : Int32) (M : Mem) : Prop := T_L_law_2534 κ28 Q sl xs v1 v2 v3 v4 v5 M
set_option maxRecDepth 100000 in
set_option maxHeartbeats 4000000 in
theorem B_L_law_2531 {g : GG} {kr : Nat} (Q : Int32 → Mem → Prop) (κ28 : Nat → Nat → Nat → Nat → Int32 → Mem → Prop) (hκ28 : ∀ (v1 : Nat) (v2 : Nat) (v3 : Nat) (v4 : Nat) (v5 : Int32) (M : Mem), κ28 v1 v2 v3 v4 v5 M → WP g 20 mL_law 28 [some (.ref g.2.2.2.1), some (.ref (g.1 + v1)), some (.ref (g.1 + v2)), some (.ref (g.1 + v3)), some (.ref (g.1 + v4)), some (.int v5), none, none, none] [] M kr (oZ Q noX)) (v1 : Nat) (v2 : Nat) (v3 : Nat) (v4 : Nat) (v5 : Int32) (M : Mem) (h : T_L_law_2531 κ28 Q g.2.2.2.2.1 g.2.2.2.2.2 v1 v2 v3 v4 v5 M) : WP g 20 mL_law 2531 [some (.ref g.2.2.2.1), some (.ref (g.1 + v1)), some (.ref (g.1 + v2)), some (.ref (g.1 + v3)), some (.ref (g.1 + v4)), some (.int v5), none, none, none] [] M (kr + 1) (oZ Q noX) := by
  unfold T_L_law_2531 at h
  refine R_goto (pc := 2531) (tgt := 2534) d_L_law_2531 (by decide) ?_
  exact WP_sub (B_L_law_2534 Q κ28 hκ28 v1 v2 v3 v4 v5 M h) (by omega) (ls_s (ls_s (ls_s (ls_s (ls_s (ls_s (ls_n (ls_n (ls_n ls_0)))))))))
def T_L_law_2490 (κ28 : Nat → Nat → Nat → Nat → Int32 → Mem → Prop) (Q : Int32 → Mem → Prop) (sl : Nat) (xs : Nat → Int32) (v1 : Nat) (v2 : Nat) (v3 : Nat) (v4 : Nat) (v5 : Int32) (M : Mem) : Prop := T_L_restore (fun y2 M1 => (kd v2 = 7) ∧ T_X7_restore (fun y5 M4 => T_X7_thrown (fun y7 M6 => if y7 = y2 then (if y2 = 0 then ((kd v3 = 12) ∧ (vp_in 0 (ln v3)) ∧ if (lg_cmp (M6.2.1 (Int32.toNatClampNeg 0)) (Int32.toInt64 y5)) = 0 then (T_L_law_2531 κ28 Q sl xs v1 v2 v3 v4 v5 M6) else (((0 : Int32) = 0 ∨ (0 : Int32) = 1) ∧ Q 0 M6)) else (T_L_law_2531 κ28 Q sl xs v1 v2 v3 v4 v5 M6)) else (((0 : Int32) = 0 ∨ (0 : Int32) = 1) ∧ Q 0 M6))  v2 M4)  v2 M1)  v1 v3 M
set_option maxRecDepth 100000 in
set_option maxHeartbeats 4000000 in
theorem B_L_law_2490 {g : GG} {kr : Nat} (Q : Int32 → Mem → Prop) (κ28 : Nat → Nat → Nat → Nat → Int32 → Mem → Prop) (hκ28 : ∀ (v1 : Nat) (v2 : Nat) (v3 : Nat) (v4 : Nat) (v5 : Int32) (M : Mem), κ28 v1 v2 v3 v4 v5 M → WP g 20 mL_law 28 [some (.ref g.2.2.2.1), some (.ref (g.1 + v1)), some (.ref (g.1 + v2)), some (.ref (g.1 + v3)), some (.ref (g.1 + v4)), some (.int v5), none, none, none] [] M kr (oZ Q noX)) (v1 : Nat) (v2 : Nat) (v3 : Nat) (v4 : Nat) (v5 : Int32) (M : Mem) (h : T_L_law_2490 κ28 Q g.2.2.2.2.1 g.2.2.2.2.2 v1 v2 v3 v4 v5 M) : WP g 20 mL_law 2490 [some (.ref g.2.2.2.1), some (.ref (g.1 + v1)), some (.ref (g.1 + v2)), some (.ref (g.1 + v3)), some (.ref (g.1 + v4)), some (.int v5), none, none, none] [] M (kr + 2) (oZ Q noX) := by
  unfold T_L_law_2490 at h
  refine R_aload_n (pc := 2490) d_L_law_2490 rfl rfl ?_
  refine R_aload_n (pc := 2491) d_L_law_2491 rfl rfl ?_
  refine R_callSW (pc := 2492) (As := [.ref (g.1 + v1), .ref (g.1 + v3)]) (rest := []) (c_L_restore (g := g) v1 v3 M _ h) rfl rfl cal_RL_249 sta_L_restore (by decide) (by omega) rfl rfl (Nat.le_of_ble_eq_true rfl) d_L_law_2492 (k_I (fun y2 M1 h => ?_)) (fun _ _ h9 => False.elim h9)
  try dsimp only at h
  refine R_istore (pc := 2495) (L' := [some (.ref g.2.2.2.1), some (.ref (g.1 + v1)), some (.ref (g.1 + v2)), some (.ref (g.1 + v3)), some (.ref (g.1 + v4)), some (.int v5), some (.int y2), none, none]) d_L_law_2495 (by decide) rfl ?_
  refine R_aload_n (pc := 2497) d_L_law_2497 rfl rfl ?_
  obtain ⟨k3, h⟩ := h
  refine R_callV (pc := 2498) (As := []) (rest := []) (c_X7_restore (g := g) v2 M1 _ h) rfl rfl cal_RL_251 ins_X7_restore sel_X7_restore (cls_at k3 clsOK7) (by decide) (by omega) rfl rfl (Nat.le_of_ble_eq_true rfl) d_L_law_2498 (k_I (fun y5 M4 h => ?_)) (fun _ _ h9 => False.elim h9)
  try dsimp only at h
  refine R_istore (pc := 2501) (L' := [some (.ref g.2.2.2.1), some (.ref (g.1 + v1)), some (.ref (g.1 + v2)), some (.ref (g.1 + v3)), some (.ref (g.1 + v4)), some (.int v5), some (.int y2), some (.int y5), none]) d_L_law_2501 (by decide) rfl ?_
  refine R_aload_n (pc := 2503) d_L_law_2503 rfl rfl ?_
  refine R_callV (pc := 2504) (As := []) (rest := []) (c_X7_thrown (g := g) v2 M4 _ h) rfl rfl cal_RL_140 ins_X7_thrown sel_X7_thrown (cls_at k3 clsOK7) (by decide) (by omega) rfl rfl (Nat.le_of_ble_eq_true rfl) d_L_law_2504 (k_I (fun y7 M6 h => ?_)) (fun _ _ h9 => False.elim h9)
  try dsimp only at h
  refine R_iload (pc := 2507) d_L_law_2507 rfl ?_
  refine R_icmp_eq (pc := 2509) (tgt := 2514) d_L_law_2509 (by decide) (fun c => ?_) (fun c => ?_)
  · rw [if_pos c] at h
    refine R_iload (pc := 2514) d_L_law_2514 rfl ?_
    refine R_if_ne (pc := 2516) (tgt := 2531) d_L_law_2516 (by decide) (fun c => ?_) (fun c => ?_)
    · rw [if_neg c] at h
      exact WP_sub (B_L_law_2531 Q κ28 hκ28 v1 v2 v3 v4 v5 M6 h) (by omega) (ls_s (ls_s (ls_s (ls_s (ls_s (ls_s (ls_n (ls_n (ls_n ls_0)))))))))
    · rw [if_pos c] at h
      refine R_aload_n (pc := 2519) d_L_law_2519 rfl rfl ?_
      refine R_iconst (pc := 2520) (v := 0) d_L_law_2520 (by decide) ?_
      obtain ⟨k8, h⟩ := h
      obtain ⟨k9, h⟩ := h
      refine R_lald (pc := 2521) k8 k9 d_L_law_2521 ?_
      refine R_iload (pc := 2522) d_L_law_2522 rfl ?_
      refine R_i2l (pc := 2524) d_L_law_2524 ?_
      refine R_lcmp (pc := 2525) d_L_law_2525 ?_
      refine R_if_eq (pc := 2526) (tgt := 2531) d_L_law_2526 (by decide) (fun c => ?_) (fun c => ?_)
      · rw [if_pos c] at h
        exact WP_sub (B_L_law_2531 Q κ28 hκ28 v1 v2 v3 v4 v5 M6 h) (by omega) (ls_s (ls_s (ls_s (ls_s (ls_s (ls_s (ls_n (ls_n (ls_n ls_0)))))))))
      · rw [if_neg c] at h
        refine R_iconst (pc := 2529) (v := 0) d_L_law_2529 (by decide) ?_
        exact R_retv (pc := 2530) d_L_law_2530 h
  · rw [if_neg c] at h
    refine R_iconst (pc := 2512) (v := 0) d_L_law_2512 (by decide) ?_
    exact R_retv (pc := 2513) d_L_law_2513 h
def T_L_law_2477 (κ28 : Nat → Nat → Nat → Nat → Int32 → Mem → Prop) (Q : Int32 → Mem → Prop) (sl : Nat) (xs : Nat → Int32) (v1 : Nat) (v2 : Nat) (v3 : Nat) (v4 : Nat) (v5 : Int32) (M : Mem) : Prop := (kd v1 = 6) ∧ T_X6_save (fun y3 M2 => (kd v2 = 7) ∧ T_X7_save (fun y6 M5 => if y3 = y6 then (T_L_law_2534 κ28 Q sl xs v1 v2 v3 v4 v5 M5) else (((0 : Int32) = 0 ∨ (0 : Int32) = 1) ∧ Q 0 M5))  v2 M2)  v1 M
set_option maxRecDepth 100000 in
set_option maxHeartbeats 4000000 in
theorem B_L_law_2477 {g : GG} {kr : Nat} (Q : Int32 → Mem → Prop) (κ28 : Nat → Nat → Nat → Nat → Int32 → Mem → Prop) (hκ28 : ∀ (v1 : Nat) (v2 : Nat) (v3 : Nat) (v4 : Nat) (v5 : Int32) (M : Mem), κ28 v1 v2 v3 v4 v5 M → WP g 20 mL_law 28 [some (.ref g.2.2.2.1), some (.ref (g.1 + v1)), some (.ref (g.1 + v2)), some (.ref (g.1 + v3)), some (.ref (g.1 + v4)), some (.int v5), none, none, none] [] M kr (oZ Q noX)) (v1 : Nat) (v2 : Nat) (v3 : Nat) (v4 : Nat) (v5 : Int32) (M : Mem) (h : T_L_law_2477 κ28 Q g.2.2.2.2.1 g.2.2.2.2.2 v1 v2 v3 v4 v5 M) : WP g 20 mL_law 2477 [some (.ref g.2.2.2.1), some (.ref (g.1 + v1)), some (.ref (g.1 + v2)), some (.ref (g.1 + v3)), some (.ref (g.1 + v4)), some (.int v5), none, none, none] [] M (kr + 2) (oZ Q noX) := by
  unfold T_L_law_2477 at h
  refine R_aload_n (pc := 2477) d_L_law_2477 rfl rfl ?_
  obtain ⟨k1, h⟩ := h
  refine R_callV (pc := 2478) (As := []) (rest := []) (c_X6_save (g := g) v1 M _ h) rfl rfl cal_RL_245 ins_X6_save sel_X6_save (cls_at k1 clsOK6) (by decide) (by omega) rfl rfl (Nat.le_of_ble_eq_true rfl) d_L_law_2478 (k_I (fun y3 M2 h => ?_)) (fun _ _ h9 => False.elim h9)
  try dsimp only at h
  refine R_aload_n (pc := 2481) d_L_law_2481 rfl rfl ?_
  obtain ⟨k4, h⟩ := h
  refine R_callV (pc := 2482) (As := []) (rest := [.int y3]) (c_X7_save (g := g) v2 M2 _ h) rfl rfl cal_RL_248 ins_X7_save sel_X7_save (cls_at k4 clsOK7) (by decide) (by omega) rfl rfl (Nat.le_of_ble_eq_true rfl) d_L_law_2482 (k_I (fun y6 M5 h => ?_)) (fun _ _ h9 => False.elim h9)
  try dsimp only at h
  refine R_icmp_eq (pc := 2485) (tgt := 2534) d_L_law_2485 (by decide) (fun c => ?_) (fun c => ?_)
  · rw [if_pos c] at h
    exact WP_sub (B_L_law_2534 Q κ28 hκ28 v1 v2 v3 v4 v5 M5 h) (by omega) (ls_s (ls_s (ls_s (ls_s (ls_s (ls_s (ls_n (ls_n (ls_n ls_0)))))))))
  · rw [if_neg c] at h
    refine R_iconst (pc := 2488) (v := 0) d_L_law_2488 (by decide) ?_
    exact R_retv (pc := 2489) d_L_law_2489 h
def T_L_law_2474 (κ28 : Nat → Nat → Nat → Nat → Int32 → Mem → Prop) (Q : Int32 → Mem → Prop) (sl : Nat) (xs : Nat → Int32) (v1 : Nat) (v2 : Nat) (v3 : Nat) (v4 : Nat) (v5 : Int32) (M : Mem) : Prop := T_L_law_2534 κ28 Q sl xs v1 v2 v3 v4 v5 M
set_option maxRecDepth 100000 in
set_option maxHeartbeats 4000000 in
theorem B_L_law_2474 {g : GG} {kr : Nat} (Q : Int32 → Mem → Prop) (κ28 : Nat → Nat → Nat → Nat → Int32 → Mem → Prop) (hκ28 : ∀ (v1 : Nat) (v2 : Nat) (v3 : Nat) (v4 : Nat) (v5 : Int32) (M : Mem), κ28 v1 v2 v3 v4 v5 M → WP g 20 mL_law 28 [some (.ref g.2.2.2.1), some (.ref (g.1 + v1)), some (.ref (g.1 + v2)), some (.ref (g.1 + v3)), some (.ref (g.1 + v4)), some (.int v5), none, none, none] [] M kr (oZ Q noX)) (v1 : Nat) (v2 : Nat) (v3 : Nat) (v4 : Nat) (v5 : Int32) (M : Mem) (h : T_L_law_2474 κ28 Q g.2.2.2.2.1 g.2.2.2.2.2 v1 v2 v3 v4 v5 M) : WP g 20 mL_law 2474 [some (.ref g.2.2.2.1), some (.ref (g.1 + v1)), some (.ref (g.1 + v2)), some (.ref (g.1 + v3)), some (.ref (g.1 + v4)), some (.int v5), none, none, none] [] M (kr + 1) (oZ Q noX) := by
  unfold T_L_law_2474 at h
  refine R_goto (pc := 2474) (tgt := 2534) d_L_law_2474 (by decide) ?_
  exact WP_sub (B_L_law_2534 Q κ28 hκ28 v1 v2 v3 v4 v5 M h) (by omega) (ls_s (ls_s (ls_s (ls_s (ls_s (ls_s (ls_n (ls_n (ls_n ls_0)))))))))
def T_L_law_2433 (κ28 : Nat → Nat → Nat → Nat → Int32 → Mem → Prop) (Q : Int32 → Mem → Prop) (sl : Nat) (xs : Nat → Int32) (v1 : Nat) (v2 : Nat) (v3 : Nat) (v4 : Nat) (v5 : Int32) (M : Mem) : Prop := T_L_undo (fun y2 M1 => (kd v2 = 7) ∧ T_X7_undo (fun y5 M4 => T_X7_thrown (fun y7 M6 => if y7 = y2 then (if y2 = 0 then ((kd v3 = 12) ∧ (vp_in 0 (ln v3)) ∧ if (lg_cmp (M6.2.1 (Int32.toNatClampNeg 0)) (Int32.toInt64 y5)) = 0 then (T_L_law_2474 κ28 Q sl xs v1 v2 v3 v4 v5 M6) else (((0 : Int32) = 0 ∨ (0 : Int32) = 1) ∧ Q 0 M6)) else (T_L_law_2474 κ28 Q sl xs v1 v2 v3 v4 v5 M6)) else (((0 : Int32) = 0 ∨ (0 : Int32) = 1) ∧ Q 0 M6))  v2 M4)  v2 M1)  v1 v3 M
set_option maxRecDepth 100000 in
set_option maxHeartbeats 4000000 in
theorem B_L_law_2433 {g : GG} {kr : Nat} (Q : Int32 → Mem → Prop) (κ28 : Nat → Nat → Nat → Nat → Int32 → Mem → Prop) (hκ28 : ∀ (v1 : Nat) (v2 : Nat) (v3 : Nat) (v4 : Nat) (v5 : Int32) (M : Mem), κ28 v1 v2 v3 v4 v5 M → WP g 20 mL_law 28 [some (.ref g.2.2.2.1), some (.ref (g.1 + v1)), some (.ref (g.1 + v2)), some (.ref (g.1 + v3)), some (.ref (g.1 + v4)), some (.int v5), none, none, none] [] M kr (oZ Q noX)) (v1 : Nat) (v2 : Nat) (v3 : Nat) (v4 : Nat) (v5 : Int32) (M : Mem) (h : T_L_law_2433 κ28 Q g.2.2.2.2.1 g.2.2.2.2.2 v1 v2 v3 v4 v5 M) : WP g 20 mL_law 2433 [some (.ref g.2.2.2.1), some (.ref (g.1 + v1)), some (.ref (g.1 + v2)), some (.ref (g.1 + v3)), some (.ref (g.1 + v4)), some (.int v5), none, none, none] [] M (kr + 2) (oZ Q noX) := by
  unfold T_L_law_2433 at h
  refine R_aload_n (pc := 2433) d_L_law_2433 rfl rfl ?_
  refine R_aload_n (pc := 2434) d_L_law_2434 rfl rfl ?_
  refine R_callSW (pc := 2435) (As := [.ref (g.1 + v1), .ref (g.1 + v3)]) (rest := []) (c_L_undo (g := g) v1 v3 M _ h) rfl rfl cal_RL_242 sta_L_undo (by decide) (by omega) rfl rfl (Nat.le_of_ble_eq_true rfl) d_L_law_2435 (k_I (fun y2 M1 h => ?_)) (fun _ _ h9 => False.elim h9)
  try dsimp only at h
  refine R_istore (pc := 2438) (L' := [some (.ref g.2.2.2.1), some (.ref (g.1 + v1)), some (.ref (g.1 + v2)), some (.ref (g.1 + v3)), some (.ref (g.1 + v4)), some (.int v5), some (.int y2), none, none]) d_L_law_2438 (by decide) rfl ?_
  refine R_aload_n (pc := 2440) d_L_law_2440 rfl rfl ?_
  obtain ⟨k3, h⟩ := h
  refine R_callV (pc := 2441) (As := []) (rest := []) (c_X7_undo (g := g) v2 M1 _ h) rfl rfl cal_RL_244 ins_X7_undo sel_X7_undo (cls_at k3 clsOK7) (by decide) (by omega) rfl rfl (Nat.le_of_ble_eq_true rfl) d_L_law_2441 (k_I (fun y5 M4 h => ?_)) (fun _ _ h9 => False.elim h9)
  try dsimp only at h
  refine R_istore (pc := 2444) (L' := [some (.ref g.2.2.2.1), some (.ref (g.1 + v1)), some (.ref (g.1 + v2)), some (.ref (g.1 + v3)), some (.ref (g.1 + v4)), some (.int v5), some (.int y2), some (.int y5), none]) d_L_law_2444 (by decide) rfl ?_
  refine R_aload_n (pc := 2446) d_L_law_2446 rfl rfl ?_
  refine R_callV (pc := 2447) (As := []) (rest := []) (c_X7_thrown (g := g) v2 M4 _ h) rfl rfl cal_RL_140 ins_X7_thrown sel_X7_thrown (cls_at k3 clsOK7) (by decide) (by omega) rfl rfl (Nat.le_of_ble_eq_true rfl) d_L_law_2447 (k_I (fun y7 M6 h => ?_)) (fun _ _ h9 => False.elim h9)
  try dsimp only at h
  refine R_iload (pc := 2450) d_L_law_2450 rfl ?_
  refine R_icmp_eq (pc := 2452) (tgt := 2457) d_L_law_2452 (by decide) (fun c => ?_) (fun c => ?_)
  · rw [if_pos c] at h
    refine R_iload (pc := 2457) d_L_law_2457 rfl ?_
    refine R_if_ne (pc := 2459) (tgt := 2474) d_L_law_2459 (by decide) (fun c => ?_) (fun c => ?_)
    · rw [if_neg c] at h
      exact WP_sub (B_L_law_2474 Q κ28 hκ28 v1 v2 v3 v4 v5 M6 h) (by omega) (ls_s (ls_s (ls_s (ls_s (ls_s (ls_s (ls_n (ls_n (ls_n ls_0)))))))))
    · rw [if_pos c] at h
      refine R_aload_n (pc := 2462) d_L_law_2462 rfl rfl ?_
      refine R_iconst (pc := 2463) (v := 0) d_L_law_2463 (by decide) ?_
      obtain ⟨k8, h⟩ := h
      obtain ⟨k9, h⟩ := h
      refine R_lald (pc := 2464) k8 k9 d_L_law_2464 ?_
      refine R_iload (pc := 2465) d_L_law_2465 rfl ?_
      refine R_i2l (pc := 2467) d_L_law_2467 ?_
      refine R_lcmp (pc := 2468) d_L_law_2468 ?_
      refine R_if_eq (pc := 2469) (tgt := 2474) d_L_law_2469 (by decide) (fun c => ?_) (fun c => ?_)
      · rw [if_pos c] at h
        exact WP_sub (B_L_law_2474 Q κ28 hκ28 v1 v2 v3 v4 v5 M6 h) (by omega) (ls_s (ls_s (ls_s (ls_s (ls_s (ls_s (ls_n (ls_n (ls_n ls_0)))))))))
      · rw [if_neg c] at h
        refine R_iconst (pc := 2472) (v := 0) d_L_law_2472 (by decide) ?_
        exact R_retv (pc := 2473) d_L_law_2473 h
  · rw [if_neg c] at h
    refine R_iconst (pc := 2455) (v := 0) d_L_law_2455 (by decide) ?_
    exact R_retv (pc := 2456) d_L_law_2456 h
def T_L_law_2430 (κ28 : Nat → Nat → Nat → Nat → Int32 → Mem → Prop) (Q : Int32 → Mem → Prop) (sl : Nat) (xs : Nat → Int32) (v1 : Nat) (v2 : Nat) (v3 : Nat) (v4 : Nat) (v5 : Int32) (M : Mem) : Prop := T_L_law_2534 κ28 Q sl xs v1 v2 v3 v4 v5 M
set_option maxRecDepth 100000 in
set_option maxHeartbeats 4000000 in
theorem B_L_law_2430 {g : GG} {kr : Nat} (Q : Int32 → Mem → Prop) (κ28 : Nat → Nat → Nat → Nat → Int32 → Mem → Prop) (hκ28 : ∀ (v1 : Nat) (v2 : Nat) (v3 : Nat) (v4 : Nat) (v5 : Int32) (M : Mem), κ28 v1 v2 v3 v4 v5 M → WP g 20 mL_law 28 [some (.ref g.2.2.2.1), some (.ref (g.1 + v1)), some (.ref (g.1 + v2)), some (.ref (g.1 + v3)), some (.ref (g.1 + v4)), some (.int v5), none, none, none] [] M kr (oZ Q noX)) (v1 : Nat) (v2 : Nat) (v3 : Nat) (v4 : Nat) (v5 : Int32) (M : Mem) (h : T_L_law_2430 κ28 Q g.2.2.2.2.1 g.2.2.2.2.2 v1 v2 v3 v4 v5 M) : WP g 20 mL_law 2430 [some (.ref g.2.2.2.1), some (.ref (g.1 + v1)), some (.ref (g.1 + v2)), some (.ref (g.1 + v3)), some (.ref (g.1 + v4)), some (.int v5), none, none, none] [] M (kr + 1) (oZ Q noX) := by
  unfold T_L_law_2430 at h
  refine R_goto (pc := 2430) (tgt := 2534) d_L_law_2430 (by decide) ?_
  exact WP_sub (B_L_law_2534 Q κ28 hκ28 v1 v2 v3 v4 v5 M h) (by omega) (ls_s (ls_s (ls_s (ls_s (ls_s (ls_s (ls_n (ls_n (ls_n ls_0)))))))))
def T_L_law_2389 (κ28 : Nat → Nat → Nat → Nat → Int32 → Mem → Prop) (Q : Int32 → Mem → Prop) (sl : Nat) (xs : Nat → Int32) (v1 : Nat) (v2 : Nat) (v3 : Nat) (v4 : Nat) (v5 : Int32) (M : Mem) : Prop := T_L_perform (fun y2 M1 => (kd v2 = 7) ∧ T_X7_perform (fun y5 M4 => T_X7_thrown (fun y7 M6 => if y7 = y2 then (if y2 = 0 then ((kd v3 = 12) ∧ (vp_in 0 (ln v3)) ∧ if (lg_cmp (M6.2.1 (Int32.toNatClampNeg 0)) (Int32.toInt64 y5)) = 0 then (T_L_law_2430 κ28 Q sl xs v1 v2 v3 v4 v5 M6) else (((0 : Int32) = 0 ∨ (0 : Int32) = 1) ∧ Q 0 M6)) else (T_L_law_2430 κ28 Q sl xs v1 v2 v3 v4 v5 M6)) else (((0 : Int32) = 0 ∨ (0 : Int32) = 1) ∧ Q 0 M6))  v2 M4)  v2 M1)  v1 v3 M
set_option maxRecDepth 100000 in
set_option maxHeartbeats 4000000 in
theorem B_L_law_2389 {g : GG} {kr : Nat} (Q : Int32 → Mem → Prop) (κ28 : Nat → Nat → Nat → Nat → Int32 → Mem → Prop) (hκ28 : ∀ (v1 : Nat) (v2 : Nat) (v3 : Nat) (v4 : Nat) (v5 : Int32) (M : Mem), κ28 v1 v2 v3 v4 v5 M → WP g 20 mL_law 28 [some (.ref g.2.2.2.1), some (.ref (g.1 + v1)), some (.ref (g.1 + v2)), some (.ref (g.1 + v3)), some (.ref (g.1 + v4)), some (.int v5), none, none, none] [] M kr (oZ Q noX)) (v1 : Nat) (v2 : Nat) (v3 : Nat) (v4 : Nat) (v5 : Int32) (M : Mem) (h : T_L_law_2389 κ28 Q g.2.2.2.2.1 g.2.2.2.2.2 v1 v2 v3 v4 v5 M) : WP g 20 mL_law 2389 [some (.ref g.2.2.2.1), some (.ref (g.1 + v1)), some (.ref (g.1 + v2)), some (.ref (g.1 + v3)), some (.ref (g.1 + v4)), some (.int v5), none, none, none] [] M (kr + 2) (oZ Q noX) := by
  unfold T_L_law_2389 at h
  refine R_aload_n (pc := 2389) d_L_law_2389 rfl rfl ?_
  refine R_aload_n (pc := 2390) d_L_law_2390 rfl rfl ?_
  refine R_callSW (pc := 2391) (As := [.ref (g.1 + v1), .ref (g.1 + v3)]) (rest := []) (c_L_perform (g := g) v1 v3 M _ h) rfl rfl cal_RL_238 sta_L_perform (by decide) (by omega) rfl rfl (Nat.le_of_ble_eq_true rfl) d_L_law_2391 (k_I (fun y2 M1 h => ?_)) (fun _ _ h9 => False.elim h9)
  try dsimp only at h
  refine R_istore (pc := 2394) (L' := [some (.ref g.2.2.2.1), some (.ref (g.1 + v1)), some (.ref (g.1 + v2)), some (.ref (g.1 + v3)), some (.ref (g.1 + v4)), some (.int v5), some (.int y2), none, none]) d_L_law_2394 (by decide) rfl ?_
  refine R_aload_n (pc := 2396) d_L_law_2396 rfl rfl ?_
  obtain ⟨k3, h⟩ := h
  refine R_callV (pc := 2397) (As := []) (rest := []) (c_X7_perform (g := g) v2 M1 _ h) rfl rfl cal_RL_241 ins_X7_perform sel_X7_perform (cls_at k3 clsOK7) (by decide) (by omega) rfl rfl (Nat.le_of_ble_eq_true rfl) d_L_law_2397 (k_I (fun y5 M4 h => ?_)) (fun _ _ h9 => False.elim h9)
  try dsimp only at h
  refine R_istore (pc := 2400) (L' := [some (.ref g.2.2.2.1), some (.ref (g.1 + v1)), some (.ref (g.1 + v2)), some (.ref (g.1 + v3)), some (.ref (g.1 + v4)), some (.int v5), some (.int y2), some (.int y5), none]) d_L_law_2400 (by decide) rfl ?_
  refine R_aload_n (pc := 2402) d_L_law_2402 rfl rfl ?_
  refine R_callV (pc := 2403) (As := []) (rest := []) (c_X7_thrown (g := g) v2 M4 _ h) rfl rfl cal_RL_140 ins_X7_thrown sel_X7_thrown (cls_at k3 clsOK7) (by decide) (by omega) rfl rfl (Nat.le_of_ble_eq_true rfl) d_L_law_2403 (k_I (fun y7 M6 h => ?_)) (fun _ _ h9 => False.elim h9)
  try dsimp only at h
  refine R_iload (pc := 2406) d_L_law_2406 rfl ?_
  refine R_icmp_eq (pc := 2408) (tgt := 2413) d_L_law_2408 (by decide) (fun c => ?_) (fun c => ?_)
  · rw [if_pos c] at h
    refine R_iload (pc := 2413) d_L_law_2413 rfl ?_
    refine R_if_ne (pc := 2415) (tgt := 2430) d_L_law_2415 (by decide) (fun c => ?_) (fun c => ?_)
    · rw [if_neg c] at h
      exact WP_sub (B_L_law_2430 Q κ28 hκ28 v1 v2 v3 v4 v5 M6 h) (by omega) (ls_s (ls_s (ls_s (ls_s (ls_s (ls_s (ls_n (ls_n (ls_n ls_0)))))))))
    · rw [if_pos c] at h
      refine R_aload_n (pc := 2418) d_L_law_2418 rfl rfl ?_
      refine R_iconst (pc := 2419) (v := 0) d_L_law_2419 (by decide) ?_
      obtain ⟨k8, h⟩ := h
      obtain ⟨k9, h⟩ := h
      refine R_lald (pc := 2420) k8 k9 d_L_law_2420 ?_
      refine R_iload (pc := 2421) d_L_law_2421 rfl ?_
      refine R_i2l (pc := 2423) d_L_law_2423 ?_
      refine R_lcmp (pc := 2424) d_L_law_2424 ?_
      refine R_if_eq (pc := 2425) (tgt := 2430) d_L_law_2425 (by decide) (fun c => ?_) (fun c => ?_)
      · rw [if_pos c] at h
        exact WP_sub (B_L_law_2430 Q κ28 hκ28 v1 v2 v3 v4 v5 M6 h) (by omega) (ls_s (ls_s (ls_s (ls_s (ls_s (ls_s (ls_n (ls_n (ls_n ls_0)))))))))
      · rw [if_neg c] at h
        refine R_iconst (pc := 2428) (v := 0) d_L_law_2428 (by decide) ?_
        exact R_retv (pc := 2429) d_L_law_2429 h
  · rw [if_neg c] at h
    refine R_iconst (pc := 2411) (v := 0) d_L_law_2411 (by decide) ?_
    exact R_retv (pc := 2412) d_L_law_2412 h
def T_L_law_2386 (κ28 : Nat → Nat → Nat → Nat → Int32 → Mem → Prop) (Q : Int32 → Mem → Prop) (sl : Nat) (xs : Nat → Int32) (v1 : Nat) (v2 : Nat) (v3 : Nat) (v4 : Nat) (v5 : Int32) (M : Mem) : Prop := T_L_law_2534 κ28 Q sl xs v1 v2 v3 v4 v5 M
set_option maxRecDepth 100000 in
set_option maxHeartbeats 4000000 in
theorem B_L_law_2386 {g : GG} {kr : Nat} (Q : Int32 → Mem → Prop) (κ28 : Nat → Nat → Nat → Nat → Int32 → Mem → Prop) (hκ28 : ∀ (v1 : Nat) (v2 : Nat) (v3 : Nat) (v4 : Nat) (v5 : Int32) (M : Mem), κ28 v1 v2 v3 v4 v5 M → WP g 20 mL_law 28 [some (.ref g.2.2.2.1), some (.ref (g.1 + v1)), some (.ref (g.1 + v2)), some (.ref (g.1 + v3)), some (.ref (g.1 + v4)), some (.int v5), none, none, none] [] M kr (oZ Q noX)) (v1 : Nat) (v2 : Nat) (v3 : Nat) (v4 : Nat) (v5 : Int32) (M : Mem) (h : T_L_law_2386 κ28 Q g.2.2.2.2.1 g.2.2.2.2.2 v1 v2 v3 v4 v5 M) : WP g 20 mL_law 2386 [some (.ref g.2.2.2.1), some (.ref (g.1 + v1)), some (.ref (g.1 + v2)), some (.ref (g.1 + v3)), some (.ref (g.1 + v4)), some (.int v5), none, none, none] [] M (kr + 1) (oZ Q noX) := by
  unfold T_L_law_2386 at h
  refine R_goto (pc := 2386) (tgt := 2534) d_L_law_2386 (by decide) ?_
  exact WP_sub (B_L_law_2534 Q κ28 hκ28 v1 v2 v3 v4 v5 M h) (by omega) (ls_s (ls_s (ls_s (ls_s (ls_s (ls_s (ls_n (ls_n (ls_n ls_0)))))))))
def T_L_law_2331 (κ28 : Nat → Nat → Nat → Nat → Int32 → Mem → Prop) (Q : Int32 → Mem → Prop) (sl : Nat) (xs : Nat → Int32) (v1 : Nat) (v2 : Nat) (v3 : Nat) (v4 : Nat) (v5 : Int32) (M : Mem) : Prop := (vp_in (v5 + 1) sl) ∧ T_L_feed (fun y3 M2 => (kd v2 = 7) ∧ T_X7_feed (fun y6 M5 => T_X7_thrown (fun y8 M7 => if y8 = y3 then (if y3 = 0 then ((kd v3 = 12) ∧ (vp_in 0 (ln v3)) ∧ if (lg_cmp (M7.2.1 (Int32.toNatClampNeg 0)) (Int32.toInt64 y6)) = 0 then (T_L_law_2386 κ28 Q sl xs v1 v2 v3 v4 v5 M7) else (((0 : Int32) = 0 ∨ (0 : Int32) = 1) ∧ Q 0 M7)) else (T_L_law_2386 κ28 Q sl xs v1 v2 v3 v4 v5 M7)) else (((0 : Int32) = 0 ∨ (0 : Int32) = 1) ∧ Q 0 M7))  v2 M5)  v2 (((Int32.toUInt32 (xs (Int32.toNatClampNeg (v5 + 1)))) % 65536).toInt32) M2)  v1 (((Int32.toUInt32 (xs (Int32.toNatClampNeg (v5 + 1)))) % 65536).toInt32) v3 M
set_option maxRecDepth 100000 in
set_option maxHeartbeats 4000000 in
theorem B_L_law_2331 {g : GG} {kr : Nat} (Q : Int32 → Mem → Prop) (κ28 : Nat → Nat → Nat → Nat → Int32 → Mem → Prop) (hκ28 : ∀ (v1 : Nat) (v2 : Nat) (v3 : Nat) (v4 : Nat) (v5 : Int32) (M : Mem), κ28 v1 v2 v3 v4 v5 M → WP g 20 mL_law 28 [some (.ref g.2.2.2.1), some (.ref (g.1 + v1)), some (.ref (g.1 + v2)), some (.ref (g.1 + v3)), some (.ref (g.1 + v4)), some (.int v5), none, none, none] [] M kr (oZ Q noX)) (v1 : Nat) (v2 : Nat) (v3 : Nat) (v4 : Nat) (v5 : Int32) (M : Mem) (h : T_L_law_2331 κ28 Q g.2.2.2.2.1 g.2.2.2.2.2 v1 v2 v3 v4 v5 M) : WP g 20 mL_law 2331 [some (.ref g.2.2.2.1), some (.ref (g.1 + v1)), some (.ref (g.1 + v2)), some (.ref (g.1 + v3)), some (.ref (g.1 + v4)), some (.int v5), none, none, none] [] M (kr + 2) (oZ Q noX) := by
  unfold T_L_law_2331 at h
  refine R_aload_n (pc := 2331) d_L_law_2331 rfl rfl ?_
  refine R_aload_n (pc := 2332) d_L_law_2332 rfl rfl ?_
  refine R_iload (pc := 2333) d_L_law_2333 rfl ?_
  refine R_iconst (pc := 2335) (v := 1) d_L_law_2335 (by decide) ?_
  refine R_iadd (pc := 2336) d_L_law_2336 ?_
  obtain ⟨k1, h⟩ := h
  refine R_sld (pc := 2337) k1 d_L_law_2337 ?_
  refine R_i2c (pc := 2338) d_L_law_2338 ?_
  refine R_aload_n (pc := 2339) d_L_law_2339 rfl rfl ?_
  refine R_callSW (pc := 2340) (As := [.ref (g.1 + v1), .int (((Int32.toUInt32 (g.2.2.2.2.2 (Int32.toNatClampNeg (v5 + 1)))) % 65536).toInt32), .ref (g.1 + v3)]) (rest := []) (c_L_feed (g := g) v1 (((Int32.toUInt32 (g.2.2.2.2.2 (Int32.toNatClampNeg (v5 + 1)))) % 65536).toInt32) v3 M _ h) rfl rfl cal_RL_234 sta_L_feed (by decide) (by omega) rfl rfl (Nat.le_of_ble_eq_true rfl) d_L_law_2340 (k_I (fun y3 M2 h => ?_)) (fun _ _ h9 => False.elim h9)
  try dsimp only at h
  refine R_istore (pc := 2343) (L' := [some (.ref g.2.2.2.1), some (.ref (g.1 + v1)), some (.ref (g.1 + v2)), some (.ref (g.1 + v3)), some (.ref (g.1 + v4)), some (.int v5), some (.int y3), none, none]) d_L_law_2343 (by decide) rfl ?_
  refine R_aload_n (pc := 2345) d_L_law_2345 rfl rfl ?_
  refine R_aload_n (pc := 2346) d_L_law_2346 rfl rfl ?_
  refine R_iload (pc := 2347) d_L_law_2347 rfl ?_
  refine R_iconst (pc := 2349) (v := 1) d_L_law_2349 (by decide) ?_
  refine R_iadd (pc := 2350) d_L_law_2350 ?_
  refine R_sld (pc := 2351) k1 d_L_law_2351 ?_
  refine R_i2c (pc := 2352) d_L_law_2352 ?_
  obtain ⟨k4, h⟩ := h
  refine R_callV (pc := 2353) (As := [.int (((Int32.toUInt32 (g.2.2.2.2.2 (Int32.toNatClampNeg (v5 + 1)))) % 65536).toInt32)]) (rest := []) (c_X7_feed (g := g) v2 (((Int32.toUInt32 (g.2.2.2.2.2 (Int32.toNatClampNeg (v5 + 1)))) % 65536).toInt32) M2 _ h) rfl rfl cal_RL_237 ins_X7_feed sel_X7_feed (cls_at k4 clsOK7) (by decide) (by omega) rfl rfl (Nat.le_of_ble_eq_true rfl) d_L_law_2353 (k_I (fun y6 M5 h => ?_)) (fun _ _ h9 => False.elim h9)
  try dsimp only at h
  refine R_istore (pc := 2356) (L' := [some (.ref g.2.2.2.1), some (.ref (g.1 + v1)), some (.ref (g.1 + v2)), some (.ref (g.1 + v3)), some (.ref (g.1 + v4)), some (.int v5), some (.int y3), some (.int y6), none]) d_L_law_2356 (by decide) rfl ?_
  refine R_aload_n (pc := 2358) d_L_law_2358 rfl rfl ?_
  refine R_callV (pc := 2359) (As := []) (rest := []) (c_X7_thrown (g := g) v2 M5 _ h) rfl rfl cal_RL_140 ins_X7_thrown sel_X7_thrown (cls_at k4 clsOK7) (by decide) (by omega) rfl rfl (Nat.le_of_ble_eq_true rfl) d_L_law_2359 (k_I (fun y8 M7 h => ?_)) (fun _ _ h9 => False.elim h9)
  try dsimp only at h
  refine R_iload (pc := 2362) d_L_law_2362 rfl ?_
  refine R_icmp_eq (pc := 2364) (tgt := 2369) d_L_law_2364 (by decide) (fun c => ?_) (fun c => ?_)
  · rw [if_pos c] at h
    refine R_iload (pc := 2369) d_L_law_2369 rfl ?_
    refine R_if_ne (pc := 2371) (tgt := 2386) d_L_law_2371 (by decide) (fun c => ?_) (fun c => ?_)
    · rw [if_neg c] at h
      exact WP_sub (B_L_law_2386 Q κ28 hκ28 v1 v2 v3 v4 v5 M7 h) (by omega) (ls_s (ls_s (ls_s (ls_s (ls_s (ls_s (ls_n (ls_n (ls_n ls_0)))))))))
    · rw [if_pos c] at h
      refine R_aload_n (pc := 2374) d_L_law_2374 rfl rfl ?_
      refine R_iconst (pc := 2375) (v := 0) d_L_law_2375 (by decide) ?_
      obtain ⟨k9, h⟩ := h
      obtain ⟨k10, h⟩ := h
      refine R_lald (pc := 2376) k9 k10 d_L_law_2376 ?_
      refine R_iload (pc := 2377) d_L_law_2377 rfl ?_
      refine R_i2l (pc := 2379) d_L_law_2379 ?_
      refine R_lcmp (pc := 2380) d_L_law_2380 ?_
      refine R_if_eq (pc := 2381) (tgt := 2386) d_L_law_2381 (by decide) (fun c => ?_) (fun c => ?_)
      · rw [if_pos c] at h
        exact WP_sub (B_L_law_2386 Q κ28 hκ28 v1 v2 v3 v4 v5 M7 h) (by omega) (ls_s (ls_s (ls_s (ls_s (ls_s (ls_s (ls_n (ls_n (ls_n ls_0)))))))))
      · rw [if_neg c] at h
        refine R_iconst (pc := 2384) (v := 0) d_L_law_2384 (by decide) ?_
        exact R_retv (pc := 2385) d_L_law_2385 h
  · rw [if_neg c] at h
    refine R_iconst (pc := 2367) (v := 0) d_L_law_2367 (by decide) ?_
    exact R_retv (pc := 2368) d_L_law_2368 h
def T_L_law_2328 (κ28 : Nat → Nat → Nat → Nat → Int32 → Mem → Prop) (Q : Int32 → Mem → Prop) (sl : Nat) (xs : Nat → Int32) (v1 : Nat) (v2 : Nat) (v3 : Nat) (v4 : Nat) (v5 : Int32) (M : Mem) : Prop := T_L_law_2534 κ28 Q sl xs v1 v2 v3 v4 v5 M
set_option maxRecDepth 100000 in
set_option maxHeartbeats 4000000 in
theorem B_L_law_2328 {g : GG} {kr : Nat} (Q : Int32 → Mem → Prop) (κ28 : Nat → Nat → Nat → Nat → Int32 → Mem → Prop) (hκ28 : ∀ (v1 : Nat) (v2 : Nat) (v3 : Nat) (v4 : Nat) (v5 : Int32) (M : Mem), κ28 v1 v2 v3 v4 v5 M → WP g 20 mL_law 28 [some (.ref g.2.2.2.1), some (.ref (g.1 + v1)), some (.ref (g.1 + v2)), some (.ref (g.1 + v3)), some (.ref (g.1 + v4)), some (.int v5), none, none, none] [] M kr (oZ Q noX)) (v1 : Nat) (v2 : Nat) (v3 : Nat) (v4 : Nat) (v5 : Int32) (M : Mem) (h : T_L_law_2328 κ28 Q g.2.2.2.2.1 g.2.2.2.2.2 v1 v2 v3 v4 v5 M) : WP g 20 mL_law 2328 [some (.ref g.2.2.2.1), some (.ref (g.1 + v1)), some (.ref (g.1 + v2)), some (.ref (g.1 + v3)), some (.ref (g.1 + v4)), some (.int v5), none, none, none] [] M (kr + 1) (oZ Q noX) := by
  unfold T_L_law_2328 at h
  refine R_goto (pc := 2328) (tgt := 2534) d_L_law_2328 (by decide) ?_
  exact WP_sub (B_L_law_2534 Q κ28 hκ28 v1 v2 v3 v4 v5 M h) (by omega) (ls_s (ls_s (ls_s (ls_s (ls_s (ls_s (ls_n (ls_n (ls_n ls_0)))))))))
def T_L_law_2326 (κ28 : Nat → Nat → Nat → Nat → Int32 → Mem → Prop) (Q : Int32 → Mem → Prop) (sl : Nat) (xs : Nat → Int32) (M : Mem) : Prop := ((0 : Int32) = 0 ∨ (0 : Int32) = 1) ∧ Q 0 M
set_option maxRecDepth 100000 in
set_option maxHeartbeats 4000000 in
theorem B_L_law_2326 {g : GG} {kr : Nat} (Q : Int32 → Mem → Prop) (κ28 : Nat → Nat → Nat → Nat → Int32 → Mem → Prop) (hκ28 : ∀ (v1 : Nat) (v2 : Nat) (v3 : Nat) (v4 : Nat) (v5 : Int32) (M : Mem), κ28 v1 v2 v3 v4 v5 M → WP g 20 mL_law 28 [some (.ref g.2.2.2.1), some (.ref (g.1 + v1)), some (.ref (g.1 + v2)), some (.ref (g.1 + v3)), some (.ref (g.1 + v4)), some (.int v5), none, none, none] [] M kr (oZ Q noX)) (M : Mem) (h : T_L_law_2326 κ28 Q g.2.2.2.2.1 g.2.2.2.2.2  M) : WP g 20 mL_law 2326 [none, none, none, none, none, none, none, none, none] [] M (kr + 1) (oZ Q noX) := by
  unfold T_L_law_2326 at h
  refine R_iconst (pc := 2326) (v := 0) d_L_law_2326 (by decide) ?_
  exact R_retv (pc := 2327) d_L_law_2327 h
def T_L_law_2253 (κ28 : Nat → Nat → Nat → Nat → Int32 → Mem → Prop) (Q : Int32 → Mem → Prop) (sl : Nat) (xs : Nat → Int32) (v1 : Nat) (v2 : Nat) (v3 : Nat) (v4 : Nat) (v5 : Int32) (M : Mem) : Prop := (vp_in (v5 + 1) sl) ∧ T_L_use (fun y3 M2 => (kd v2 = 7) ∧ T_X7_use (fun y6 M5 => T_X7_thrown (fun y8 M7 => if y8 = y3 then (if y3 = 0 then ((kd v4 = 13) ∧ (vp_in 0 (ln v4)) ∧ (vf_n64 (FP.f2d y6)) ∧ if (Op.cmpValue (FP.dcmp (M7.2.2 (Int32.toNatClampNeg 0)) (FP.f2d y6)) .l) = 0 then (T_L_law_2328 κ28 Q sl xs v1 v2 v3 v4 v5 M7) else (if (Op.cmpValue (FP.dcmp (M7.2.2 (Int32.toNatClampNeg 0)) (M7.2.2 (Int32.toNatClampNeg 0))) .l) = 0 then (T_L_law_2326 κ28 Q sl xs M7) else (if (Op.cmpValue (FP.fcmp y6 y6) .l) = 0 then (T_L_law_2326 κ28 Q sl xs M7) else (T_L_law_2328 κ28 Q sl xs v1 v2 v3 v4 v5 M7)))) else (T_L_law_2328 κ28 Q sl xs v1 v2 v3 v4 v5 M7)) else (((0 : Int32) = 0 ∨ (0 : Int32) = 1) ∧ Q 0 M7))  v2 M5)  v2 (xs (Int32.toNatClampNeg (v5 + 1))) M2)  v1 (xs (Int32.toNatClampNeg (v5 + 1))) v4 M
set_option maxRecDepth 100000 in
set_option maxHeartbeats 4000000 in
theorem B_L_law_2253 {g : GG} {kr : Nat} (Q : Int32 → Mem → Prop) (κ28 : Nat → Nat → Nat → Nat → Int32 → Mem → Prop) (hκ28 : ∀ (v1 : Nat) (v2 : Nat) (v3 : Nat) (v4 : Nat) (v5 : Int32) (M : Mem), κ28 v1 v2 v3 v4 v5 M → WP g 20 mL_law 28 [some (.ref g.2.2.2.1), some (.ref (g.1 + v1)), some (.ref (g.1 + v2)), some (.ref (g.1 + v3)), some (.ref (g.1 + v4)), some (.int v5), none, none, none] [] M kr (oZ Q noX)) (v1 : Nat) (v2 : Nat) (v3 : Nat) (v4 : Nat) (v5 : Int32) (M : Mem) (h : T_L_law_2253 κ28 Q g.2.2.2.2.1 g.2.2.2.2.2 v1 v2 v3 v4 v5 M) : WP g 20 mL_law 2253 [some (.ref g.2.2.2.1), some (.ref (g.1 + v1)), some (.ref (g.1 + v2)), some (.ref (g.1 + v3)), some (.ref (g.1 + v4)), some (.int v5), none, none, none] [] M (kr + 2) (oZ Q noX) := by
  unfold T_L_law_2253 at h
  refine R_aload_n (pc := 2253) d_L_law_2253 rfl rfl ?_
  refine R_aload_n (pc := 2254) d_L_law_2254 rfl rfl ?_
  refine R_iload (pc := 2255) d_L_law_2255 rfl ?_
  refine R_iconst (pc := 2257) (v := 1) d_L_law_2257 (by decide) ?_
  refine R_iadd (pc := 2258) d_L_law_2258 ?_
  obtain ⟨k1, h⟩ := h
  refine R_sld (pc := 2259) k1 d_L_law_2259 ?_
  refine R_aload (pc := 2260) d_L_law_2260 rfl ?_
  refine R_callSW (pc := 2262) (As := [.ref (g.1 + v1), .int (g.2.2.2.2.2 (Int32.toNatClampNeg (v5 + 1))), .ref (g.1 + v4)]) (rest := []) (c_L_use (g := g) v1 (g.2.2.2.2.2 (Int32.toNatClampNeg (v5 + 1))) v4 M _ h) rfl rfl cal_RL_230 sta_L_use (by decide) (by omega) rfl rfl (Nat.le_of_ble_eq_true rfl) d_L_law_2262 (k_I (fun y3 M2 h => ?_)) (fun _ _ h9 => False.elim h9)
  try dsimp only at h
  refine R_istore (pc := 2265) (L' := [some (.ref g.2.2.2.1), some (.ref (g.1 + v1)), some (.ref (g.1 + v2)), some (.ref (g.1 + v3)), some (.ref (g.1 + v4)), some (.int v5), some (.int y3), none, none]) d_L_law_2265 (by decide) rfl ?_
  refine R_aload_n (pc := 2267) d_L_law_2267 rfl rfl ?_
  refine R_aload_n (pc := 2268) d_L_law_2268 rfl rfl ?_
  refine R_iload (pc := 2269) d_L_law_2269 rfl ?_
  refine R_iconst (pc := 2271) (v := 1) d_L_law_2271 (by decide) ?_
  refine R_iadd (pc := 2272) d_L_law_2272 ?_
  refine R_sld (pc := 2273) k1 d_L_law_2273 ?_
  obtain ⟨k4, h⟩ := h
  refine R_callV (pc := 2274) (As := [.int (g.2.2.2.2.2 (Int32.toNatClampNeg (v5 + 1)))]) (rest := []) (c_X7_use (g := g) v2 (g.2.2.2.2.2 (Int32.toNatClampNeg (v5 + 1))) M2 _ h) rfl rfl cal_RL_233 ins_X7_use sel_X7_use (cls_at k4 clsOK7) (by decide) (by omega) rfl rfl (Nat.le_of_ble_eq_true rfl) d_L_law_2274 (k_F (fun y6 M5 h => ?_)) (fun _ _ h9 => False.elim h9)
  try dsimp only at h
  refine R_fstore (pc := 2277) (L' := [some (.ref g.2.2.2.1), some (.ref (g.1 + v1)), some (.ref (g.1 + v2)), some (.ref (g.1 + v3)), some (.ref (g.1 + v4)), some (.int v5), some (.int y3), some (.float y6), none]) d_L_law_2277 (by decide) rfl ?_
  refine R_aload_n (pc := 2279) d_L_law_2279 rfl rfl ?_
  refine R_callV (pc := 2280) (As := []) (rest := []) (c_X7_thrown (g := g) v2 M5 _ h) rfl rfl cal_RL_140 ins_X7_thrown sel_X7_thrown (cls_at k4 clsOK7) (by decide) (by omega) rfl rfl (Nat.le_of_ble_eq_true rfl) d_L_law_2280 (k_I (fun y8 M7 h => ?_)) (fun _ _ h9 => False.elim h9)
  try dsimp only at h
  refine R_iload (pc := 2283) d_L_law_2283 rfl ?_
  refine R_icmp_eq (pc := 2285) (tgt := 2290) d_L_law_2285 (by decide) (fun c => ?_) (fun c => ?_)
  · rw [if_pos c] at h
    refine R_iload (pc := 2290) d_L_law_2290 rfl ?_
    refine R_if_ne (pc := 2292) (tgt := 2328) d_L_law_2292 (by decide) (fun c => ?_) (fun c => ?_)
    · rw [if_neg c] at h
      exact WP_sub (B_L_law_2328 Q κ28 hκ28 v1 v2 v3 v4 v5 M7 h) (by omega) (ls_s (ls_s (ls_s (ls_s (ls_s (ls_s (ls_n (ls_n (ls_n ls_0)))))))))
    · rw [if_pos c] at h
      refine R_aload (pc := 2295) d_L_law_2295 rfl ?_
      refine R_iconst (pc := 2297) (v := 0) d_L_law_2297 (by decide) ?_
      obtain ⟨k9, h⟩ := h
      obtain ⟨k10, h⟩ := h
      refine R_dald (pc := 2298) k9 k10 d_L_law_2298 ?_
      refine R_fload (pc := 2299) d_L_law_2299 rfl ?_
      obtain ⟨k11, h⟩ := h
      refine R_f2d (pc := 2301) d_L_law_2301 k11 ?_
      refine R_dcmp (pc := 2302) d_L_law_2302 ?_
      refine R_if_eq (pc := 2303) (tgt := 2328) d_L_law_2303 (by decide) (fun c => ?_) (fun c => ?_)
      · rw [if_pos c] at h
        exact WP_sub (B_L_law_2328 Q κ28 hκ28 v1 v2 v3 v4 v5 M7 h) (by omega) (ls_s (ls_s (ls_s (ls_s (ls_s (ls_s (ls_n (ls_n (ls_n ls_0)))))))))
      · rw [if_neg c] at h
        refine R_aload (pc := 2306) d_L_law_2306 rfl ?_
        refine R_iconst (pc := 2308) (v := 0) d_L_law_2308 (by decide) ?_
        refine R_dald (pc := 2309) k9 k10 d_L_law_2309 ?_
        refine R_aload (pc := 2310) d_L_law_2310 rfl ?_
        refine R_iconst (pc := 2312) (v := 0) d_L_law_2312 (by decide) ?_
        refine R_dald (pc := 2313) k9 k10 d_L_law_2313 ?_
        refine R_dcmp (pc := 2314) d_L_law_2314 ?_
        refine R_if_eq (pc := 2315) (tgt := 2326) d_L_law_2315 (by decide) (fun c => ?_) (fun c => ?_)
        · rw [if_pos c] at h
          exact WP_sub (B_L_law_2326 Q κ28 hκ28 M7 h) (by omega) (ls_n (ls_n (ls_n (ls_n (ls_n (ls_n (ls_n (ls_n (ls_n ls_0)))))))))
        · rw [if_neg c] at h
          refine R_fload (pc := 2318) d_L_law_2318 rfl ?_
          refine R_fload (pc := 2320) d_L_law_2320 rfl ?_
          refine R_fcmp (pc := 2322) d_L_law_2322 ?_
          refine R_if_ne (pc := 2323) (tgt := 2328) d_L_law_2323 (by decide) (fun c => ?_) (fun c => ?_)
          · rw [if_neg c] at h
            exact WP_sub (B_L_law_2328 Q κ28 hκ28 v1 v2 v3 v4 v5 M7 h) (by omega) (ls_s (ls_s (ls_s (ls_s (ls_s (ls_s (ls_n (ls_n (ls_n ls_0)))))))))
          · rw [if_pos c] at h
            exact WP_sub (B_L_law_2326 Q κ28 hκ28 M7 h) (by omega) (ls_n (ls_n (ls_n (ls_n (ls_n (ls_n (ls_n (ls_n (ls_n ls_0)))))))))
  · rw [if_neg c] at h
    refine R_iconst (pc := 2288) (v := 0) d_L_law_2288 (by decide) ?_
    exact R_retv (pc := 2289) d_L_law_2289 h
def T_L_law_2250 (κ28 : Nat → Nat → Nat → Nat → Int32 → Mem → Prop) (Q : Int32 → Mem → Prop) (sl : Nat) (xs : Nat → Int32) (v1 : Nat) (v2 : Nat) (v3 : Nat) (v4 : Nat) (v5 : Int32) (M : Mem) : Prop := T_L_law_2534 κ28 Q sl xs v1 v2 v3 v4 v5 M
set_option maxRecDepth 100000 in
set_option maxHeartbeats 4000000 in
theorem B_L_law_2250 {g : GG} {kr : Nat} (Q : Int32 → Mem → Prop) (κ28 : Nat → Nat → Nat → Nat → Int32 → Mem → Prop) (hκ28 : ∀ (v1 : Nat) (v2 : Nat) (v3 : Nat) (v4 : Nat) (v5 : Int32) (M : Mem), κ28 v1 v2 v3 v4 v5 M → WP g 20 mL_law 28 [some (.ref g.2.2.2.1), some (.ref (g.1 + v1)), some (.ref (g.1 + v2)), some (.ref (g.1 + v3)), some (.ref (g.1 + v4)), some (.int v5), none, none, none] [] M kr (oZ Q noX)) (v1 : Nat) (v2 : Nat) (v3 : Nat) (v4 : Nat) (v5 : Int32) (M : Mem) (h : T_L_law_2250 κ28 Q g.2.2.2.2.1 g.2.2.2.2.2 v1 v2 v3 v4 v5 M) : WP g 20 mL_law 2250 [some (.ref g.2.2.2.1), some (.ref (g.1 + v1)), some (.ref (g.1 + v2)), some (.ref (g.1 + v3)), some (.ref (g.1 + v4)), some (.int v5), none, none, none] [] M (kr + 1) (oZ Q noX) := by
  unfold T_L_law_2250 at h
  refine R_goto (pc := 2250) (tgt := 2534) d_L_law_2250 (by decide) ?_
  exact WP_sub (B_L_law_2534 Q κ28 hκ28 v1 v2 v3 v4 v5 M h) (by omega) (ls_s (ls_s (ls_s (ls_s (ls_s (ls_s (ls_n (ls_n (ls_n ls_0)))))))))
def T_L_law_2248 (κ28 : Nat → Nat → Nat → Nat → Int32 → Mem → Prop) (Q : Int32 → Mem → Prop) (sl : Nat) (xs : Nat → Int32) (M : Mem) : Prop := ((0 : Int32) = 0 ∨ (0 : Int32) = 1) ∧ Q 0 M
set_option maxRecDepth 100000 in
set_option maxHeartbeats 4000000 in
theorem B_L_law_2248 {g : GG} {kr : Nat} (Q : Int32 → Mem → Prop) (κ28 : Nat → Nat → Nat → Nat → Int32 → Mem → Prop) (hκ28 : ∀ (v1 : Nat) (v2 : Nat) (v3 : Nat) (v4 : Nat) (v5 : Int32) (M : Mem), κ28 v1 v2 v3 v4 v5 M → WP g 20 mL_law 28 [some (.ref g.2.2.2.1), some (.ref (g.1 + v1)), some (.ref (g.1 + v2)), some (.ref (g.1 + v3)), some (.ref (g.1 + v4)), some (.int v5), none, none, none] [] M kr (oZ Q noX)) (M : Mem) (h : T_L_law_2248 κ28 Q g.2.2.2.2.1 g.2.2.2.2.2  M) : WP g 20 mL_law 2248 [none, none, none, none, none, none, none, none, none] [] M (kr + 1) (oZ Q noX) := by
  unfold T_L_law_2248 at h
  refine R_iconst (pc := 2248) (v := 0) d_L_law_2248 (by decide) ?_
  exact R_retv (pc := 2249) d_L_law_2249 h
def T_L_law_2188 (κ28 : Nat → Nat → Nat → Nat → Int32 → Mem → Prop) (Q : Int32 → Mem → Prop) (sl : Nat) (xs : Nat → Int32) (v1 : Nat) (v2 : Nat) (v3 : Nat) (v4 : Nat) (v5 : Int32) (M : Mem) : Prop := T_L_meanDistance (fun y2 M1 => (kd v2 = 7) ∧ T_X7_meanDistance (fun y5 M4 => T_X7_thrown (fun y7 M6 => if y7 = y2 then (if y2 = 0 then ((kd v4 = 13) ∧ (vp_in 0 (ln v4)) ∧ if (Op.cmpValue (FP.dcmp (M6.2.2 (Int32.toNatClampNeg 0)) y5) .l) = 0 then (T_L_law_2250 κ28 Q sl xs v1 v2 v3 v4 v5 M6) else (if (Op.cmpValue (FP.dcmp (M6.2.2 (Int32.toNatClampNeg 0)) (M6.2.2 (Int32.toNatClampNeg 0))) .l) = 0 then (T_L_law_2248 κ28 Q sl xs M6) else (if (Op.cmpValue (FP.dcmp y5 y5) .l) = 0 then (T_L_law_2248 κ28 Q sl xs M6) else (T_L_law_2250 κ28 Q sl xs v1 v2 v3 v4 v5 M6)))) else (T_L_law_2250 κ28 Q sl xs v1 v2 v3 v4 v5 M6)) else (((0 : Int32) = 0 ∨ (0 : Int32) = 1) ∧ Q 0 M6))  v2 M4)  v2 M1)  v1 v4 M
set_option maxRecDepth 100000 in
set_option maxHeartbeats 4000000 in
theorem B_L_law_2188 {g : GG} {kr : Nat} (Q : Int32 → Mem → Prop) (κ28 : Nat → Nat → Nat → Nat → Int32 → Mem → Prop) (hκ28 : ∀ (v1 : Nat) (v2 : Nat) (v3 : Nat) (v4 : Nat) (v5 : Int32) (M : Mem), κ28 v1 v2 v3 v4 v5 M → WP g 20 mL_law 28 [some (.ref g.2.2.2.1), some (.ref (g.1 + v1)), some (.ref (g.1 + v2)), some (.ref (g.1 + v3)), some (.ref (g.1 + v4)), some (.int v5), none, none, none] [] M kr (oZ Q noX)) (v1 : Nat) (v2 : Nat) (v3 : Nat) (v4 : Nat) (v5 : Int32) (M : Mem) (h : T_L_law_2188 κ28 Q g.2.2.2.2.1 g.2.2.2.2.2 v1 v2 v3 v4 v5 M) : WP g 20 mL_law 2188 [some (.ref g.2.2.2.1), some (.ref (g.1 + v1)), some (.ref (g.1 + v2)), some (.ref (g.1 + v3)), some (.ref (g.1 + v4)), some (.int v5), none, none, none] [] M (kr + 2) (oZ Q noX) := by
  unfold T_L_law_2188 at h
  refine R_aload_n (pc := 2188) d_L_law_2188 rfl rfl ?_
  refine R_aload (pc := 2189) d_L_law_2189 rfl ?_
  refine R_callSW (pc := 2191) (As := [.ref (g.1 + v1), .ref (g.1 + v4)]) (rest := []) (c_L_meanDistance (g := g) v1 v4 M _ h) rfl rfl cal_RL_226 sta_L_meanDistance (by decide) (by omega) rfl rfl (Nat.le_of_ble_eq_true rfl) d_L_law_2191 (k_I (fun y2 M1 h => ?_)) (fun _ _ h9 => False.elim h9)
  try dsimp only at h
  refine R_istore (pc := 2194) (L' := [some (.ref g.2.2.2.1), some (.ref (g.1 + v1)), some (.ref (g.1 + v2)), some (.ref (g.1 + v3)), some (.ref (g.1 + v4)), some (.int v5), some (.int y2), none, none]) d_L_law_2194 (by decide) rfl ?_
  refine R_aload_n (pc := 2196) d_L_law_2196 rfl rfl ?_
  obtain ⟨k3, h⟩ := h
  refine R_callV (pc := 2197) (As := []) (rest := []) (c_X7_meanDistance (g := g) v2 M1 _ h) rfl rfl cal_RL_229 ins_X7_meanDistance sel_X7_meanDistance (cls_at k3 clsOK7) (by decide) (by omega) rfl rfl (Nat.le_of_ble_eq_true rfl) d_L_law_2197 (k_D (fun y5 M4 h => ?_)) (fun _ _ h9 => False.elim h9)
  try dsimp only at h
  refine R_dstore (pc := 2200) (L' := [some (.ref g.2.2.2.1), some (.ref (g.1 + v1)), some (.ref (g.1 + v2)), some (.ref (g.1 + v3)), some (.ref (g.1 + v4)), some (.int v5), some (.int y2), some (.double y5), none]) d_L_law_2200 (by decide) rfl ?_
  refine R_aload_n (pc := 2202) d_L_law_2202 rfl rfl ?_
  refine R_callV (pc := 2203) (As := []) (rest := []) (c_X7_thrown (g := g) v2 M4 _ h) rfl rfl cal_RL_140 ins_X7_thrown sel_X7_thrown (cls_at k3 clsOK7) (by decide) (by omega) rfl rfl (Nat.le_of_ble_eq_true rfl) d_L_law_2203 (k_I (fun y7 M6 h => ?_)) (fun _ _ h9 => False.elim h9)
  try dsimp only at h
  refine R_iload (pc := 2206) d_L_law_2206 rfl ?_
  refine R_icmp_eq (pc := 2208) (tgt := 2213) d_L_law_2208 (by decide) (fun c => ?_) (fun c => ?_)
  · rw [if_pos c] at h
    refine R_iload (pc := 2213) d_L_law_2213 rfl ?_
    refine R_if_ne (pc := 2215) (tgt := 2250) d_L_law_2215 (by decide) (fun c => ?_) (fun c => ?_)
    · rw [if_neg c] at h
      exact WP_sub (B_L_law_2250 Q κ28 hκ28 v1 v2 v3 v4 v5 M6 h) (by omega) (ls_s (ls_s (ls_s (ls_s (ls_s (ls_s (ls_n (ls_n (ls_n ls_0)))))))))
    · rw [if_pos c] at h
      refine R_aload (pc := 2218) d_L_law_2218 rfl ?_
      refine R_iconst (pc := 2220) (v := 0) d_L_law_2220 (by decide) ?_
      obtain ⟨k8, h⟩ := h
      obtain ⟨k9, h⟩ := h
      refine R_dald (pc := 2221) k8 k9 d_L_law_2221 ?_
      refine R_dload (pc := 2222) d_L_law_2222 rfl ?_
      refine R_dcmp (pc := 2224) d_L_law_2224 ?_
      refine R_if_eq (pc := 2225) (tgt := 2250) d_L_law_2225 (by decide) (fun c => ?_) (fun c => ?_)
      · rw [if_pos c] at h
        exact WP_sub (B_L_law_2250 Q κ28 hκ28 v1 v2 v3 v4 v5 M6 h) (by omega) (ls_s (ls_s (ls_s (ls_s (ls_s (ls_s (ls_n (ls_n (ls_n ls_0)))))))))
      · rw [if_neg c] at h
        refine R_aload (pc := 2228) d_L_law_2228 rfl ?_
        refine R_iconst (pc := 2230) (v := 0) d_L_law_2230 (by decide) ?_
        refine R_dald (pc := 2231) k8 k9 d_L_law_2231 ?_
        refine R_aload (pc := 2232) d_L_law_2232 rfl ?_
        refine R_iconst (pc := 2234) (v := 0) d_L_law_2234 (by decide) ?_
        refine R_dald (pc := 2235) k8 k9 d_L_law_2235 ?_
        refine R_dcmp (pc := 2236) d_L_law_2236 ?_
        refine R_if_eq (pc := 2237) (tgt := 2248) d_L_law_2237 (by decide) (fun c => ?_) (fun c => ?_)
        · rw [if_pos c] at h
          exact WP_sub (B_L_law_2248 Q κ28 hκ28 M6 h) (by omega) (ls_n (ls_n (ls_n (ls_n (ls_n (ls_n (ls_n (ls_n (ls_n ls_0)))))))))
        · rw [if_neg c] at h
          refine R_dload (pc := 2240) d_L_law_2240 rfl ?_
          refine R_dload (pc := 2242) d_L_law_2242 rfl ?_
          refine R_dcmp (pc := 2244) d_L_law_2244 ?_
          refine R_if_ne (pc := 2245) (tgt := 2250) d_L_law_2245 (by decide) (fun c => ?_) (fun c => ?_)
          · rw [if_neg c] at h
            exact WP_sub (B_L_law_2250 Q κ28 hκ28 v1 v2 v3 v4 v5 M6 h) (by omega) (ls_s (ls_s (ls_s (ls_s (ls_s (ls_s (ls_n (ls_n (ls_n ls_0)))))))))
          · rw [if_pos c] at h
            exact WP_sub (B_L_law_2248 Q κ28 hκ28 M6 h) (by omega) (ls_n (ls_n (ls_n (ls_n (ls_n (ls_n (ls_n (ls_n (ls_n ls_0)))))))))
  · rw [if_neg c] at h
    refine R_iconst (pc := 2211) (v := 0) d_L_law_2211 (by decide) ?_
    exact R_retv (pc := 2212) d_L_law_2212 h
def T_L_law_2185 (κ28 : Nat → Nat → Nat → Nat → Int32 → Mem → Prop) (Q : Int32 → Mem → Prop) (sl : Nat) (xs : Nat → Int32) (v1 : Nat) (v2 : Nat) (v3 : Nat) (v4 : Nat) (v5 : Int32) (M : Mem) : Prop := T_L_law_2534 κ28 Q sl xs v1 v2 v3 v4 v5 M
set_option maxRecDepth 100000 in
set_option maxHeartbeats 4000000 in
theorem B_L_law_2185 {g : GG} {kr : Nat} (Q : Int32 → Mem → Prop) (κ28 : Nat → Nat → Nat → Nat → Int32 → Mem → Prop) (hκ28 : ∀ (v1 : Nat) (v2 : Nat) (v3 : Nat) (v4 : Nat) (v5 : Int32) (M : Mem), κ28 v1 v2 v3 v4 v5 M → WP g 20 mL_law 28 [some (.ref g.2.2.2.1), some (.ref (g.1 + v1)), some (.ref (g.1 + v2)), some (.ref (g.1 + v3)), some (.ref (g.1 + v4)), some (.int v5), none, none, none] [] M kr (oZ Q noX)) (v1 : Nat) (v2 : Nat) (v3 : Nat) (v4 : Nat) (v5 : Int32) (M : Mem) (h : T_L_law_2185 κ28 Q g.2.2.2.2.1 g.2.2.2.2.2 v1 v2 v3 v4 v5 M) : WP g 20 mL_law 2185 [some (.ref g.2.2.2.1), some (.ref (g.1 + v1)), some (.ref (g.1 + v2)), some (.ref (g.1 + v3)), some (.ref (g.1 + v4)), some (.int v5), none, none, none] [] M (kr + 1) (oZ Q noX) := by
  unfold T_L_law_2185 at h
  refine R_goto (pc := 2185) (tgt := 2534) d_L_law_2185 (by decide) ?_
  exact WP_sub (B_L_law_2534 Q κ28 hκ28 v1 v2 v3 v4 v5 M h) (by omega) (ls_s (ls_s (ls_s (ls_s (ls_s (ls_s (ls_n (ls_n (ls_n ls_0)))))))))
def T_L_law_2132 (κ28 : Nat → Nat → Nat → Nat → Int32 → Mem → Prop) (Q : Int32 → Mem → Prop) (sl : Nat) (xs : Nat → Int32) (v1 : Nat) (v2 : Nat) (v3 : Nat) (v4 : Nat) (v5 : Int32) (M : Mem) : Prop := (vp_in (v5 + 1) sl) ∧ T_L_account (fun y3 M2 => (kd v2 = 7) ∧ T_X7_account (fun y6 M5 => T_X7_thrown (fun y8 M7 => if y8 = y3 then (if y3 = 0 then ((kd v3 = 12) ∧ (vp_in 0 (ln v3)) ∧ if (lg_cmp (M7.2.1 (Int32.toNatClampNeg 0)) (Int32.toInt64 y6)) = 0 then (T_L_law_2185 κ28 Q sl xs v1 v2 v3 v4 v5 M7) else (((0 : Int32) = 0 ∨ (0 : Int32) = 1) ∧ Q 0 M7)) else (T_L_law_2185 κ28 Q sl xs v1 v2 v3 v4 v5 M7)) else (((0 : Int32) = 0 ∨ (0 : Int32) = 1) ∧ Q 0 M7))  v2 M5)  v2 (xs (Int32.toNatClampNeg (v5 + 1))) M2)  v1 (xs (Int32.toNatClampNeg (v5 + 1))) v3 M
set_option maxRecDepth 100000 in
set_option maxHeartbeats 4000000 in
theorem B_L_law_2132 {g : GG} {kr : Nat} (Q : Int32 → Mem → Prop) (κ28 : Nat → Nat → Nat → Nat → Int32 → Mem → Prop) (hκ28 : ∀ (v1 : Nat) (v2 : Nat) (v3 : Nat) (v4 : Nat) (v5 : Int32) (M : Mem), κ28 v1 v2 v3 v4 v5 M → WP g 20 mL_law 28 [some (.ref g.2.2.2.1), some (.ref (g.1 + v1)), some (.ref (g.1 + v2)), some (.ref (g.1 + v3)), some (.ref (g.1 + v4)), some (.int v5), none, none, none] [] M kr (oZ Q noX)) (v1 : Nat) (v2 : Nat) (v3 : Nat) (v4 : Nat) (v5 : Int32) (M : Mem) (h : T_L_law_2132 κ28 Q g.2.2.2.2.1 g.2.2.2.2.2 v1 v2 v3 v4 v5 M) : WP g 20 mL_law 2132 [some (.ref g.2.2.2.1), some (.ref (g.1 + v1)), some (.ref (g.1 + v2)), some (.ref (g.1 + v3)), some (.ref (g.1 + v4)), some (.int v5), none, none, none] [] M (kr + 2) (oZ Q noX) := by
  unfold T_L_law_2132 at h
  refine R_aload_n (pc := 2132) d_L_law_2132 rfl rfl ?_
  refine R_aload_n (pc := 2133) d_L_law_2133 rfl rfl ?_
  refine R_iload (pc := 2134) d_L_law_2134 rfl ?_
  refine R_iconst (pc := 2136) (v := 1) d_L_law_2136 (by decide) ?_
  refine R_iadd (pc := 2137) d_L_law_2137 ?_
  obtain ⟨k1, h⟩ := h
  refine R_sld (pc := 2138) k1 d_L_law_2138 ?_
  refine R_aload_n (pc := 2139) d_L_law_2139 rfl rfl ?_
  refine R_callSW (pc := 2140) (As := [.ref (g.1 + v1), .int (g.2.2.2.2.2 (Int32.toNatClampNeg (v5 + 1))), .ref (g.1 + v3)]) (rest := []) (c_L_account (g := g) v1 (g.2.2.2.2.2 (Int32.toNatClampNeg (v5 + 1))) v3 M _ h) rfl rfl cal_RL_223 sta_L_account (by decide) (by omega) rfl rfl (Nat.le_of_ble_eq_true rfl) d_L_law_2140 (k_I (fun y3 M2 h => ?_)) (fun _ _ h9 => False.elim h9)
  try dsimp only at h
  refine R_istore (pc := 2143) (L' := [some (.ref g.2.2.2.1), some (.ref (g.1 + v1)), some (.ref (g.1 + v2)), some (.ref (g.1 + v3)), some (.ref (g.1 + v4)), some (.int v5), some (.int y3), none, none]) d_L_law_2143 (by decide) rfl ?_
  refine R_aload_n (pc := 2145) d_L_law_2145 rfl rfl ?_
  refine R_aload_n (pc := 2146) d_L_law_2146 rfl rfl ?_
  refine R_iload (pc := 2147) d_L_law_2147 rfl ?_
  refine R_iconst (pc := 2149) (v := 1) d_L_law_2149 (by decide) ?_
  refine R_iadd (pc := 2150) d_L_law_2150 ?_
  refine R_sld (pc := 2151) k1 d_L_law_2151 ?_
  obtain ⟨k4, h⟩ := h
  refine R_callV (pc := 2152) (As := [.int (g.2.2.2.2.2 (Int32.toNatClampNeg (v5 + 1)))]) (rest := []) (c_X7_account (g := g) v2 (g.2.2.2.2.2 (Int32.toNatClampNeg (v5 + 1))) M2 _ h) rfl rfl cal_RL_225 ins_X7_account sel_X7_account (cls_at k4 clsOK7) (by decide) (by omega) rfl rfl (Nat.le_of_ble_eq_true rfl) d_L_law_2152 (k_I (fun y6 M5 h => ?_)) (fun _ _ h9 => False.elim h9)
  try dsimp only at h
  refine R_istore (pc := 2155) (L' := [some (.ref g.2.2.2.1), some (.ref (g.1 + v1)), some (.ref (g.1 + v2)), some (.ref (g.1 + v3)), some (.ref (g.1 + v4)), some (.int v5), some (.int y3), some (.int y6), none]) d_L_law_2155 (by decide) rfl ?_
  refine R_aload_n (pc := 2157) d_L_law_2157 rfl rfl ?_
  refine R_callV (pc := 2158) (As := []) (rest := []) (c_X7_thrown (g := g) v2 M5 _ h) rfl rfl cal_RL_140 ins_X7_thrown sel_X7_thrown (cls_at k4 clsOK7) (by decide) (by omega) rfl rfl (Nat.le_of_ble_eq_true rfl) d_L_law_2158 (k_I (fun y8 M7 h => ?_)) (fun _ _ h9 => False.elim h9)
  try dsimp only at h
  refine R_iload (pc := 2161) d_L_law_2161 rfl ?_
  refine R_icmp_eq (pc := 2163) (tgt := 2168) d_L_law_2163 (by decide) (fun c => ?_) (fun c => ?_)
  · rw [if_pos c] at h
    refine R_iload (pc := 2168) d_L_law_2168 rfl ?_
    refine R_if_ne (pc := 2170) (tgt := 2185) d_L_law_2170 (by decide) (fun c => ?_) (fun c => ?_)
    · rw [if_neg c] at h
      exact WP_sub (B_L_law_2185 Q κ28 hκ28 v1 v2 v3 v4 v5 M7 h) (by omega) (ls_s (ls_s (ls_s (ls_s (ls_s (ls_s (ls_n (ls_n (ls_n ls_0)))))))))
    · rw [if_pos c] at h
      refine R_aload_n (pc := 2173) d_L_law_2173 rfl rfl ?_
      refine R_iconst (pc := 2174) (v := 0) d_L_law_2174 (by decide) ?_
      obtain ⟨k9, h⟩ := h
      obtain ⟨k10, h⟩ := h
      refine R_lald (pc := 2175) k9 k10 d_L_law_2175 ?_
      refine R_iload (pc := 2176) d_L_law_2176 rfl ?_
      refine R_i2l (pc := 2178) d_L_law_2178 ?_
      refine R_lcmp (pc := 2179) d_L_law_2179 ?_
      refine R_if_eq (pc := 2180) (tgt := 2185) d_L_law_2180 (by decide) (fun c => ?_) (fun c => ?_)
      · rw [if_pos c] at h
        exact WP_sub (B_L_law_2185 Q κ28 hκ28 v1 v2 v3 v4 v5 M7 h) (by omega) (ls_s (ls_s (ls_s (ls_s (ls_s (ls_s (ls_n (ls_n (ls_n ls_0)))))))))
      · rw [if_neg c] at h
        refine R_iconst (pc := 2183) (v := 0) d_L_law_2183 (by decide) ?_
        exact R_retv (pc := 2184) d_L_law_2184 h
  · rw [if_neg c] at h
    refine R_iconst (pc := 2166) (v := 0) d_L_law_2166 (by decide) ?_
    exact R_retv (pc := 2167) d_L_law_2167 h
def T_L_law_2129 (κ28 : Nat → Nat → Nat → Nat → Int32 → Mem → Prop) (Q : Int32 → Mem → Prop) (sl : Nat) (xs : Nat → Int32) (v1 : Nat) (v2 : Nat) (v3 : Nat) (v4 : Nat) (v5 : Int32) (M : Mem) : Prop := T_L_law_2534 κ28 Q sl xs v1 v2 v3 v4 v5 M
set_option maxRecDepth 100000 in
set_option maxHeartbeats 4000000 in
theorem B_L_law_2129 {g : GG} {kr : Nat} (Q : Int32 → Mem → Prop) (κ28 : Nat → Nat → Nat → Nat → Int32 → Mem → Prop) (hκ28 : ∀ (v1 : Nat) (v2 : Nat) (v3 : Nat) (v4 : Nat) (v5 : Int32) (M : Mem), κ28 v1 v2 v3 v4 v5 M → WP g 20 mL_law 28 [some (.ref g.2.2.2.1), some (.ref (g.1 + v1)), some (.ref (g.1 + v2)), some (.ref (g.1 + v3)), some (.ref (g.1 + v4)), some (.int v5), none, none, none] [] M kr (oZ Q noX)) (v1 : Nat) (v2 : Nat) (v3 : Nat) (v4 : Nat) (v5 : Int32) (M : Mem) (h : T_L_law_2129 κ28 Q g.2.2.2.2.1 g.2.2.2.2.2 v1 v2 v3 v4 v5 M) : WP g 20 mL_law 2129 [some (.ref g.2.2.2.1), some (.ref (g.1 + v1)), some (.ref (g.1 + v2)), some (.ref (g.1 + v3)), some (.ref (g.1 + v4)), some (.int v5), none, none, none] [] M (kr + 1) (oZ Q noX) := by
  unfold T_L_law_2129 at h
  refine R_goto (pc := 2129) (tgt := 2534) d_L_law_2129 (by decide) ?_
  exact WP_sub (B_L_law_2534 Q κ28 hκ28 v1 v2 v3 v4 v5 M h) (by omega) (ls_s (ls_s (ls_s (ls_s (ls_s (ls_s (ls_n (ls_n (ls_n ls_0)))))))))
def T_L_law_2096 (κ28 : Nat → Nat → Nat → Nat → Int32 → Mem → Prop) (Q : Int32 → Mem → Prop) (sl : Nat) (xs : Nat → Int32) (v1 : Nat) (v2 : Nat) (v3 : Nat) (v4 : Nat) (v5 : Int32) (v6 : Int32) (s0 : Int32) (s1 : Int32) (s2 : Nat) (M : Mem) : Prop := (kd s2 = 7) ∧ T_X7_report (fun y3 M2 => (kd v2 = 7) ∧ T_X7_thrown (fun y6 M5 => if y6 = v6 then (if v6 = 0 then ((kd v3 = 12) ∧ (vp_in 0 (ln v3)) ∧ if (lg_cmp (M5.2.1 (Int32.toNatClampNeg 0)) (Int32.toInt64 y3)) = 0 then (T_L_law_2129 κ28 Q sl xs v1 v2 v3 v4 v5 M5) else (((0 : Int32) = 0 ∨ (0 : Int32) = 1) ∧ Q 0 M5)) else (T_L_law_2129 κ28 Q sl xs v1 v2 v3 v4 v5 M5)) else (((0 : Int32) = 0 ∨ (0 : Int32) = 1) ∧ Q 0 M5))  v2 M2)  s2 s1 s0 M
set_option maxRecDepth 100000 in
set_option maxHeartbeats 4000000 in
theorem B_L_law_2096 {g : GG} {kr : Nat} (Q : Int32 → Mem → Prop) (κ28 : Nat → Nat → Nat → Nat → Int32 → Mem → Prop) (hκ28 : ∀ (v1 : Nat) (v2 : Nat) (v3 : Nat) (v4 : Nat) (v5 : Int32) (M : Mem), κ28 v1 v2 v3 v4 v5 M → WP g 20 mL_law 28 [some (.ref g.2.2.2.1), some (.ref (g.1 + v1)), some (.ref (g.1 + v2)), some (.ref (g.1 + v3)), some (.ref (g.1 + v4)), some (.int v5), none, none, none] [] M kr (oZ Q noX)) (v1 : Nat) (v2 : Nat) (v3 : Nat) (v4 : Nat) (v5 : Int32) (v6 : Int32) (s0 : Int32) (s1 : Int32) (s2 : Nat) (M : Mem) (h : T_L_law_2096 κ28 Q g.2.2.2.2.1 g.2.2.2.2.2 v1 v2 v3 v4 v5 v6 s0 s1 s2 M) : WP g 20 mL_law 2096 [some (.ref g.2.2.2.1), some (.ref (g.1 + v1)), some (.ref (g.1 + v2)), some (.ref (g.1 + v3)), some (.ref (g.1 + v4)), some (.int v5), some (.int v6), none, none] [.int s0, .int s1, .ref (g.1 + s2)] M (kr + 1) (oZ Q noX) := by
  unfold T_L_law_2096 at h
  obtain ⟨k1, h⟩ := h
  refine R_callV (pc := 2096) (As := [.int s1, .int s0]) (rest := []) (c_X7_report (g := g) s2 s1 s0 M _ h) rfl rfl cal_RL_222 ins_X7_report sel_X7_report (cls_at k1 clsOK7) (by decide) (by omega) rfl rfl (Nat.le_of_ble_eq_true rfl) d_L_law_2096 (k_I (fun y3 M2 h => ?_)) (fun _ _ h9 => False.elim h9)
  try dsimp only at h
  refine R_istore (pc := 2099) (L' := [some (.ref g.2.2.2.1), some (.ref (g.1 + v1)), some (.ref (g.1 + v2)), some (.ref (g.1 + v3)), some (.ref (g.1 + v4)), some (.int v5), some (.int v6), some (.int y3), none]) d_L_law_2099 (by decide) rfl ?_
  refine R_aload_n (pc := 2101) d_L_law_2101 rfl rfl ?_
  obtain ⟨k4, h⟩ := h
  refine R_callV (pc := 2102) (As := []) (rest := []) (c_X7_thrown (g := g) v2 M2 _ h) rfl rfl cal_RL_140 ins_X7_thrown sel_X7_thrown (cls_at k4 clsOK7) (by decide) (by omega) rfl rfl (Nat.le_of_ble_eq_true rfl) d_L_law_2102 (k_I (fun y6 M5 h => ?_)) (fun _ _ h9 => False.elim h9)
  try dsimp only at h
  refine R_iload (pc := 2105) d_L_law_2105 rfl ?_
  refine R_icmp_eq (pc := 2107) (tgt := 2112) d_L_law_2107 (by decide) (fun c => ?_) (fun c => ?_)
  · rw [if_pos c] at h
    refine R_iload (pc := 2112) d_L_law_2112 rfl ?_
    refine R_if_ne (pc := 2114) (tgt := 2129) d_L_law_2114 (by decide) (fun c => ?_) (fun c => ?_)
    · rw [if_neg c] at h
      exact WP_sub (B_L_law_2129 Q κ28 hκ28 v1 v2 v3 v4 v5 M5 h) (by omega) (ls_s (ls_s (ls_s (ls_s (ls_s (ls_s (ls_n (ls_n (ls_n ls_0)))))))))
    · rw [if_pos c] at h
      refine R_aload_n (pc := 2117) d_L_law_2117 rfl rfl ?_
      refine R_iconst (pc := 2118) (v := 0) d_L_law_2118 (by decide) ?_
      obtain ⟨k7, h⟩ := h
      obtain ⟨k8, h⟩ := h
      refine R_lald (pc := 2119) k7 k8 d_L_law_2119 ?_
      refine R_iload (pc := 2120) d_L_law_2120 rfl ?_
      refine R_i2l (pc := 2122) d_L_law_2122 ?_
      refine R_lcmp (pc := 2123) d_L_law_2123 ?_
      refine R_if_eq (pc := 2124) (tgt := 2129) d_L_law_2124 (by decide) (fun c => ?_) (fun c => ?_)
      · rw [if_pos c] at h
        exact WP_sub (B_L_law_2129 Q κ28 hκ28 v1 v2 v3 v4 v5 M5 h) (by omega) (ls_s (ls_s (ls_s (ls_s (ls_s (ls_s (ls_n (ls_n (ls_n ls_0)))))))))
      · rw [if_neg c] at h
        refine R_iconst (pc := 2127) (v := 0) d_L_law_2127 (by decide) ?_
        exact R_retv (pc := 2128) d_L_law_2128 h
  · rw [if_neg c] at h
    refine R_iconst (pc := 2110) (v := 0) d_L_law_2110 (by decide) ?_
    exact R_retv (pc := 2111) d_L_law_2111 h
def T_L_law_2069 (κ28 : Nat → Nat → Nat → Nat → Int32 → Mem → Prop) (Q : Int32 → Mem → Prop) (sl : Nat) (xs : Nat → Int32) (v1 : Nat) (v2 : Nat) (v3 : Nat) (v4 : Nat) (v5 : Int32) (s0 : Int32) (s1 : Int32) (s2 : Nat) (M : Mem) : Prop := T_L_report (fun y2 M1 => (vp_in (v5 + 1) sl) ∧ (vp_in (v5 + 2) sl) ∧ if (xs (Int32.toNatClampNeg (v5 + 2))) = 0 then (T_L_law_2096 κ28 Q sl xs v1 v2 v3 v4 v5 y2 0 (xs (Int32.toNatClampNeg (v5 + 1))) v2 M1) else (T_L_law_2096 κ28 Q sl xs v1 v2 v3 v4 v5 y2 1 (xs (Int32.toNatClampNeg (v5 + 1))) v2 M1))  s2 s1 s0 v3 M
set_option maxRecDepth 100000 in
set_option maxHeartbeats 4000000 in
theorem B_L_law_2069 {g : GG} {kr : Nat} (Q : Int32 → Mem → Prop) (κ28 : Nat → Nat → Nat → Nat → Int32 → Mem → Prop) (hκ28 : ∀ (v1 : Nat) (v2 : Nat) (v3 : Nat) (v4 : Nat) (v5 : Int32) (M : Mem), κ28 v1 v2 v3 v4 v5 M → WP g 20 mL_law 28 [some (.ref g.2.2.2.1), some (.ref (g.1 + v1)), some (.ref (g.1 + v2)), some (.ref (g.1 + v3)), some (.ref (g.1 + v4)), some (.int v5), none, none, none] [] M kr (oZ Q noX)) (v1 : Nat) (v2 : Nat) (v3 : Nat) (v4 : Nat) (v5 : Int32) (s0 : Int32) (s1 : Int32) (s2 : Nat) (M : Mem) (h : T_L_law_2069 κ28 Q g.2.2.2.2.1 g.2.2.2.2.2 v1 v2 v3 v4 v5 s0 s1 s2 M) : WP g 20 mL_law 2069 [some (.ref g.2.2.2.1), some (.ref (g.1 + v1)), some (.ref (g.1 + v2)), some (.ref (g.1 + v3)), some (.ref (g.1 + v4)), some (.int v5), none, none, none] [.int s0, .int s1, .ref (g.1 + s2)] M (kr + 2) (oZ Q noX) := by
  unfold T_L_law_2069 at h
  refine R_aload_n (pc := 2069) d_L_law_2069 rfl rfl ?_
  refine R_callSW (pc := 2070) (As := [.ref (g.1 + s2), .int s1, .int s0, .ref (g.1 + v3)]) (rest := []) (c_L_report (g := g) s2 s1 s0 v3 M _ h) rfl rfl cal_RL_220 sta_L_report (by decide) (by omega) rfl rfl (Nat.le_of_ble_eq_true rfl) d_L_law_2070 (k_I (fun y2 M1 h => ?_)) (fun _ _ h9 => False.elim h9)
  try dsimp only at h
  refine R_istore (pc := 2073) (L' := [some (.ref g.2.2.2.1), some (.ref (g.1 + v1)), some (.ref (g.1 + v2)), some (.ref (g.1 + v3)), some (.ref (g.1 + v4)), some (.int v5), some (.int y2), none, none]) d_L_law_2073 (by decide) rfl ?_
  refine R_aload_n (pc := 2075) d_L_law_2075 rfl rfl ?_
  refine R_aload_n (pc := 2076) d_L_law_2076 rfl rfl ?_
  refine R_iload (pc := 2077) d_L_law_2077 rfl ?_
  refine R_iconst (pc := 2079) (v := 1) d_L_law_2079 (by decide) ?_
  refine R_iadd (pc := 2080) d_L_law_2080 ?_
  obtain ⟨k3, h⟩ := h
  refine R_sld (pc := 2081) k3 d_L_law_2081 ?_
  refine R_aload_n (pc := 2082) d_L_law_2082 rfl rfl ?_
  refine R_iload (pc := 2083) d_L_law_2083 rfl ?_
  refine R_iconst (pc := 2085) (v := 2) d_L_law_2085 (by decide) ?_
  refine R_iadd (pc := 2086) d_L_law_2086 ?_
  obtain ⟨k4, h⟩ := h
  refine R_sld (pc := 2087) k4 d_L_law_2087 ?_
  refine R_if_eq (pc := 2088) (tgt := 2095) d_L_law_2088 (by decide) (fun c => ?_) (fun c => ?_)
  · rw [if_pos c] at h
    refine R_iconst (pc := 2095) (v := 0) d_L_law_2095 (by decide) ?_
    exact WP_sub (B_L_law_2096 Q κ28 hκ28 v1 v2 v3 v4 v5 y2 0 (g.2.2.2.2.2 (Int32.toNatClampNeg (v5 + 1))) v2 M1 h) (by omega) (ls_s (ls_s (ls_s (ls_s (ls_s (ls_s (ls_s (ls_n (ls_n ls_0)))))))))
  · rw [if_neg c] at h
    refine R_iconst (pc := 2091) (v := 1) d_L_law_2091 (by decide) ?_
    refine R_goto (pc := 2092) (tgt := 2096) d_L_law_2092 (by decide) ?_
    exact WP_sub (B_L_law_2096 Q κ28 hκ28 v1 v2 v3 v4 v5 y2 1 (g.2.2.2.2.2 (Int32.toNatClampNeg (v5 + 1))) v2 M1 h) (by omega) (ls_s (ls_s (ls_s (ls_s (ls_s (ls_s (ls_s (ls_n (ls_n ls_0)))))))))
def T_L_law_2048 (κ28 : Nat → Nat → Nat → Nat → Int32 → Mem → Prop) (Q : Int32 → Mem → Prop) (sl : Nat) (xs : Nat → Int32) (v1 : Nat) (v2 : Nat) (v3 : Nat) (v4 : Nat) (v5 : Int32) (M : Mem) : Prop := (vp_in (v5 + 1) sl) ∧ (vp_in (v5 + 2) sl) ∧ if (xs (Int32.toNatClampNeg (v5 + 2))) = 0 then (T_L_law_2069 κ28 Q sl xs v1 v2 v3 v4 v5 0 (xs (Int32.toNatClampNeg (v5 + 1))) v1 M) else (T_L_law_2069 κ28 Q sl xs v1 v2 v3 v4 v5 1 (xs (Int32.toNatClampNeg (v5 + 1))) v1 M)
set_option maxRecDepth 100000 in
set_option maxHeartbeats 4000000 in
theorem B_L_law_2048 {g : GG} {kr : Nat} (Q : Int32 → Mem → Prop) (κ28 : Nat → Nat → Nat → Nat → Int32 → Mem → Prop) (hκ28 : ∀ (v1 : Nat) (v2 : Nat) (v3 : Nat) (v4 : Nat) (v5 : Int32) (M : Mem), κ28 v1 v2 v3 v4 v5 M → WP g 20 mL_law 28 [some (.ref g.2.2.2.1), some (.ref (g.1 + v1)), some (.ref (g.1 + v2)), some (.ref (g.1 + v3)), some (.ref (g.1 + v4)), some (.int v5), none, none, none] [] M kr (oZ Q noX)) (v1 : Nat) (v2 : Nat) (v3 : Nat) (v4 : Nat) (v5 : Int32) (M : Mem) (h : T_L_law_2048 κ28 Q g.2.2.2.2.1 g.2.2.2.2.2 v1 v2 v3 v4 v5 M) : WP g 20 mL_law 2048 [some (.ref g.2.2.2.1), some (.ref (g.1 + v1)), some (.ref (g.1 + v2)), some (.ref (g.1 + v3)), some (.ref (g.1 + v4)), some (.int v5), none, none, none] [] M (kr + 2) (oZ Q noX) := by
  unfold T_L_law_2048 at h
  refine R_aload_n (pc := 2048) d_L_law_2048 rfl rfl ?_
  refine R_aload_n (pc := 2049) d_L_law_2049 rfl rfl ?_
  refine R_iload (pc := 2050) d_L_law_2050 rfl ?_
  refine R_iconst (pc := 2052) (v := 1) d_L_law_2052 (by decide) ?_
  refine R_iadd (pc := 2053) d_L_law_2053 ?_
  obtain ⟨k1, h⟩ := h
  refine R_sld (pc := 2054) k1 d_L_law_2054 ?_
  refine R_aload_n (pc := 2055) d_L_law_2055 rfl rfl ?_
  refine R_iload (pc := 2056) d_L_law_2056 rfl ?_
  refine R_iconst (pc := 2058) (v := 2) d_L_law_2058 (by decide) ?_
  refine R_iadd (pc := 2059) d_L_law_2059 ?_
  obtain ⟨k2, h⟩ := h
  refine R_sld (pc := 2060) k2 d_L_law_2060 ?_
  refine R_if_eq (pc := 2061) (tgt := 2068) d_L_law_2061 (by decide) (fun c => ?_) (fun c => ?_)
  · rw [if_pos c] at h
    refine R_iconst (pc := 2068) (v := 0) d_L_law_2068 (by decide) ?_
    exact WP_sub (B_L_law_2069 Q κ28 hκ28 v1 v2 v3 v4 v5 0 (g.2.2.2.2.2 (Int32.toNatClampNeg (v5 + 1))) v1 M h) (by omega) (ls_s (ls_s (ls_s (ls_s (ls_s (ls_s (ls_n (ls_n (ls_n ls_0)))))))))
  · rw [if_neg c] at h
    refine R_iconst (pc := 2064) (v := 1) d_L_law_2064 (by decide) ?_
    refine R_goto (pc := 2065) (tgt := 2069) d_L_law_2065 (by decide) ?_
    exact WP_sub (B_L_law_2069 Q κ28 hκ28 v1 v2 v3 v4 v5 1 (g.2.2.2.2.2 (Int32.toNatClampNeg (v5 + 1))) v1 M h) (by omega) (ls_s (ls_s (ls_s (ls_s (ls_s (ls_s (ls_n (ls_n (ls_n ls_0)))))))))
def T_L_law_2045 (κ28 : Nat → Nat → Nat → Nat → Int32 → Mem → Prop) (Q : Int32 → Mem → Prop) (sl : Nat) (xs : Nat → Int32) (v1 : Nat) (v2 : Nat) (v3 : Nat) (v4 : Nat) (v5 : Int32) (M : Mem) : Prop := T_L_law_2534 κ28 Q sl xs v1 v2 v3 v4 v5 M
set_option maxRecDepth 100000 in
set_option maxHeartbeats 4000000 in
theorem B_L_law_2045 {g : GG} {kr : Nat} (Q : Int32 → Mem → Prop) (κ28 : Nat → Nat → Nat → Nat → Int32 → Mem → Prop) (hκ28 : ∀ (v1 : Nat) (v2 : Nat) (v3 : Nat) (v4 : Nat) (v5 : Int32) (M : Mem), κ28 v1 v2 v3 v4 v5 M → WP g 20 mL_law 28 [some (.ref g.2.2.2.1), some (.ref (g.1 + v1)), some (.ref (g.1 + v2)), some (.ref (g.1 + v3)), some (.ref (g.1 + v4)), some (.int v5), none, none, none] [] M kr (oZ Q noX)) (v1 : Nat) (v2 : Nat) (v3 : Nat) (v4 : Nat) (v5 : Int32) (M : Mem) (h : T_L_law_2045 κ28 Q g.2.2.2.2.1 g.2.2.2.2.2 v1 v2 v3 v4 v5 M) : WP g 20 mL_law 2045 [some (.ref g.2.2.2.1), some (.ref (g.1 + v1)), some (.ref (g.1 + v2)), some (.ref (g.1 + v3)), some (.ref (g.1 + v4)), some (.int v5), none, none, none] [] M (kr + 1) (oZ Q noX) := by
  unfold T_L_law_2045 at h
  refine R_goto (pc := 2045) (tgt := 2534) d_L_law_2045 (by decide) ?_
  exact WP_sub (B_L_law_2534 Q κ28 hκ28 v1 v2 v3 v4 v5 M h) (by omega) (ls_s (ls_s (ls_s (ls_s (ls_s (ls_s (ls_n (ls_n (ls_n ls_0)))))))))
def T_L_law_2012 (κ28 : Nat → Nat → Nat → Nat → Int32 → Mem → Prop) (Q : Int32 → Mem → Prop) (sl : Nat) (xs : Nat → Int32) (v1 : Nat) (v2 : Nat) (v3 : Nat) (v4 : Nat) (v5 : Int32) (v6 : Int32) (s0 : Int32) (s1 : Int32) (s2 : Nat) (M : Mem) : Prop := (kd s2 = 7) ∧ T_X7_notice (fun y3 M2 => (kd v2 = 7) ∧ T_X7_thrown (fun y6 M5 => if y6 = v6 then (if v6 = 0 then ((kd v3 = 12) ∧ (vp_in 0 (ln v3)) ∧ if (lg_cmp (M5.2.1 (Int32.toNatClampNeg 0)) (Int32.toInt64 y3)) = 0 then (T_L_law_2045 κ28 Q sl xs v1 v2 v3 v4 v5 M5) else (((0 : Int32) = 0 ∨ (0 : Int32) = 1) ∧ Q 0 M5)) else (T_L_law_2045 κ28 Q sl xs v1 v2 v3 v4 v5 M5)) else (((0 : Int32) = 0 ∨ (0 : Int32) = 1) ∧ Q 0 M5))  v2 M2)  s2 s1 s0 M
set_option maxRecDepth 100000 in
set_option maxHeartbeats 4000000 in
theorem B_L_law_2012 {g : GG} {kr : Nat} (Q : Int32 → Mem → Prop) (κ28 : Nat → Nat → Nat → Nat → Int32 → Mem → Prop) (hκ28 : ∀ (v1 : Nat) (v2 : Nat) (v3 : Nat) (v4 : Nat) (v5 : Int32) (M : Mem), κ28 v1 v2 v3 v4 v5 M → WP g 20 mL_law 28 [some (.ref g.2.2.2.1), some (.ref (g.1 + v1)), some (.ref (g.1 + v2)), some (.ref (g.1 + v3)), some (.ref (g.1 + v4)), some (.int v5), none, none, none] [] M kr (oZ Q noX)) (v1 : Nat) (v2 : Nat) (v3 : Nat) (v4 : Nat) (v5 : Int32) (v6 : Int32) (s0 : Int32) (s1 : Int32) (s2 : Nat) (M : Mem) (h : T_L_law_2012 κ28 Q g.2.2.2.2.1 g.2.2.2.2.2 v1 v2 v3 v4 v5 v6 s0 s1 s2 M) : WP g 20 mL_law 2012 [some (.ref g.2.2.2.1), some (.ref (g.1 + v1)), some (.ref (g.1 + v2)), some (.ref (g.1 + v3)), some (.ref (g.1 + v4)), some (.int v5), some (.int v6), none, none] [.int s0, .int s1, .ref (g.1 + s2)] M (kr + 1) (oZ Q noX) := by
  unfold T_L_law_2012 at h
  obtain ⟨k1, h⟩ := h
  refine R_callV (pc := 2012) (As := [.int s1, .int s0]) (rest := []) (c_X7_notice (g := g) s2 s1 s0 M _ h) rfl rfl cal_RL_219 ins_X7_notice sel_X7_notice (cls_at k1 clsOK7) (by decide) (by omega) rfl rfl (Nat.le_of_ble_eq_true rfl) d_L_law_2012 (k_I (fun y3 M2 h => ?_)) (fun _ _ h9 => False.elim h9)
  try dsimp only at h
  refine R_istore (pc := 2015) (L' := [some (.ref g.2.2.2.1), some (.ref (g.1 + v1)), some (.ref (g.1 + v2)), some (.ref (g.1 + v3)), some (.ref (g.1 + v4)), some (.int v5), some (.int v6), some (.int y3), none]) d_L_law_2015 (by decide) rfl ?_
  refine R_aload_n (pc := 2017) d_L_law_2017 rfl rfl ?_
  obtain ⟨k4, h⟩ := h
  refine R_callV (pc := 2018) (As := []) (rest := []) (c_X7_thrown (g := g) v2 M2 _ h) rfl rfl cal_RL_140 ins_X7_thrown sel_X7_thrown (cls_at k4 clsOK7) (by decide) (by omega) rfl rfl (Nat.le_of_ble_eq_true rfl) d_L_law_2018 (k_I (fun y6 M5 h => ?_)) (fun _ _ h9 => False.elim h9)
  try dsimp only at h
  refine R_iload (pc := 2021) d_L_law_2021 rfl ?_
  refine R_icmp_eq (pc := 2023) (tgt := 2028) d_L_law_2023 (by decide) (fun c => ?_) (fun c => ?_)
  · rw [if_pos c] at h
    refine R_iload (pc := 2028) d_L_law_2028 rfl ?_
    refine R_if_ne (pc := 2030) (tgt := 2045) d_L_law_2030 (by decide) (fun c => ?_) (fun c => ?_)
    · rw [if_neg c] at h
      exact WP_sub (B_L_law_2045 Q κ28 hκ28 v1 v2 v3 v4 v5 M5 h) (by omega) (ls_s (ls_s (ls_s (ls_s (ls_s (ls_s (ls_n (ls_n (ls_n ls_0)))))))))
    · rw [if_pos c] at h
      refine R_aload_n (pc := 2033) d_L_law_2033 rfl rfl ?_
      refine R_iconst (pc := 2034) (v := 0) d_L_law_2034 (by decide) ?_
      obtain ⟨k7, h⟩ := h
      obtain ⟨k8, h⟩ := h
      refine R_lald (pc := 2035) k7 k8 d_L_law_2035 ?_
      refine R_iload (pc := 2036) d_L_law_2036 rfl ?_
      refine R_i2l (pc := 2038) d_L_law_2038 ?_
      refine R_lcmp (pc := 2039) d_L_law_2039 ?_
      refine R_if_eq (pc := 2040) (tgt := 2045) d_L_law_2040 (by decide) (fun c => ?_) (fun c => ?_)
      · rw [if_pos c] at h
        exact WP_sub (B_L_law_2045 Q κ28 hκ28 v1 v2 v3 v4 v5 M5 h) (by omega) (ls_s (ls_s (ls_s (ls_s (ls_s (ls_s (ls_n (ls_n (ls_n ls_0)))))))))
      · rw [if_neg c] at h
        refine R_iconst (pc := 2043) (v := 0) d_L_law_2043 (by decide) ?_
        exact R_retv (pc := 2044) d_L_law_2044 h
  · rw [if_neg c] at h
    refine R_iconst (pc := 2026) (v := 0) d_L_law_2026 (by decide) ?_
    exact R_retv (pc := 2027) d_L_law_2027 h
def T_L_law_1985 (κ28 : Nat → Nat → Nat → Nat → Int32 → Mem → Prop) (Q : Int32 → Mem → Prop) (sl : Nat) (xs : Nat → Int32) (v1 : Nat) (v2 : Nat) (v3 : Nat) (v4 : Nat) (v5 : Int32) (s0 : Int32) (s1 : Int32) (s2 : Nat) (M : Mem) : Prop := T_L_notice (fun y2 M1 => (vp_in (v5 + 1) sl) ∧ (vp_in (v5 + 2) sl) ∧ if (xs (Int32.toNatClampNeg (v5 + 2))) = 0 then (T_L_law_2012 κ28 Q sl xs v1 v2 v3 v4 v5 y2 0 (xs (Int32.toNatClampNeg (v5 + 1))) v2 M1) else (T_L_law_2012 κ28 Q sl xs v1 v2 v3 v4 v5 y2 1 (xs (Int32.toNatClampNeg (v5 + 1))) v2 M1))  s2 s1 s0 v3 M
set_option maxRecDepth 100000 in
set_option maxHeartbeats 4000000 in
theorem B_L_law_1985 {g : GG} {kr : Nat} (Q : Int32 → Mem → Prop) (κ28 : Nat → Nat → Nat → Nat → Int32 → Mem → Prop) (hκ28 : ∀ (v1 : Nat) (v2 : Nat) (v3 : Nat) (v4 : Nat) (v5 : Int32) (M : Mem), κ28 v1 v2 v3 v4 v5 M → WP g 20 mL_law 28 [some (.ref g.2.2.2.1), some (.ref (g.1 + v1)), some (.ref (g.1 + v2)), some (.ref (g.1 + v3)), some (.ref (g.1 + v4)), some (.int v5), none, none, none] [] M kr (oZ Q noX)) (v1 : Nat) (v2 : Nat) (v3 : Nat) (v4 : Nat) (v5 : Int32) (s0 : Int32) (s1 : Int32) (s2 : Nat) (M : Mem) (h : T_L_law_1985 κ28 Q g.2.2.2.2.1 g.2.2.2.2.2 v1 v2 v3 v4 v5 s0 s1 s2 M) : WP g 20 mL_law 1985 [some (.ref g.2.2.2.1), some (.ref (g.1 + v1)), some (.ref (g.1 + v2)), some (.ref (g.1 + v3)), some (.ref (g.1 + v4)), some (.int v5), none, none, none] [.int s0, .int s1, .ref (g.1 + s2)] M (kr + 2) (oZ Q noX) := by
  unfold T_L_law_1985 at h
  refine R_aload_n (pc := 1985) d_L_law_1985 rfl rfl ?_
  refine R_callSW (pc := 1986) (As := [.ref (g.1 + s2), .int s1, .int s0, .ref (g.1 + v3)]) (rest := []) (c_L_notice (g := g) s2 s1 s0 v3 M _ h) rfl rfl cal_RL_217 sta_L_notice (by decide) (by omega) rfl rfl (Nat.le_of_ble_eq_true rfl) d_L_law_1986 (k_I (fun y2 M1 h => ?_)) (fun _ _ h9 => False.elim h9)
  try dsimp only at h
  refine R_istore (pc := 1989) (L' := [some (.ref g.2.2.2.1), some (.ref (g.1 + v1)), some (.ref (g.1 + v2)), some (.ref (g.1 + v3)), some (.ref (g.1 + v4)), some (.int v5), some (.int y2), none, none]) d_L_law_1989 (by decide) rfl ?_
  refine R_aload_n (pc := 1991) d_L_law_1991 rfl rfl ?_
  refine R_aload_n (pc := 1992) d_L_law_1992 rfl rfl ?_
  refine R_iload (pc := 1993) d_L_law_1993 rfl ?_
  refine R_iconst (pc := 1995) (v := 1) d_L_law_1995 (by decide) ?_
  refine R_iadd (pc := 1996) d_L_law_1996 ?_
  obtain ⟨k3, h⟩ := h
  refine R_sld (pc := 1997) k3 d_L_law_1997 ?_
  refine R_aload_n (pc := 1998) d_L_law_1998 rfl rfl ?_
  refine R_iload (pc := 1999) d_L_law_1999 rfl ?_
  refine R_iconst (pc := 2001) (v := 2) d_L_law_2001 (by decide) ?_
  refine R_iadd (pc := 2002) d_L_law_2002 ?_
  obtain ⟨k4, h⟩ := h
  refine R_sld (pc := 2003) k4 d_L_law_2003 ?_
  refine R_if_eq (pc := 2004) (tgt := 2011) d_L_law_2004 (by decide) (fun c => ?_) (fun c => ?_)
  · rw [if_pos c] at h
    refine R_iconst (pc := 2011) (v := 0) d_L_law_2011 (by decide) ?_
    exact WP_sub (B_L_law_2012 Q κ28 hκ28 v1 v2 v3 v4 v5 y2 0 (g.2.2.2.2.2 (Int32.toNatClampNeg (v5 + 1))) v2 M1 h) (by omega) (ls_s (ls_s (ls_s (ls_s (ls_s (ls_s (ls_s (ls_n (ls_n ls_0)))))))))
  · rw [if_neg c] at h
    refine R_iconst (pc := 2007) (v := 1) d_L_law_2007 (by decide) ?_
    refine R_goto (pc := 2008) (tgt := 2012) d_L_law_2008 (by decide) ?_
    exact WP_sub (B_L_law_2012 Q κ28 hκ28 v1 v2 v3 v4 v5 y2 1 (g.2.2.2.2.2 (Int32.toNatClampNeg (v5 + 1))) v2 M1 h) (by omega) (ls_s (ls_s (ls_s (ls_s (ls_s (ls_s (ls_s (ls_n (ls_n ls_0)))))))))
def T_L_law_1964 (κ28 : Nat → Nat → Nat → Nat → Int32 → Mem → Prop) (Q : Int32 → Mem → Prop) (sl : Nat) (xs : Nat → Int32) (v1 : Nat) (v2 : Nat) (v3 : Nat) (v4 : Nat) (v5 : Int32) (M : Mem) : Prop := (vp_in (v5 + 1) sl) ∧ (vp_in (v5 + 2) sl) ∧ if (xs (Int32.toNatClampNeg (v5 + 2))) = 0 then (T_L_law_1985 κ28 Q sl xs v1 v2 v3 v4 v5 0 (xs (Int32.toNatClampNeg (v5 + 1))) v1 M) else (T_L_law_1985 κ28 Q sl xs v1 v2 v3 v4 v5 1 (xs (Int32.toNatClampNeg (v5 + 1))) v1 M)
set_option maxRecDepth 100000 in
set_option maxHeartbeats 4000000 in
theorem B_L_law_1964 {g : GG} {kr : Nat} (Q : Int32 → Mem → Prop) (κ28 : Nat → Nat → Nat → Nat → Int32 → Mem → Prop) (hκ28 : ∀ (v1 : Nat) (v2 : Nat) (v3 : Nat) (v4 : Nat) (v5 : Int32) (M : Mem), κ28 v1 v2 v3 v4 v5 M → WP g 20 mL_law 28 [some (.ref g.2.2.2.1), some (.ref (g.1 + v1)), some (.ref (g.1 + v2)), some (.ref (g.1 + v3)), some (.ref (g.1 + v4)), some (.int v5), none, none, none] [] M kr (oZ Q noX)) (v1 : Nat) (v2 : Nat) (v3 : Nat) (v4 : Nat) (v5 : Int32) (M : Mem) (h : T_L_law_1964 κ28 Q g.2.2.2.2.1 g.2.2.2.2.2 v1 v2 v3 v4 v5 M) : WP g 20 mL_law 1964 [some (.ref g.2.2.2.1), some (.ref (g.1 + v1)), some (.ref (g.1 + v2)), some (.ref (g.1 + v3)), some (.ref (g.1 + v4)), some (.int v5), none, none, none] [] M (kr + 2) (oZ Q noX) := by
  unfold T_L_law_1964 at h
  refine R_aload_n (pc := 1964) d_L_law_1964 rfl rfl ?_
  refine R_aload_n (pc := 1965) d_L_law_1965 rfl rfl ?_
  refine R_iload (pc := 1966) d_L_law_1966 rfl ?_
  refine R_iconst (pc := 1968) (v := 1) d_L_law_1968 (by decide) ?_
  refine R_iadd (pc := 1969) d_L_law_1969 ?_
  obtain ⟨k1, h⟩ := h
  refine R_sld (pc := 1970) k1 d_L_law_1970 ?_
  refine R_aload_n (pc := 1971) d_L_law_1971 rfl rfl ?_
  refine R_iload (pc := 1972) d_L_law_1972 rfl ?_
  refine R_iconst (pc := 1974) (v := 2) d_L_law_1974 (by decide) ?_
  refine R_iadd (pc := 1975) d_L_law_1975 ?_
  obtain ⟨k2, h⟩ := h
  refine R_sld (pc := 1976) k2 d_L_law_1976 ?_
  refine R_if_eq (pc := 1977) (tgt := 1984) d_L_law_1977 (by decide) (fun c => ?_) (fun c => ?_)
  · rw [if_pos c] at h
    refine R_iconst (pc := 1984) (v := 0) d_L_law_1984 (by decide) ?_
    exact WP_sub (B_L_law_1985 Q κ28 hκ28 v1 v2 v3 v4 v5 0 (g.2.2.2.2.2 (Int32.toNatClampNeg (v5 + 1))) v1 M h) (by omega) (ls_s (ls_s (ls_s (ls_s (ls_s (ls_s (ls_n (ls_n (ls_n ls_0)))))))))
  · rw [if_neg c] at h
    refine R_iconst (pc := 1980) (v := 1) d_L_law_1980 (by decide) ?_
    refine R_goto (pc := 1981) (tgt := 1985) d_L_law_1981 (by decide) ?_
    exact WP_sub (B_L_law_1985 Q κ28 hκ28 v1 v2 v3 v4 v5 1 (g.2.2.2.2.2 (Int32.toNatClampNeg (v5 + 1))) v1 M h) (by omega) (ls_s (ls_s (ls_s (ls_s (ls_s (ls_s (ls_n (ls_n (ls_n ls_0)))))))))
def T_L_law_1961 (κ28 : Nat → Nat → Nat → Nat → Int32 → Mem → Prop) (Q : Int32 → Mem → Prop) (sl : Nat) (xs : Nat → Int32) (v1 : Nat) (v2 : Nat) (v3 : Nat) (v4 : Nat) (v5 : Int32) (M : Mem) : Prop := T_L_law_2534 κ28 Q sl xs v1 v2 v3 v4 v5 M
set_option maxRecDepth 100000 in
set_option maxHeartbeats 4000000 in
theorem B_L_law_1961 {g : GG} {kr : Nat} (Q : Int32 → Mem → Prop) (κ28 : Nat → Nat → Nat → Nat → Int32 → Mem → Prop) (hκ28 : ∀ (v1 : Nat) (v2 : Nat) (v3 : Nat) (v4 : Nat) (v5 : Int32) (M : Mem), κ28 v1 v2 v3 v4 v5 M → WP g 20 mL_law 28 [some (.ref g.2.2.2.1), some (.ref (g.1 + v1)), some (.ref (g.1 + v2)), some (.ref (g.1 + v3)), some (.ref (g.1 + v4)), some (.int v5), none, none, none] [] M kr (oZ Q noX)) (v1 : Nat) (v2 : Nat) (v3 : Nat) (v4 : Nat) (v5 : Int32) (M : Mem) (h : T_L_law_1961 κ28 Q g.2.2.2.2.1 g.2.2.2.2.2 v1 v2 v3 v4 v5 M) : WP g 20 mL_law 1961 [some (.ref g.2.2.2.1), some (.ref (g.1 + v1)), some (.ref (g.1 + v2)), some (.ref (g.1 + v3)), some (.ref (g.1 + v4)), some (.int v5), none, none, none] [] M (kr + 1) (oZ Q noX) := by
  unfold T_L_law_1961 at h
  refine R_goto (pc := 1961) (tgt := 2534) d_L_law_1961 (by decide) ?_
  exact WP_sub (B_L_law_2534 Q κ28 hκ28 v1 v2 v3 v4 v5 M h) (by omega) (ls_s (ls_s (ls_s (ls_s (ls_s (ls_s (ls_n (ls_n (ls_n ls_0)))))))))
def T_L_law_1896 (κ28 : Nat → Nat → Nat → Nat → Int32 → Mem → Prop) (Q : Int32 → Mem → Prop) (sl : Nat) (xs : Nat → Int32) (v1 : Nat) (v2 : Nat) (v3 : Nat) (v4 : Nat) (v5 : Int32) (M : Mem) : Prop := (vp_in (v5 + 1) sl) ∧ (vp_in (v5 + 2) sl) ∧ T_L_wished (fun y4 M3 => (kd v2 = 7) ∧ T_X7_wished (fun y7 M6 => T_X7_thrown (fun y9 M8 => if y9 = y4 then (if y4 = 0 then ((kd v3 = 12) ∧ (vp_in 0 (ln v3)) ∧ if (lg_cmp (M8.2.1 (Int32.toNatClampNeg 0)) (Int32.toInt64 y7)) = 0 then (T_L_law_1961 κ28 Q sl xs v1 v2 v3 v4 v5 M8) else (((0 : Int32) = 0 ∨ (0 : Int32) = 1) ∧ Q 0 M8)) else (T_L_law_1961 κ28 Q sl xs v1 v2 v3 v4 v5 M8)) else (((0 : Int32) = 0 ∨ (0 : Int32) = 1) ∧ Q 0 M8))  v2 M6)  v2 (xs (Int32.toNatClampNeg (v5 + 1))) (xs (Int32.toNatClampNeg (v5 + 2))) M3)  v1 (xs (Int32.toNatClampNeg (v5 + 1))) (xs (Int32.toNatClampNeg (v5 + 2))) v3 M
set_option maxRecDepth 100000 in
set_option maxHeartbeats 4000000 in
theorem B_L_law_1896 {g : GG} {kr : Nat} (Q : Int32 → Mem → Prop) (κ28 : Nat → Nat → Nat → Nat → Int32 → Mem → Prop) (hκ28 : ∀ (v1 : Nat) (v2 : Nat) (v3 : Nat) (v4 : Nat) (v5 : Int32) (M : Mem), κ28 v1 v2 v3 v4 v5 M → WP g 20 mL_law 28 [some (.ref g.2.2.2.1), some (.ref (g.1 + v1)), some (.ref (g.1 + v2)), some (.ref (g.1 + v3)), some (.ref (g.1 + v4)), some (.int v5), none, none, none] [] M kr (oZ Q noX)) (v1 : Nat) (v2 : Nat) (v3 : Nat) (v4 : Nat) (v5 : Int32) (M : Mem) (h : T_L_law_1896 κ28 Q g.2.2.2.2.1 g.2.2.2.2.2 v1 v2 v3 v4 v5 M) : WP g 20 mL_law 1896 [some (.ref g.2.2.2.1), some (.ref (g.1 + v1)), some (.ref (g.1 + v2)), some (.ref (g.1 + v3)), some (.ref (g.1 + v4)), some (.int v5), none, none, none] [] M (kr + 2) (oZ Q noX) := by
  unfold T_L_law_1896 at h
  refine R_aload_n (pc := 1896) d_L_law_1896 rfl rfl ?_
  refine R_aload_n (pc := 1897) d_L_law_1897 rfl rfl ?_
  refine R_iload (pc := 1898) d_L_law_1898 rfl ?_
  refine R_iconst (pc := 1900) (v := 1) d_L_law_1900 (by decide) ?_
  refine R_iadd (pc := 1901) d_L_law_1901 ?_
  obtain ⟨k1, h⟩ := h
  refine R_sld (pc := 1902) k1 d_L_law_1902 ?_
  refine R_aload_n (pc := 1903) d_L_law_1903 rfl rfl ?_
  refine R_iload (pc := 1904) d_L_law_1904 rfl ?_
  refine R_iconst (pc := 1906) (v := 2) d_L_law_1906 (by decide) ?_
  refine R_iadd (pc := 1907) d_L_law_1907 ?_
  obtain ⟨k2, h⟩ := h
  refine R_sld (pc := 1908) k2 d_L_law_1908 ?_
  refine R_aload_n (pc := 1909) d_L_law_1909 rfl rfl ?_
  refine R_callSW (pc := 1910) (As := [.ref (g.1 + v1), .int (g.2.2.2.2.2 (Int32.toNatClampNeg (v5 + 1))), .int (g.2.2.2.2.2 (Int32.toNatClampNeg (v5 + 2))), .ref (g.1 + v3)]) (rest := []) (c_L_wished (g := g) v1 (g.2.2.2.2.2 (Int32.toNatClampNeg (v5 + 1))) (g.2.2.2.2.2 (Int32.toNatClampNeg (v5 + 2))) v3 M _ h) rfl rfl cal_RL_214 sta_L_wished (by decide) (by omega) rfl rfl (Nat.le_of_ble_eq_true rfl) d_L_law_1910 (k_I (fun y4 M3 h => ?_)) (fun _ _ h9 => False.elim h9)
  try dsimp only at h
  refine R_istore (pc := 1913) (L' := [some (.ref g.2.2.2.1), some (.ref (g.1 + v1)), some (.ref (g.1 + v2)), some (.ref (g.1 + v3)), some (.ref (g.1 + v4)), some (.int v5), some (.int y4), none, none]) d_L_law_1913 (by decide) rfl ?_
  refine R_aload_n (pc := 1915) d_L_law_1915 rfl rfl ?_
  refine R_aload_n (pc := 1916) d_L_law_1916 rfl rfl ?_
  refine R_iload (pc := 1917) d_L_law_1917 rfl ?_
  refine R_iconst (pc := 1919) (v := 1) d_L_law_1919 (by decide) ?_
  refine R_iadd (pc := 1920) d_L_law_1920 ?_
  refine R_sld (pc := 1921) k1 d_L_law_1921 ?_
  refine R_aload_n (pc := 1922) d_L_law_1922 rfl rfl ?_
  refine R_iload (pc := 1923) d_L_law_1923 rfl ?_
  refine R_iconst (pc := 1925) (v := 2) d_L_law_1925 (by decide) ?_
  refine R_iadd (pc := 1926) d_L_law_1926 ?_
  refine R_sld (pc := 1927) k2 d_L_law_1927 ?_
  obtain ⟨k5, h⟩ := h
  refine R_callV (pc := 1928) (As := [.int (g.2.2.2.2.2 (Int32.toNatClampNeg (v5 + 1))), .int (g.2.2.2.2.2 (Int32.toNatClampNeg (v5 + 2)))]) (rest := []) (c_X7_wished (g := g) v2 (g.2.2.2.2.2 (Int32.toNatClampNeg (v5 + 1))) (g.2.2.2.2.2 (Int32.toNatClampNeg (v5 + 2))) M3 _ h) rfl rfl cal_RL_216 ins_X7_wished sel_X7_wished (cls_at k5 clsOK7) (by decide) (by omega) rfl rfl (Nat.le_of_ble_eq_true rfl) d_L_law_1928 (k_I (fun y7 M6 h => ?_)) (fun _ _ h9 => False.elim h9)
  try dsimp only at h
  refine R_istore (pc := 1931) (L' := [some (.ref g.2.2.2.1), some (.ref (g.1 + v1)), some (.ref (g.1 + v2)), some (.ref (g.1 + v3)), some (.ref (g.1 + v4)), some (.int v5), some (.int y4), some (.int y7), none]) d_L_law_1931 (by decide) rfl ?_
  refine R_aload_n (pc := 1933) d_L_law_1933 rfl rfl ?_
  refine R_callV (pc := 1934) (As := []) (rest := []) (c_X7_thrown (g := g) v2 M6 _ h) rfl rfl cal_RL_140 ins_X7_thrown sel_X7_thrown (cls_at k5 clsOK7) (by decide) (by omega) rfl rfl (Nat.le_of_ble_eq_true rfl) d_L_law_1934 (k_I (fun y9 M8 h => ?_)) (fun _ _ h9 => False.elim h9)
  try dsimp only at h
  refine R_iload (pc := 1937) d_L_law_1937 rfl ?_
  refine R_icmp_eq (pc := 1939) (tgt := 1944) d_L_law_1939 (by decide) (fun c => ?_) (fun c => ?_)
  · rw [if_pos c] at h
    refine R_iload (pc := 1944) d_L_law_1944 rfl ?_
    refine R_if_ne (pc := 1946) (tgt := 1961) d_L_law_1946 (by decide) (fun c => ?_) (fun c => ?_)
    · rw [if_neg c] at h
      exact WP_sub (B_L_law_1961 Q κ28 hκ28 v1 v2 v3 v4 v5 M8 h) (by omega) (ls_s (ls_s (ls_s (ls_s (ls_s (ls_s (ls_n (ls_n (ls_n ls_0)))))))))
    · rw [if_pos c] at h
      refine R_aload_n (pc := 1949) d_L_law_1949 rfl rfl ?_
      refine R_iconst (pc := 1950) (v := 0) d_L_law_1950 (by decide) ?_
      obtain ⟨k10, h⟩ := h
      obtain ⟨k11, h⟩ := h
      refine R_lald (pc := 1951) k10 k11 d_L_law_1951 ?_
      refine R_iload (pc := 1952) d_L_law_1952 rfl ?_
      refine R_i2l (pc := 1954) d_L_law_1954 ?_
      refine R_lcmp (pc := 1955) d_L_law_1955 ?_
      refine R_if_eq (pc := 1956) (tgt := 1961) d_L_law_1956 (by decide) (fun c => ?_) (fun c => ?_)
      · rw [if_pos c] at h
        exact WP_sub (B_L_law_1961 Q κ28 hκ28 v1 v2 v3 v4 v5 M8 h) (by omega) (ls_s (ls_s (ls_s (ls_s (ls_s (ls_s (ls_n (ls_n (ls_n ls_0)))))))))
      · rw [if_neg c] at h
        refine R_iconst (pc := 1959) (v := 0) d_L_law_1959 (by decide) ?_
        exact R_retv (pc := 1960) d_L_law_1960 h
  · rw [if_neg c] at h
    refine R_iconst (pc := 1942) (v := 0) d_L_law_1942 (by decide) ?_
    exact R_retv (pc := 1943) d_L_law_1943 h
def T_L_law_1893 (κ28 : Nat → Nat → Nat → Nat → Int32 → Mem → Prop) (Q : Int32 → Mem → Prop) (sl : Nat) (xs : Nat → Int32) (v1 : Nat) (v2 : Nat) (v3 : Nat) (v4 : Nat) (v5 : Int32) (M : Mem) : Prop := T_L_law_2534 κ28 Q sl xs v1 v2 v3 v4 v5 M
set_option maxRecDepth 100000 in
set_option maxHeartbeats 4000000 in
theorem B_L_law_1893 {g : GG} {kr : Nat} (Q : Int32 → Mem → Prop) (κ28 : Nat → Nat → Nat → Nat → Int32 → Mem → Prop) (hκ28 : ∀ (v1 : Nat) (v2 : Nat) (v3 : Nat) (v4 : Nat) (v5 : Int32) (M : Mem), κ28 v1 v2 v3 v4 v5 M → WP g 20 mL_law 28 [some (.ref g.2.2.2.1), some (.ref (g.1 + v1)), some (.ref (g.1 + v2)), some (.ref (g.1 + v3)), some (.ref (g.1 + v4)), some (.int v5), none, none, none] [] M kr (oZ Q noX)) (v1 : Nat) (v2 : Nat) (v3 : Nat) (v4 : Nat) (v5 : Int32) (M : Mem) (h : T_L_law_1893 κ28 Q g.2.2.2.2.1 g.2.2.2.2.2 v1 v2 v3 v4 v5 M) : WP g 20 mL_law 1893 [some (.ref g.2.2.2.1), some (.ref (g.1 + v1)), some (.ref (g.1 + v2)), some (.ref (g.1 + v3)), some (.ref (g.1 + v4)), some (.int v5), none, none, none] [] M (kr + 1) (oZ Q noX) := by
  unfold T_L_law_1893 at h
  refine R_goto (pc := 1893) (tgt := 2534) d_L_law_1893 (by decide) ?_
  exact WP_sub (B_L_law_2534 Q κ28 hκ28 v1 v2 v3 v4 v5 M h) (by omega) (ls_s (ls_s (ls_s (ls_s (ls_s (ls_s (ls_n (ls_n (ls_n ls_0)))))))))
def T_L_law_1804 (κ28 : Nat → Nat → Nat → Nat → Int32 → Mem → Prop) (Q : Int32 → Mem → Prop) (sl : Nat) (xs : Nat → Int32) (v1 : Nat) (v2 : Nat) (v3 : Nat) (v4 : Nat) (v5 : Int32) (M : Mem) : Prop := (vp_in (v5 + 1) sl) ∧ (vp_in (v5 + 2) sl) ∧ (vp_in (v5 + 3) sl) ∧ (vp_in (v5 + 4) sl) ∧ T_L_wish (fun y6 M5 => (kd v2 = 7) ∧ T_X7_wish (fun y9 M8 => T_X7_thrown (fun y11 M10 => if y11 = y6 then (if y6 = 0 then ((kd v3 = 12) ∧ (vp_in 0 (ln v3)) ∧ if (lg_cmp (M10.2.1 (Int32.toNatClampNeg 0)) (Int32.toInt64 y9)) = 0 then (T_L_law_1893 κ28 Q sl xs v1 v2 v3 v4 v5 M10) else (((0 : Int32) = 0 ∨ (0 : Int32) = 1) ∧ Q 0 M10)) else (T_L_law_1893 κ28 Q sl xs v1 v2 v3 v4 v5 M10)) else (((0 : Int32) = 0 ∨ (0 : Int32) = 1) ∧ Q 0 M10))  v2 M8)  v2 (xs (Int32.toNatClampNeg (v5 + 1))) (xs (Int32.toNatClampNeg (v5 + 2))) (xs (Int32.toNatClampNeg (v5 + 3))) (xs (Int32.toNatClampNeg (v5 + 4))) M5)  v1 (xs (Int32.toNatClampNeg (v5 + 1))) (xs (Int32.toNatClampNeg (v5 + 2))) (xs (Int32.toNatClampNeg (v5 + 3))) (xs (Int32.toNatClampNeg (v5 + 4))) v3 M
set_option maxRecDepth 100000 in
set_option maxHeartbeats 4000000 in
theorem B_L_law_1804 {g : GG} {kr : Nat} (Q : Int32 → Mem → Prop) (κ28 : Nat → Nat → Nat → Nat → Int32 → Mem → Prop) (hκ28 : ∀ (v1 : Nat) (v2 : Nat) (v3 : Nat) (v4 : Nat) (v5 : Int32) (M : Mem), κ28 v1 v2 v3 v4 v5 M → WP g 20 mL_law 28 [some (.ref g.2.2.2.1), some (.ref (g.1 + v1)), some (.ref (g.1 + v2)), some (.ref (g.1 + v3)), some (.ref (g.1 + v4)), some (.int v5), none, none, none] [] M kr (oZ Q noX)) (v1 : Nat) (v2 : Nat) (v3 : Nat) (v4 : Nat) (v5 : Int32) (M : Mem) (h : T_L_law_1804 κ28 Q g.2.2.2.2.1 g.2.2.2.2.2 v1 v2 v3 v4 v5 M) : WP g 20 mL_law 1804 [some (.ref g.2.2.2.1), some (.ref (g.1 + v1)), some (.ref (g.1 + v2)), some (.ref (g.1 + v3)), some (.ref (g.1 + v4)), some (.int v5), none, none, none] [] M (kr + 2) (oZ Q noX) := by
  unfold T_L_law_1804 at h
  refine R_aload_n (pc := 1804) d_L_law_1804 rfl rfl ?_
  refine R_aload_n (pc := 1805) d_L_law_1805 rfl rfl ?_
  refine R_iload (pc := 1806) d_L_law_1806 rfl ?_
  refine R_iconst (pc := 1808) (v := 1) d_L_law_1808 (by decide) ?_
  refine R_iadd (pc := 1809) d_L_law_1809 ?_
  obtain ⟨k1, h⟩ := h
  refine R_sld (pc := 1810) k1 d_L_law_1810 ?_
  refine R_aload_n (pc := 1811) d_L_law_1811 rfl rfl ?_
  refine R_iload (pc := 1812) d_L_law_1812 rfl ?_
  refine R_iconst (pc := 1814) (v := 2) d_L_law_1814 (by decide) ?_
  refine R_iadd (pc := 1815) d_L_law_1815 ?_
  obtain ⟨k2, h⟩ := h
  refine R_sld (pc := 1816) k2 d_L_law_1816 ?_
  refine R_aload_n (pc := 1817) d_L_law_1817 rfl rfl ?_
  refine R_iload (pc := 1818) d_L_law_1818 rfl ?_
  refine R_iconst (pc := 1820) (v := 3) d_L_law_1820 (by decide) ?_
  refine R_iadd (pc := 1821) d_L_law_1821 ?_
  obtain ⟨k3, h⟩ := h
  refine R_sld (pc := 1822) k3 d_L_law_1822 ?_
  refine R_aload_n (pc := 1823) d_L_law_1823 rfl rfl ?_
  refine R_iload (pc := 1824) d_L_law_1824 rfl ?_
  refine R_iconst (pc := 1826) (v := 4) d_L_law_1826 (by decide) ?_
  refine R_iadd (pc := 1827) d_L_law_1827 ?_
  obtain ⟨k4, h⟩ := h
  refine R_sld (pc := 1828) k4 d_L_law_1828 ?_
  refine R_aload_n (pc := 1829) d_L_law_1829 rfl rfl ?_
  refine R_callSW (pc := 1830) (As := [.ref (g.1 + v1), .int (g.2.2.2.2.2 (Int32.toNatClampNeg (v5 + 1))), .int (g.2.2.2.2.2 (Int32.toNatClampNeg (v5 + 2))), .int (g.2.2.2.2.2 (Int32.toNatClampNeg (v5 + 3))), .int (g.2.2.2.2.2 (Int32.toNatClampNeg (v5 + 4))), .ref (g.1 + v3)]) (rest := []) (c_L_wish (g := g) v1 (g.2.2.2.2.2 (Int32.toNatClampNeg (v5 + 1))) (g.2.2.2.2.2 (Int32.toNatClampNeg (v5 + 2))) (g.2.2.2.2.2 (Int32.toNatClampNeg (v5 + 3))) (g.2.2.2.2.2 (Int32.toNatClampNeg (v5 + 4))) v3 M _ h) rfl rfl cal_RL_211 sta_L_wish (by decide) (by omega) rfl rfl (Nat.le_of_ble_eq_true rfl) d_L_law_1830 (k_I (fun y6 M5 h => ?_)) (fun _ _ h9 => False.elim h9)
  try dsimp only at h
  refine R_istore (pc := 1833) (L' := [some (.ref g.2.2.2.1), some (.ref (g.1 + v1)), some (.ref (g.1 + v2)), some (.ref (g.1 + v3)), some (.ref (g.1 + v4)), some (.int v5), some (.int y6), none, none]) d_L_law_1833 (by decide) rfl ?_
  refine R_aload_n (pc := 1835) d_L_law_1835 rfl rfl ?_
  refine R_aload_n (pc := 1836) d_L_law_1836 rfl rfl ?_
  refine R_iload (pc := 1837) d_L_law_1837 rfl ?_
  refine R_iconst (pc := 1839) (v := 1) d_L_law_1839 (by decide) ?_
  refine R_iadd (pc := 1840) d_L_law_1840 ?_
  refine R_sld (pc := 1841) k1 d_L_law_1841 ?_
  refine R_aload_n (pc := 1842) d_L_law_1842 rfl rfl ?_
  refine R_iload (pc := 1843) d_L_law_1843 rfl ?_
  refine R_iconst (pc := 1845) (v := 2) d_L_law_1845 (by decide) ?_
  refine R_iadd (pc := 1846) d_L_law_1846 ?_
  refine R_sld (pc := 1847) k2 d_L_law_1847 ?_
  refine R_aload_n (pc := 1848) d_L_law_1848 rfl rfl ?_
  refine R_iload (pc := 1849) d_L_law_1849 rfl ?_
  refine R_iconst (pc := 1851) (v := 3) d_L_law_1851 (by decide) ?_
  refine R_iadd (pc := 1852) d_L_law_1852 ?_
  refine R_sld (pc := 1853) k3 d_L_law_1853 ?_
  refine R_aload_n (pc := 1854) d_L_law_1854 rfl rfl ?_
  refine R_iload (pc := 1855) d_L_law_1855 rfl ?_
  refine R_iconst (pc := 1857) (v := 4) d_L_law_1857 (by decide) ?_
  refine R_iadd (pc := 1858) d_L_law_1858 ?_
  refine R_sld (pc := 1859) k4 d_L_law_1859 ?_
  obtain ⟨k7, h⟩ := h
  refine R_callV (pc := 1860) (As := [.int (g.2.2.2.2.2 (Int32.toNatClampNeg (v5 + 1))), .int (g.2.2.2.2.2 (Int32.toNatClampNeg (v5 + 2))), .int (g.2.2.2.2.2 (Int32.toNatClampNeg (v5 + 3))), .int (g.2.2.2.2.2 (Int32.toNatClampNeg (v5 + 4)))]) (rest := []) (c_X7_wish (g := g) v2 (g.2.2.2.2.2 (Int32.toNatClampNeg (v5 + 1))) (g.2.2.2.2.2 (Int32.toNatClampNeg (v5 + 2))) (g.2.2.2.2.2 (Int32.toNatClampNeg (v5 + 3))) (g.2.2.2.2.2 (Int32.toNatClampNeg (v5 + 4))) M5 _ h) rfl rfl cal_RL_213 ins_X7_wish sel_X7_wish (cls_at k7 clsOK7) (by decide) (by omega) rfl rfl (Nat.le_of_ble_eq_true rfl) d_L_law_1860 (k_I (fun y9 M8 h => ?_)) (fun _ _ h9 => False.elim h9)
  try dsimp only at h
  refine R_istore (pc := 1863) (L' := [some (.ref g.2.2.2.1), some (.ref (g.1 + v1)), some (.ref (g.1 + v2)), some (.ref (g.1 + v3)), some (.ref (g.1 + v4)), some (.int v5), some (.int y6), some (.int y9), none]) d_L_law_1863 (by decide) rfl ?_
  refine R_aload_n (pc := 1865) d_L_law_1865 rfl rfl ?_
  refine R_callV (pc := 1866) (As := []) (rest := []) (c_X7_thrown (g := g) v2 M8 _ h) rfl rfl cal_RL_140 ins_X7_thrown sel_X7_thrown (cls_at k7 clsOK7) (by decide) (by omega) rfl rfl (Nat.le_of_ble_eq_true rfl) d_L_law_1866 (k_I (fun y11 M10 h => ?_)) (fun _ _ h9 => False.elim h9)
  try dsimp only at h
  refine R_iload (pc := 1869) d_L_law_1869 rfl ?_
  refine R_icmp_eq (pc := 1871) (tgt := 1876) d_L_law_1871 (by decide) (fun c => ?_) (fun c => ?_)
  · rw [if_pos c] at h
    refine R_iload (pc := 1876) d_L_law_1876 rfl ?_
    refine R_if_ne (pc := 1878) (tgt := 1893) d_L_law_1878 (by decide) (fun c => ?_) (fun c => ?_)
    · rw [if_neg c] at h
      exact WP_sub (B_L_law_1893 Q κ28 hκ28 v1 v2 v3 v4 v5 M10 h) (by omega) (ls_s (ls_s (ls_s (ls_s (ls_s (ls_s (ls_n (ls_n (ls_n ls_0)))))))))
    · rw [if_pos c] at h
      refine R_aload_n (pc := 1881) d_L_law_1881 rfl rfl ?_
      refine R_iconst (pc := 1882) (v := 0) d_L_law_1882 (by decide) ?_
      obtain ⟨k12, h⟩ := h
      obtain ⟨k13, h⟩ := h
      refine R_lald (pc := 1883) k12 k13 d_L_law_1883 ?_
      refine R_iload (pc := 1884) d_L_law_1884 rfl ?_
      refine R_i2l (pc := 1886) d_L_law_1886 ?_
      refine R_lcmp (pc := 1887) d_L_law_1887 ?_
      refine R_if_eq (pc := 1888) (tgt := 1893) d_L_law_1888 (by decide) (fun c => ?_) (fun c => ?_)
      · rw [if_pos c] at h
        exact WP_sub (B_L_law_1893 Q κ28 hκ28 v1 v2 v3 v4 v5 M10 h) (by omega) (ls_s (ls_s (ls_s (ls_s (ls_s (ls_s (ls_n (ls_n (ls_n ls_0)))))))))
      · rw [if_neg c] at h
        refine R_iconst (pc := 1891) (v := 0) d_L_law_1891 (by decide) ?_
        exact R_retv (pc := 1892) d_L_law_1892 h
  · rw [if_neg c] at h
    refine R_iconst (pc := 1874) (v := 0) d_L_law_1874 (by decide) ?_
    exact R_retv (pc := 1875) d_L_law_1875 h
def T_L_law_1801 (κ28 : Nat → Nat → Nat → Nat → Int32 → Mem → Prop) (Q : Int32 → Mem → Prop) (sl : Nat) (xs : Nat → Int32) (v1 : Nat) (v2 : Nat) (v3 : Nat) (v4 : Nat) (v5 : Int32) (M : Mem) : Prop := T_L_law_2534 κ28 Q sl xs v1 v2 v3 v4 v5 M
set_option maxRecDepth 100000 in
set_option maxHeartbeats 4000000 in
theorem B_L_law_1801 {g : GG} {kr : Nat} (Q : Int32 → Mem → Prop) (κ28 : Nat → Nat → Nat → Nat → Int32 → Mem → Prop) (hκ28 : ∀ (v1 : Nat) (v2 : Nat) (v3 : Nat) (v4 : Nat) (v5 : Int32) (M : Mem), κ28 v1 v2 v3 v4 v5 M → WP g 20 mL_law 28 [some (.ref g.2.2.2.1), some (.ref (g.1 + v1)), some (.ref (g.1 + v2)), some (.ref (g.1 + v3)), some (.ref (g.1 + v4)), some (.int v5), none, none, none] [] M kr (oZ Q noX)) (v1 : Nat) (v2 : Nat) (v3 : Nat) (v4 : Nat) (v5 : Int32) (M : Mem) (h : T_L_law_1801 κ28 Q g.2.2.2.2.1 g.2.2.2.2.2 v1 v2 v3 v4 v5 M) : WP g 20 mL_law 1801 [some (.ref g.2.2.2.1), some (.ref (g.1 + v1)), some (.ref (g.1 + v2)), some (.ref (g.1 + v3)), some (.ref (g.1 + v4)), some (.int v5), none, none, none] [] M (kr + 1) (oZ Q noX) := by
  unfold T_L_law_1801 at h
  refine R_goto (pc := 1801) (tgt := 2534) d_L_law_1801 (by decide) ?_
  exact WP_sub (B_L_law_2534 Q κ28 hκ28 v1 v2 v3 v4 v5 M h) (by omega) (ls_s (ls_s (ls_s (ls_s (ls_s (ls_s (ls_n (ls_n (ls_n ls_0)))))))))
def T_L_law_1736 (κ28 : Nat → Nat → Nat → Nat → Int32 → Mem → Prop) (Q : Int32 → Mem → Prop) (sl : Nat) (xs : Nat → Int32) (v1 : Nat) (v2 : Nat) (v3 : Nat) (v4 : Nat) (v5 : Int32) (M : Mem) : Prop := (vp_in (v5 + 1) sl) ∧ (vp_in (v5 + 2) sl) ∧ T_L_banned (fun y4 M3 => (kd v2 = 7) ∧ T_X7_banned (fun y7 M6 => T_X7_thrown (fun y9 M8 => if y9 = y4 then (if y4 = 0 then ((kd v3 = 12) ∧ (vp_in 0 (ln v3)) ∧ if (lg_cmp (M8.2.1 (Int32.toNatClampNeg 0)) (Int32.toInt64 y7)) = 0 then (T_L_law_1801 κ28 Q sl xs v1 v2 v3 v4 v5 M8) else (((0 : Int32) = 0 ∨ (0 : Int32) = 1) ∧ Q 0 M8)) else (T_L_law_1801 κ28 Q sl xs v1 v2 v3 v4 v5 M8)) else (((0 : Int32) = 0 ∨ (0 : Int32) = 1) ∧ Q 0 M8))  v2 M6)  v2 (xs (Int32.toNatClampNeg (v5 + 1))) (xs (Int32.toNatClampNeg (v5 + 2))) M3)  v1 (xs (Int32.toNatClampNeg (v5 + 1))) (xs (Int32.toNatClampNeg (v5 + 2))) v3 M
set_option maxRecDepth 100000 in
set_option maxHeartbeats 4000000 in
theorem B_L_law_1736 {g : GG} {kr : Nat} (Q : Int32 → Mem → Prop) (κ28 : Nat → Nat → Nat → Nat → Int32 → Mem → Prop) (hκ28 : ∀ (v1 : Nat) (v2 : Nat) (v3 : Nat) (v4 : Nat) (v5 : Int32) (M : Mem), κ28 v1 v2 v3 v4 v5 M → WP g 20 mL_law 28 [some (.ref g.2.2.2.1), some (.ref (g.1 + v1)), some (.ref (g.1 + v2)), some (.ref (g.1 + v3)), some (.ref (g.1 + v4)), some (.int v5), none, none, none] [] M kr (oZ Q noX)) (v1 : Nat) (v2 : Nat) (v3 : Nat) (v4 : Nat) (v5 : Int32) (M : Mem) (h : T_L_law_1736 κ28 Q g.2.2.2.2.1 g.2.2.2.2.2 v1 v2 v3 v4 v5 M) : WP g 20 mL_law 1736 [some (.ref g.2.2.2.1), some (.ref (g.1 + v1)), some (.ref (g.1 + v2)), some (.ref (g.1 + v3)), some (.ref (g.1 + v4)), some (.int v5), none, none, none] [] M (kr + 2) (oZ Q noX) := by
  unfold T_L_law_1736 at h
  refine R_aload_n (pc := 1736) d_L_law_1736 rfl rfl ?_
  refine R_aload_n (pc := 1737) d_L_law_1737 rfl rfl ?_
  refine R_iload (pc := 1738) d_L_law_1738 rfl ?_
  refine R_iconst (pc := 1740) (v := 1) d_L_law_1740 (by decide) ?_
  refine R_iadd (pc := 1741) d_L_law_1741 ?_
  obtain ⟨k1, h⟩ := h
  refine R_sld (pc := 1742) k1 d_L_law_1742 ?_
  refine R_aload_n (pc := 1743) d_L_law_1743 rfl rfl ?_
  refine R_iload (pc := 1744) d_L_law_1744 rfl ?_
  refine R_iconst (pc := 1746) (v := 2) d_L_law_1746 (by decide) ?_
  refine R_iadd (pc := 1747) d_L_law_1747 ?_
  obtain ⟨k2, h⟩ := h
  refine R_sld (pc := 1748) k2 d_L_law_1748 ?_
  refine R_aload_n (pc := 1749) d_L_law_1749 rfl rfl ?_
  refine R_callSW (pc := 1750) (As := [.ref (g.1 + v1), .int (g.2.2.2.2.2 (Int32.toNatClampNeg (v5 + 1))), .int (g.2.2.2.2.2 (Int32.toNatClampNeg (v5 + 2))), .ref (g.1 + v3)]) (rest := []) (c_L_banned (g := g) v1 (g.2.2.2.2.2 (Int32.toNatClampNeg (v5 + 1))) (g.2.2.2.2.2 (Int32.toNatClampNeg (v5 + 2))) v3 M _ h) rfl rfl cal_RL_208 sta_L_banned (by decide) (by omega) rfl rfl (Nat.le_of_ble_eq_true rfl) d_L_law_1750 (k_I (fun y4 M3 h => ?_)) (fun _ _ h9 => False.elim h9)
  try dsimp only at h
  refine R_istore (pc := 1753) (L' := [some (.ref g.2.2.2.1), some (.ref (g.1 + v1)), some (.ref (g.1 + v2)), some (.ref (g.1 + v3)), some (.ref (g.1 + v4)), some (.int v5), some (.int y4), none, none]) d_L_law_1753 (by decide) rfl ?_
  refine R_aload_n (pc := 1755) d_L_law_1755 rfl rfl ?_
  refine R_aload_n (pc := 1756) d_L_law_1756 rfl rfl ?_
  refine R_iload (pc := 1757) d_L_law_1757 rfl ?_
  refine R_iconst (pc := 1759) (v := 1) d_L_law_1759 (by decide) ?_
  refine R_iadd (pc := 1760) d_L_law_1760 ?_
  refine R_sld (pc := 1761) k1 d_L_law_1761 ?_
  refine R_aload_n (pc := 1762) d_L_law_1762 rfl rfl ?_
  refine R_iload (pc := 1763) d_L_law_1763 rfl ?_
  refine R_iconst (pc := 1765) (v := 2) d_L_law_1765 (by decide) ?_
  refine R_iadd (pc := 1766) d_L_law_1766 ?_
  refine R_sld (pc := 1767) k2 d_L_law_1767 ?_
  obtain ⟨k5, h⟩ := h
  refine R_callV (pc := 1768) (As := [.int (g.2.2.2.2.2 (Int32.toNatClampNeg (v5 + 1))), .int (g.2.2.2.2.2 (Int32.toNatClampNeg (v5 + 2)))]) (rest := []) (c_X7_banned (g := g) v2 (g.2.2.2.2.2 (Int32.toNatClampNeg (v5 + 1))) (g.2.2.2.2.2 (Int32.toNatClampNeg (v5 + 2))) M3 _ h) rfl rfl cal_RL_210 ins_X7_banned sel_X7_banned (cls_at k5 clsOK7) (by decide) (by omega) rfl rfl (Nat.le_of_ble_eq_true rfl) d_L_law_1768 (k_I (fun y7 M6 h => ?_)) (fun _ _ h9 => False.elim h9)
  try dsimp only at h
  refine R_istore (pc := 1771) (L' := [some (.ref g.2.2.2.1), some (.ref (g.1 + v1)), some (.ref (g.1 + v2)), some (.ref (g.1 + v3)), some (.ref (g.1 + v4)), some (.int v5), some (.int y4), some (.int y7), none]) d_L_law_1771 (by decide) rfl ?_
  refine R_aload_n (pc := 1773) d_L_law_1773 rfl rfl ?_
  refine R_callV (pc := 1774) (As := []) (rest := []) (c_X7_thrown (g := g) v2 M6 _ h) rfl rfl cal_RL_140 ins_X7_thrown sel_X7_thrown (cls_at k5 clsOK7) (by decide) (by omega) rfl rfl (Nat.le_of_ble_eq_true rfl) d_L_law_1774 (k_I (fun y9 M8 h => ?_)) (fun _ _ h9 => False.elim h9)
  try dsimp only at h
  refine R_iload (pc := 1777) d_L_law_1777 rfl ?_
  refine R_icmp_eq (pc := 1779) (tgt := 1784) d_L_law_1779 (by decide) (fun c => ?_) (fun c => ?_)
  · rw [if_pos c] at h
    refine R_iload (pc := 1784) d_L_law_1784 rfl ?_
    refine R_if_ne (pc := 1786) (tgt := 1801) d_L_law_1786 (by decide) (fun c => ?_) (fun c => ?_)
    · rw [if_neg c] at h
      exact WP_sub (B_L_law_1801 Q κ28 hκ28 v1 v2 v3 v4 v5 M8 h) (by omega) (ls_s (ls_s (ls_s (ls_s (ls_s (ls_s (ls_n (ls_n (ls_n ls_0)))))))))
    · rw [if_pos c] at h
      refine R_aload_n (pc := 1789) d_L_law_1789 rfl rfl ?_
      refine R_iconst (pc := 1790) (v := 0) d_L_law_1790 (by decide) ?_
      obtain ⟨k10, h⟩ := h
      obtain ⟨k11, h⟩ := h
      refine R_lald (pc := 1791) k10 k11 d_L_law_1791 ?_
      refine R_iload (pc := 1792) d_L_law_1792 rfl ?_
      refine R_i2l (pc := 1794) d_L_law_1794 ?_
      refine R_lcmp (pc := 1795) d_L_law_1795 ?_
      refine R_if_eq (pc := 1796) (tgt := 1801) d_L_law_1796 (by decide) (fun c => ?_) (fun c => ?_)
      · rw [if_pos c] at h
        exact WP_sub (B_L_law_1801 Q κ28 hκ28 v1 v2 v3 v4 v5 M8 h) (by omega) (ls_s (ls_s (ls_s (ls_s (ls_s (ls_s (ls_n (ls_n (ls_n ls_0)))))))))
      · rw [if_neg c] at h
        refine R_iconst (pc := 1799) (v := 0) d_L_law_1799 (by decide) ?_
        exact R_retv (pc := 1800) d_L_law_1800 h
  · rw [if_neg c] at h
    refine R_iconst (pc := 1782) (v := 0) d_L_law_1782 (by decide) ?_
    exact R_retv (pc := 1783) d_L_law_1783 h
def T_L_law_1733 (κ28 : Nat → Nat → Nat → Nat → Int32 → Mem → Prop) (Q : Int32 → Mem → Prop) (sl : Nat) (xs : Nat → Int32) (v1 : Nat) (v2 : Nat) (v3 : Nat) (v4 : Nat) (v5 : Int32) (M : Mem) : Prop := T_L_law_2534 κ28 Q sl xs v1 v2 v3 v4 v5 M
set_option maxRecDepth 100000 in
set_option maxHeartbeats 4000000 in
theorem B_L_law_1733 {g : GG} {kr : Nat} (Q : Int32 → Mem → Prop) (κ28 : Nat → Nat → Nat → Nat → Int32 → Mem → Prop) (hκ28 : ∀ (v1 : Nat) (v2 : Nat) (v3 : Nat) (v4 : Nat) (v5 : Int32) (M : Mem), κ28 v1 v2 v3 v4 v5 M → WP g 20 mL_law 28 [some (.ref g.2.2.2.1), some (.ref (g.1 + v1)), some (.ref (g.1 + v2)), some (.ref (g.1 + v3)), some (.ref (g.1 + v4)), some (.int v5), none, none, none] [] M kr (oZ Q noX)) (v1 : Nat) (v2 : Nat) (v3 : Nat) (v4 : Nat) (v5 : Int32) (M : Mem) (h : T_L_law_1733 κ28 Q g.2.2.2.2.1 g.2.2.2.2.2 v1 v2 v3 v4 v5 M) : WP g 20 mL_law 1733 [some (.ref g.2.2.2.1), some (.ref (g.1 + v1)), some (.ref (g.1 + v2)), some (.ref (g.1 + v3)), some (.ref (g.1 + v4)), some (.int v5), none, none, none] [] M (kr + 1) (oZ Q noX) := by
  unfold T_L_law_1733 at h
  refine R_goto (pc := 1733) (tgt := 2534) d_L_law_1733 (by decide) ?_
  exact WP_sub (B_L_law_2534 Q κ28 hκ28 v1 v2 v3 v4 v5 M h) (by omega) (ls_s (ls_s (ls_s (ls_s (ls_s (ls_s (ls_n (ls_n (ls_n ls_0)))))))))
def T_L_law_1680 (κ28 : Nat → Nat → Nat → Nat → Int32 → Mem → Prop) (Q : Int32 → Mem → Prop) (sl : Nat) (xs : Nat → Int32) (v1 : Nat) (v2 : Nat) (v3 : Nat) (v4 : Nat) (v5 : Int32) (M : Mem) : Prop := (vp_in (v5 + 1) sl) ∧ T_L_lift (fun y3 M2 => (kd v2 = 7) ∧ T_X7_lift (fun y6 M5 => T_X7_thrown (fun y8 M7 => if y8 = y3 then (if y3 = 0 then ((kd v3 = 12) ∧ (vp_in 0 (ln v3)) ∧ if (lg_cmp (M7.2.1 (Int32.toNatClampNeg 0)) (Int32.toInt64 y6)) = 0 then (T_L_law_1733 κ28 Q sl xs v1 v2 v3 v4 v5 M7) else (((0 : Int32) = 0 ∨ (0 : Int32) = 1) ∧ Q 0 M7)) else (T_L_law_1733 κ28 Q sl xs v1 v2 v3 v4 v5 M7)) else (((0 : Int32) = 0 ∨ (0 : Int32) = 1) ∧ Q 0 M7))  v2 M5)  v2 (xs (Int32.toNatClampNeg (v5 + 1))) M2)  v1 (xs (Int32.toNatClampNeg (v5 + 1))) v3 M
set_option maxRecDepth 100000 in
set_option maxHeartbeats 4000000 in
theorem B_L_law_1680 {g : GG} {kr : Nat} (Q : Int32 → Mem → Prop) (κ28 : Nat → Nat → Nat → Nat → Int32 → Mem → Prop) (hκ28 : ∀ (v1 : Nat) (v2 : Nat) (v3 : Nat) (v4 : Nat) (v5 : Int32) (M : Mem), κ28 v1 v2 v3 v4 v5 M → WP g 20 mL_law 28 [some (.ref g.2.2.2.1), some (.ref (g.1 + v1)), some (.ref (g.1 + v2)), some (.ref (g.1 + v3)), some (.ref (g.1 + v4)), some (.int v5), none, none, none] [] M kr (oZ Q noX)) (v1 : Nat) (v2 : Nat) (v3 : Nat) (v4 : Nat) (v5 : Int32) (M : Mem) (h : T_L_law_1680 κ28 Q g.2.2.2.2.1 g.2.2.2.2.2 v1 v2 v3 v4 v5 M) : WP g 20 mL_law 1680 [some (.ref g.2.2.2.1), some (.ref (g.1 + v1)), some (.ref (g.1 + v2)), some (.ref (g.1 + v3)), some (.ref (g.1 + v4)), some (.int v5), none, none, none] [] M (kr + 2) (oZ Q noX) := by
  unfold T_L_law_1680 at h
  refine R_aload_n (pc := 1680) d_L_law_1680 rfl rfl ?_
  refine R_aload_n (pc := 1681) d_L_law_1681 rfl rfl ?_
  refine R_iload (pc := 1682) d_L_law_1682 rfl ?_
  refine R_iconst (pc := 1684) (v := 1) d_L_law_1684 (by decide) ?_
  refine R_iadd (pc := 1685) d_L_law_1685 ?_
  obtain ⟨k1, h⟩ := h
  refine R_sld (pc := 1686) k1 d_L_law_1686 ?_
  refine R_aload_n (pc := 1687) d_L_law_1687 rfl rfl ?_
  refine R_callSW (pc := 1688) (As := [.ref (g.1 + v1), .int (g.2.2.2.2.2 (Int32.toNatClampNeg (v5 + 1))), .ref (g.1 + v3)]) (rest := []) (c_L_lift (g := g) v1 (g.2.2.2.2.2 (Int32.toNatClampNeg (v5 + 1))) v3 M _ h) rfl rfl cal_RL_205 sta_L_lift (by decide) (by omega) rfl rfl (Nat.le_of_ble_eq_true rfl) d_L_law_1688 (k_I (fun y3 M2 h => ?_)) (fun _ _ h9 => False.elim h9)
  try dsimp only at h
  refine R_istore (pc := 1691) (L' := [some (.ref g.2.2.2.1), some (.ref (g.1 + v1)), some (.ref (g.1 + v2)), some (.ref (g.1 + v3)), some (.ref (g.1 + v4)), some (.int v5), some (.int y3), none, none]) d_L_law_1691 (by decide) rfl ?_
  refine R_aload_n (pc := 1693) d_L_law_1693 rfl rfl ?_
  refine R_aload_n (pc := 1694) d_L_law_1694 rfl rfl ?_
  refine R_iload (pc := 1695) d_L_law_1695 rfl ?_
  refine R_iconst (pc := 1697) (v := 1) d_L_law_1697 (by decide) ?_
  refine R_iadd (pc := 1698) d_L_law_1698 ?_
  refine R_sld (pc := 1699) k1 d_L_law_1699 ?_
  obtain ⟨k4, h⟩ := h
  refine R_callV (pc := 1700) (As := [.int (g.2.2.2.2.2 (Int32.toNatClampNeg (v5 + 1)))]) (rest := []) (c_X7_lift (g := g) v2 (g.2.2.2.2.2 (Int32.toNatClampNeg (v5 + 1))) M2 _ h) rfl rfl cal_RL_207 ins_X7_lift sel_X7_lift (cls_at k4 clsOK7) (by decide) (by omega) rfl rfl (Nat.le_of_ble_eq_true rfl) d_L_law_1700 (k_I (fun y6 M5 h => ?_)) (fun _ _ h9 => False.elim h9)
  try dsimp only at h
  refine R_istore (pc := 1703) (L' := [some (.ref g.2.2.2.1), some (.ref (g.1 + v1)), some (.ref (g.1 + v2)), some (.ref (g.1 + v3)), some (.ref (g.1 + v4)), some (.int v5), some (.int y3), some (.int y6), none]) d_L_law_1703 (by decide) rfl ?_
  refine R_aload_n (pc := 1705) d_L_law_1705 rfl rfl ?_
  refine R_callV (pc := 1706) (As := []) (rest := []) (c_X7_thrown (g := g) v2 M5 _ h) rfl rfl cal_RL_140 ins_X7_thrown sel_X7_thrown (cls_at k4 clsOK7) (by decide) (by omega) rfl rfl (Nat.le_of_ble_eq_true rfl) d_L_law_1706 (k_I (fun y8 M7 h => ?_)) (fun _ _ h9 => False.elim h9)
  try dsimp only at h
  refine R_iload (pc := 1709) d_L_law_1709 rfl ?_
  refine R_icmp_eq (pc := 1711) (tgt := 1716) d_L_law_1711 (by decide) (fun c => ?_) (fun c => ?_)
  · rw [if_pos c] at h
    refine R_iload (pc := 1716) d_L_law_1716 rfl ?_
    refine R_if_ne (pc := 1718) (tgt := 1733) d_L_law_1718 (by decide) (fun c => ?_) (fun c => ?_)
    · rw [if_neg c] at h
      exact WP_sub (B_L_law_1733 Q κ28 hκ28 v1 v2 v3 v4 v5 M7 h) (by omega) (ls_s (ls_s (ls_s (ls_s (ls_s (ls_s (ls_n (ls_n (ls_n ls_0)))))))))
    · rw [if_pos c] at h
      refine R_aload_n (pc := 1721) d_L_law_1721 rfl rfl ?_
      refine R_iconst (pc := 1722) (v := 0) d_L_law_1722 (by decide) ?_
      obtain ⟨k9, h⟩ := h
      obtain ⟨k10, h⟩ := h
      refine R_lald (pc := 1723) k9 k10 d_L_law_1723 ?_
      refine R_iload (pc := 1724) d_L_law_1724 rfl ?_
      refine R_i2l (pc := 1726) d_L_law_1726 ?_
      refine R_lcmp (pc := 1727) d_L_law_1727 ?_
      refine R_if_eq (pc := 1728) (tgt := 1733) d_L_law_1728 (by decide) (fun c => ?_) (fun c => ?_)
      · rw [if_pos c] at h
        exact WP_sub (B_L_law_1733 Q κ28 hκ28 v1 v2 v3 v4 v5 M7 h) (by omega) (ls_s (ls_s (ls_s (ls_s (ls_s (ls_s (ls_n (ls_n (ls_n ls_0)))))))))
      · rw [if_neg c] at h
        refine R_iconst (pc := 1731) (v := 0) d_L_law_1731 (by decide) ?_
        exact R_retv (pc := 1732) d_L_law_1732 h
  · rw [if_neg c] at h
    refine R_iconst (pc := 1714) (v := 0) d_L_law_1714 (by decide) ?_
    exact R_retv (pc := 1715) d_L_law_1715 h
def T_L_law_1677 (κ28 : Nat → Nat → Nat → Nat → Int32 → Mem → Prop) (Q : Int32 → Mem → Prop) (sl : Nat) (xs : Nat → Int32) (v1 : Nat) (v2 : Nat) (v3 : Nat) (v4 : Nat) (v5 : Int32) (M : Mem) : Prop := T_L_law_2534 κ28 Q sl xs v1 v2 v3 v4 v5 M
set_option maxRecDepth 100000 in
set_option maxHeartbeats 4000000 in
theorem B_L_law_1677 {g : GG} {kr : Nat} (Q : Int32 → Mem → Prop) (κ28 : Nat → Nat → Nat → Nat → Int32 → Mem → Prop) (hκ28 : ∀ (v1 : Nat) (v2 : Nat) (v3 : Nat) (v4 : Nat) (v5 : Int32) (M : Mem), κ28 v1 v2 v3 v4 v5 M → WP g 20 mL_law 28 [some (.ref g.2.2.2.1), some (.ref (g.1 + v1)), some (.ref (g.1 + v2)), some (.ref (g.1 + v3)), some (.ref (g.1 + v4)), some (.int v5), none, none, none] [] M kr (oZ Q noX)) (v1 : Nat) (v2 : Nat) (v3 : Nat) (v4 : Nat) (v5 : Int32) (M : Mem) (h : T_L_law_1677 κ28 Q g.2.2.2.2.1 g.2.2.2.2.2 v1 v2 v3 v4 v5 M) : WP g 20 mL_law 1677 [some (.ref g.2.2.2.1), some (.ref (g.1 + v1)), some (.ref (g.1 + v2)), some (.ref (g.1 + v3)), some (.ref (g.1 + v4)), some (.int v5), none, none, none] [] M (kr + 1) (oZ Q noX) := by
  unfold T_L_law_1677 at h
  refine R_goto (pc := 1677) (tgt := 2534) d_L_law_1677 (by decide) ?_
  exact WP_sub (B_L_law_2534 Q κ28 hκ28 v1 v2 v3 v4 v5 M h) (by omega) (ls_s (ls_s (ls_s (ls_s (ls_s (ls_s (ls_n (ls_n (ls_n ls_0)))))))))
def T_L_law_1576 (κ28 : Nat → Nat → Nat → Nat → Int32 → Mem → Prop) (Q : Int32 → Mem → Prop) (sl : Nat) (xs : Nat → Int32) (v1 : Nat) (v2 : Nat) (v3 : Nat) (v4 : Nat) (v5 : Int32) (M : Mem) : Prop := (vp_in (v5 + 1) sl) ∧ (vp_in (v5 + 2) sl) ∧ (vp_in (v5 + 3) sl) ∧ (vp_in (v5 + 4) sl) ∧ (vp_in (v5 + 5) sl) ∧ T_L_ban (fun y7 M6 => (kd v2 = 7) ∧ T_X7_ban (fun y10 M9 => T_X7_thrown (fun y12 M11 => if y12 = y7 then (if y7 = 0 then ((kd v3 = 12) ∧ (vp_in 0 (ln v3)) ∧ if (lg_cmp (M11.2.1 (Int32.toNatClampNeg 0)) (Int32.toInt64 y10)) = 0 then (T_L_law_1677 κ28 Q sl xs v1 v2 v3 v4 v5 M11) else (((0 : Int32) = 0 ∨ (0 : Int32) = 1) ∧ Q 0 M11)) else (T_L_law_1677 κ28 Q sl xs v1 v2 v3 v4 v5 M11)) else (((0 : Int32) = 0 ∨ (0 : Int32) = 1) ∧ Q 0 M11))  v2 M9)  v2 (xs (Int32.toNatClampNeg (v5 + 1))) (xs (Int32.toNatClampNeg (v5 + 2))) (xs (Int32.toNatClampNeg (v5 + 3))) (xs (Int32.toNatClampNeg (v5 + 4))) (xs (Int32.toNatClampNeg (v5 + 5))) M6)  v1 (xs (Int32.toNatClampNeg (v5 + 1))) (xs (Int32.toNatClampNeg (v5 + 2))) (xs (Int32.toNatClampNeg (v5 + 3))) (xs (Int32.toNatClampNeg (v5 + 4))) (xs (Int32.toNatClampNeg (v5 + 5))) v3 M
set_option maxRecDepth 100000 in
set_option maxHeartbeats 4000000 in
theorem B_L_law_1576 {g : GG} {kr : Nat} (Q : Int32 → Mem → Prop) (κ28 : Nat → Nat → Nat → Nat → Int32 → Mem → Prop) (hκ28 : ∀ (v1 : Nat) (v2 : Nat) (v3 : Nat) (v4 : Nat) (v5 : Int32) (M : Mem), κ28 v1 v2 v3 v4 v5 M → WP g 20 mL_law 28 [some (.ref g.2.2.2.1), some (.ref (g.1 + v1)), some (.ref (g.1 + v2)), some (.ref (g.1 + v3)), some (.ref (g.1 + v4)), some (.int v5), none, none, none] [] M kr (oZ Q noX)) (v1 : Nat) (v2 : Nat) (v3 : Nat) (v4 : Nat) (v5 : Int32) (M : Mem) (h : T_L_law_1576 κ28 Q g.2.2.2.2.1 g.2.2.2.2.2 v1 v2 v3 v4 v5 M) : WP g 20 mL_law 1576 [some (.ref g.2.2.2.1), some (.ref (g.1 + v1)), some (.ref (g.1 + v2)), some (.ref (g.1 + v3)), some (.ref (g.1 + v4)), some (.int v5), none, none, none] [] M (kr + 2) (oZ Q noX) := by
  unfold T_L_law_1576 at h
  refine R_aload_n (pc := 1576) d_L_law_1576 rfl rfl ?_
  refine R_aload_n (pc := 1577) d_L_law_1577 rfl rfl ?_
  refine R_iload (pc := 1578) d_L_law_1578 rfl ?_
  refine R_iconst (pc := 1580) (v := 1) d_L_law_1580 (by decide) ?_
  refine R_iadd (pc := 1581) d_L_law_1581 ?_
  obtain ⟨k1, h⟩ := h
  refine R_sld (pc := 1582) k1 d_L_law_1582 ?_
  refine R_aload_n (pc := 1583) d_L_law_1583 rfl rfl ?_
  refine R_iload (pc := 1584) d_L_law_1584 rfl ?_
  refine R_iconst (pc := 1586) (v := 2) d_L_law_1586 (by decide) ?_
  refine R_iadd (pc := 1587) d_L_law_1587 ?_
  obtain ⟨k2, h⟩ := h
  refine R_sld (pc := 1588) k2 d_L_law_1588 ?_
  refine R_aload_n (pc := 1589) d_L_law_1589 rfl rfl ?_
  refine R_iload (pc := 1590) d_L_law_1590 rfl ?_
  refine R_iconst (pc := 1592) (v := 3) d_L_law_1592 (by decide) ?_
  refine R_iadd (pc := 1593) d_L_law_1593 ?_
  obtain ⟨k3, h⟩ := h
  refine R_sld (pc := 1594) k3 d_L_law_1594 ?_
  refine R_aload_n (pc := 1595) d_L_law_1595 rfl rfl ?_
  refine R_iload (pc := 1596) d_L_law_1596 rfl ?_
  refine R_iconst (pc := 1598) (v := 4) d_L_law_1598 (by decide) ?_
  refine R_iadd (pc := 1599) d_L_law_1599 ?_
  obtain ⟨k4, h⟩ := h
  refine R_sld (pc := 1600) k4 d_L_law_1600 ?_
  refine R_aload_n (pc := 1601) d_L_law_1601 rfl rfl ?_
  refine R_iload (pc := 1602) d_L_law_1602 rfl ?_
  refine R_iconst (pc := 1604) (v := 5) d_L_law_1604 (by decide) ?_
  refine R_iadd (pc := 1605) d_L_law_1605 ?_
  obtain ⟨k5, h⟩ := h
  refine R_sld (pc := 1606) k5 d_L_law_1606 ?_
  refine R_aload_n (pc := 1607) d_L_law_1607 rfl rfl ?_
  refine R_callSW (pc := 1608) (As := [.ref (g.1 + v1), .int (g.2.2.2.2.2 (Int32.toNatClampNeg (v5 + 1))), .int (g.2.2.2.2.2 (Int32.toNatClampNeg (v5 + 2))), .int (g.2.2.2.2.2 (Int32.toNatClampNeg (v5 + 3))), .int (g.2.2.2.2.2 (Int32.toNatClampNeg (v5 + 4))), .int (g.2.2.2.2.2 (Int32.toNatClampNeg (v5 + 5))), .ref (g.1 + v3)]) (rest := []) (c_L_ban (g := g) v1 (g.2.2.2.2.2 (Int32.toNatClampNeg (v5 + 1))) (g.2.2.2.2.2 (Int32.toNatClampNeg (v5 + 2))) (g.2.2.2.2.2 (Int32.toNatClampNeg (v5 + 3))) (g.2.2.2.2.2 (Int32.toNatClampNeg (v5 + 4))) (g.2.2.2.2.2 (Int32.toNatClampNeg (v5 + 5))) v3 M _ h) rfl rfl cal_RL_201 sta_L_ban (by decide) (by omega) rfl rfl (Nat.le_of_ble_eq_true rfl) d_L_law_1608 (k_I (fun y7 M6 h => ?_)) (fun _ _ h9 => False.elim h9)
  try dsimp only at h
  refine R_istore (pc := 1611) (L' := [some (.ref g.2.2.2.1), some (.ref (g.1 + v1)), some (.ref (g.1 + v2)), some (.ref (g.1 + v3)), some (.ref (g.1 + v4)), some (.int v5), some (.int y7), none, none]) d_L_law_1611 (by decide) rfl ?_
  refine R_aload_n (pc := 1613) d_L_law_1613 rfl rfl ?_
  refine R_aload_n (pc := 1614) d_L_law_1614 rfl rfl ?_
  refine R_iload (pc := 1615) d_L_law_1615 rfl ?_
  refine R_iconst (pc := 1617) (v := 1) d_L_law_1617 (by decide) ?_
  refine R_iadd (pc := 1618) d_L_law_1618 ?_
  refine R_sld (pc := 1619) k1 d_L_law_1619 ?_
  refine R_aload_n (pc := 1620) d_L_law_1620 rfl rfl ?_
  refine R_iload (pc := 1621) d_L_law_1621 rfl ?_
  refine R_iconst (pc := 1623) (v := 2) d_L_law_1623 (by decide) ?_
  refine R_iadd (pc := 1624) d_L_law_1624 ?_
  refine R_sld (pc := 1625) k2 d_L_law_1625 ?_
  refine R_aload_n (pc := 1626) d_L_law_1626 rfl rfl ?_
  refine R_iload (pc := 1627) d_L_law_1627 rfl ?_
  refine R_iconst (pc := 1629) (v := 3) d_L_law_1629 (by decide) ?_
  refine R_iadd (pc := 1630) d_L_law_1630 ?_
  refine R_sld (pc := 1631) k3 d_L_law_1631 ?_
  refine R_aload_n (pc := 1632) d_L_law_1632 rfl rfl ?_
  refine R_iload (pc := 1633) d_L_law_1633 rfl ?_
  refine R_iconst (pc := 1635) (v := 4) d_L_law_1635 (by decide) ?_
  refine R_iadd (pc := 1636) d_L_law_1636 ?_
  refine R_sld (pc := 1637) k4 d_L_law_1637 ?_
  refine R_aload_n (pc := 1638) d_L_law_1638 rfl rfl ?_
  refine R_iload (pc := 1639) d_L_law_1639 rfl ?_
  refine R_iconst (pc := 1641) (v := 5) d_L_law_1641 (by decide) ?_
  refine R_iadd (pc := 1642) d_L_law_1642 ?_
  refine R_sld (pc := 1643) k5 d_L_law_1643 ?_
  obtain ⟨k8, h⟩ := h
  refine R_callV (pc := 1644) (As := [.int (g.2.2.2.2.2 (Int32.toNatClampNeg (v5 + 1))), .int (g.2.2.2.2.2 (Int32.toNatClampNeg (v5 + 2))), .int (g.2.2.2.2.2 (Int32.toNatClampNeg (v5 + 3))), .int (g.2.2.2.2.2 (Int32.toNatClampNeg (v5 + 4))), .int (g.2.2.2.2.2 (Int32.toNatClampNeg (v5 + 5)))]) (rest := []) (c_X7_ban (g := g) v2 (g.2.2.2.2.2 (Int32.toNatClampNeg (v5 + 1))) (g.2.2.2.2.2 (Int32.toNatClampNeg (v5 + 2))) (g.2.2.2.2.2 (Int32.toNatClampNeg (v5 + 3))) (g.2.2.2.2.2 (Int32.toNatClampNeg (v5 + 4))) (g.2.2.2.2.2 (Int32.toNatClampNeg (v5 + 5))) M6 _ h) rfl rfl cal_RL_204 ins_X7_ban sel_X7_ban (cls_at k8 clsOK7) (by decide) (by omega) rfl rfl (Nat.le_of_ble_eq_true rfl) d_L_law_1644 (k_I (fun y10 M9 h => ?_)) (fun _ _ h9 => False.elim h9)
  try dsimp only at h
  refine R_istore (pc := 1647) (L' := [some (.ref g.2.2.2.1), some (.ref (g.1 + v1)), some (.ref (g.1 + v2)), some (.ref (g.1 + v3)), some (.ref (g.1 + v4)), some (.int v5), some (.int y7), some (.int y10), none]) d_L_law_1647 (by decide) rfl ?_
  refine R_aload_n (pc := 1649) d_L_law_1649 rfl rfl ?_
  refine R_callV (pc := 1650) (As := []) (rest := []) (c_X7_thrown (g := g) v2 M9 _ h) rfl rfl cal_RL_140 ins_X7_thrown sel_X7_thrown (cls_at k8 clsOK7) (by decide) (by omega) rfl rfl (Nat.le_of_ble_eq_true rfl) d_L_law_1650 (k_I (fun y12 M11 h => ?_)) (fun _ _ h9 => False.elim h9)
  try dsimp only at h
  refine R_iload (pc := 1653) d_L_law_1653 rfl ?_
  refine R_icmp_eq (pc := 1655) (tgt := 1660) d_L_law_1655 (by decide) (fun c => ?_) (fun c => ?_)
  · rw [if_pos c] at h
    refine R_iload (pc := 1660) d_L_law_1660 rfl ?_
    refine R_if_ne (pc := 1662) (tgt := 1677) d_L_law_1662 (by decide) (fun c => ?_) (fun c => ?_)
    · rw [if_neg c] at h
      exact WP_sub (B_L_law_1677 Q κ28 hκ28 v1 v2 v3 v4 v5 M11 h) (by omega) (ls_s (ls_s (ls_s (ls_s (ls_s (ls_s (ls_n (ls_n (ls_n ls_0)))))))))
    · rw [if_pos c] at h
      refine R_aload_n (pc := 1665) d_L_law_1665 rfl rfl ?_
      refine R_iconst (pc := 1666) (v := 0) d_L_law_1666 (by decide) ?_
      obtain ⟨k13, h⟩ := h
      obtain ⟨k14, h⟩ := h
      refine R_lald (pc := 1667) k13 k14 d_L_law_1667 ?_
      refine R_iload (pc := 1668) d_L_law_1668 rfl ?_
      refine R_i2l (pc := 1670) d_L_law_1670 ?_
      refine R_lcmp (pc := 1671) d_L_law_1671 ?_
      refine R_if_eq (pc := 1672) (tgt := 1677) d_L_law_1672 (by decide) (fun c => ?_) (fun c => ?_)
      · rw [if_pos c] at h
        exact WP_sub (B_L_law_1677 Q κ28 hκ28 v1 v2 v3 v4 v5 M11 h) (by omega) (ls_s (ls_s (ls_s (ls_s (ls_s (ls_s (ls_n (ls_n (ls_n ls_0)))))))))
      · rw [if_neg c] at h
        refine R_iconst (pc := 1675) (v := 0) d_L_law_1675 (by decide) ?_
        exact R_retv (pc := 1676) d_L_law_1676 h
  · rw [if_neg c] at h
    refine R_iconst (pc := 1658) (v := 0) d_L_law_1658 (by decide) ?_
    exact R_retv (pc := 1659) d_L_law_1659 h
def T_L_law_1573 (κ28 : Nat → Nat → Nat → Nat → Int32 → Mem → Prop) (Q : Int32 → Mem → Prop) (sl : Nat) (xs : Nat → Int32) (v1 : Nat) (v2 : Nat) (v3 : Nat) (v4 : Nat) (v5 : Int32) (M : Mem) : Prop := T_L_law_2534 κ28 Q sl xs v1 v2 v3 v4 v5 M
set_option maxRecDepth 100000 in
set_option maxHeartbeats 4000000 in
theorem B_L_law_1573 {g : GG} {kr : Nat} (Q : Int32 → Mem → Prop) (κ28 : Nat → Nat → Nat → Nat → Int32 → Mem → Prop) (hκ28 : ∀ (v1 : Nat) (v2 : Nat) (v3 : Nat) (v4 : Nat) (v5 : Int32) (M : Mem), κ28 v1 v2 v3 v4 v5 M → WP g 20 mL_law 28 [some (.ref g.2.2.2.1), some (.ref (g.1 + v1)), some (.ref (g.1 + v2)), some (.ref (g.1 + v3)), some (.ref (g.1 + v4)), some (.int v5), none, none, none] [] M kr (oZ Q noX)) (v1 : Nat) (v2 : Nat) (v3 : Nat) (v4 : Nat) (v5 : Int32) (M : Mem) (h : T_L_law_1573 κ28 Q g.2.2.2.2.1 g.2.2.2.2.2 v1 v2 v3 v4 v5 M) : WP g 20 mL_law 1573 [some (.ref g.2.2.2.1), some (.ref (g.1 + v1)), some (.ref (g.1 + v2)), some (.ref (g.1 + v3)), some (.ref (g.1 + v4)), some (.int v5), none, none, none] [] M (kr + 1) (oZ Q noX) := by
  unfold T_L_law_1573 at h
  refine R_goto (pc := 1573) (tgt := 2534) d_L_law_1573 (by decide) ?_
  exact WP_sub (B_L_law_2534 Q κ28 hκ28 v1 v2 v3 v4 v5 M h) (by omega) (ls_s (ls_s (ls_s (ls_s (ls_s (ls_s (ls_n (ls_n (ls_n ls_0)))))))))
def T_L_law_1520 (κ28 : Nat → Nat → Nat → Nat → Int32 → Mem → Prop) (Q : Int32 → Mem → Prop) (sl : Nat) (xs : Nat → Int32) (v1 : Nat) (v2 : Nat) (v3 : Nat) (v4 : Nat) (v5 : Int32) (M : Mem) : Prop := (vp_in (v5 + 1) sl) ∧ T_L_pass (fun y3 M2 => (kd v2 = 7) ∧ T_X7_pass (fun y6 M5 => T_X7_thrown (fun y8 M7 => if y8 = y3 then (if y3 = 0 then ((kd v3 = 12) ∧ (vp_in 0 (ln v3)) ∧ if (lg_cmp (M7.2.1 (Int32.toNatClampNeg 0)) (Int32.toInt64 y6)) = 0 then (T_L_law_1573 κ28 Q sl xs v1 v2 v3 v4 v5 M7) else (((0 : Int32) = 0 ∨ (0 : Int32) = 1) ∧ Q 0 M7)) else (T_L_law_1573 κ28 Q sl xs v1 v2 v3 v4 v5 M7)) else (((0 : Int32) = 0 ∨ (0 : Int32) = 1) ∧ Q 0 M7))  v2 M5)  v2 (xs (Int32.toNatClampNeg (v5 + 1))) M2)  v1 (xs (Int32.toNatClampNeg (v5 + 1))) v3 M
set_option maxRecDepth 100000 in
set_option maxHeartbeats 4000000 in
theorem B_L_law_1520 {g : GG} {kr : Nat} (Q : Int32 → Mem → Prop) (κ28 : Nat → Nat → Nat → Nat → Int32 → Mem → Prop) (hκ28 : ∀ (v1 : Nat) (v2 : Nat) (v3 : Nat) (v4 : Nat) (v5 : Int32) (M : Mem), κ28 v1 v2 v3 v4 v5 M → WP g 20 mL_law 28 [some (.ref g.2.2.2.1), some (.ref (g.1 + v1)), some (.ref (g.1 + v2)), some (.ref (g.1 + v3)), some (.ref (g.1 + v4)), some (.int v5), none, none, none] [] M kr (oZ Q noX)) (v1 : Nat) (v2 : Nat) (v3 : Nat) (v4 : Nat) (v5 : Int32) (M : Mem) (h : T_L_law_1520 κ28 Q g.2.2.2.2.1 g.2.2.2.2.2 v1 v2 v3 v4 v5 M) : WP g 20 mL_law 1520 [some (.ref g.2.2.2.1), some (.ref (g.1 + v1)), some (.ref (g.1 + v2)), some (.ref (g.1 + v3)), some (.ref (g.1 + v4)), some (.int v5), none, none, none] [] M (kr + 2) (oZ Q noX) := by
  unfold T_L_law_1520 at h
  refine R_aload_n (pc := 1520) d_L_law_1520 rfl rfl ?_
  refine R_aload_n (pc := 1521) d_L_law_1521 rfl rfl ?_
  refine R_iload (pc := 1522) d_L_law_1522 rfl ?_
  refine R_iconst (pc := 1524) (v := 1) d_L_law_1524 (by decide) ?_
  refine R_iadd (pc := 1525) d_L_law_1525 ?_
  obtain ⟨k1, h⟩ := h
  refine R_sld (pc := 1526) k1 d_L_law_1526 ?_
  refine R_aload_n (pc := 1527) d_L_law_1527 rfl rfl ?_
  refine R_callSW (pc := 1528) (As := [.ref (g.1 + v1), .int (g.2.2.2.2.2 (Int32.toNatClampNeg (v5 + 1))), .ref (g.1 + v3)]) (rest := []) (c_L_pass (g := g) v1 (g.2.2.2.2.2 (Int32.toNatClampNeg (v5 + 1))) v3 M _ h) rfl rfl cal_RL_198 sta_L_pass (by decide) (by omega) rfl rfl (Nat.le_of_ble_eq_true rfl) d_L_law_1528 (k_I (fun y3 M2 h => ?_)) (fun _ _ h9 => False.elim h9)
  try dsimp only at h
  refine R_istore (pc := 1531) (L' := [some (.ref g.2.2.2.1), some (.ref (g.1 + v1)), some (.ref (g.1 + v2)), some (.ref (g.1 + v3)), some (.ref (g.1 + v4)), some (.int v5), some (.int y3), none, none]) d_L_law_1531 (by decide) rfl ?_
  refine R_aload_n (pc := 1533) d_L_law_1533 rfl rfl ?_
  refine R_aload_n (pc := 1534) d_L_law_1534 rfl rfl ?_
  refine R_iload (pc := 1535) d_L_law_1535 rfl ?_
  refine R_iconst (pc := 1537) (v := 1) d_L_law_1537 (by decide) ?_
  refine R_iadd (pc := 1538) d_L_law_1538 ?_
  refine R_sld (pc := 1539) k1 d_L_law_1539 ?_
  obtain ⟨k4, h⟩ := h
  refine R_callV (pc := 1540) (As := [.int (g.2.2.2.2.2 (Int32.toNatClampNeg (v5 + 1)))]) (rest := []) (c_X7_pass (g := g) v2 (g.2.2.2.2.2 (Int32.toNatClampNeg (v5 + 1))) M2 _ h) rfl rfl cal_RL_200 ins_X7_pass sel_X7_pass (cls_at k4 clsOK7) (by decide) (by omega) rfl rfl (Nat.le_of_ble_eq_true rfl) d_L_law_1540 (k_I (fun y6 M5 h => ?_)) (fun _ _ h9 => False.elim h9)
  try dsimp only at h
  refine R_istore (pc := 1543) (L' := [some (.ref g.2.2.2.1), some (.ref (g.1 + v1)), some (.ref (g.1 + v2)), some (.ref (g.1 + v3)), some (.ref (g.1 + v4)), some (.int v5), some (.int y3), some (.int y6), none]) d_L_law_1543 (by decide) rfl ?_
  refine R_aload_n (pc := 1545) d_L_law_1545 rfl rfl ?_
  refine R_callV (pc := 1546) (As := []) (rest := []) (c_X7_thrown (g := g) v2 M5 _ h) rfl rfl cal_RL_140 ins_X7_thrown sel_X7_thrown (cls_at k4 clsOK7) (by decide) (by omega) rfl rfl (Nat.le_of_ble_eq_true rfl) d_L_law_1546 (k_I (fun y8 M7 h => ?_)) (fun _ _ h9 => False.elim h9)
  try dsimp only at h
  refine R_iload (pc := 1549) d_L_law_1549 rfl ?_
  refine R_icmp_eq (pc := 1551) (tgt := 1556) d_L_law_1551 (by decide) (fun c => ?_) (fun c => ?_)
  · rw [if_pos c] at h
    refine R_iload (pc := 1556) d_L_law_1556 rfl ?_
    refine R_if_ne (pc := 1558) (tgt := 1573) d_L_law_1558 (by decide) (fun c => ?_) (fun c => ?_)
    · rw [if_neg c] at h
      exact WP_sub (B_L_law_1573 Q κ28 hκ28 v1 v2 v3 v4 v5 M7 h) (by omega) (ls_s (ls_s (ls_s (ls_s (ls_s (ls_s (ls_n (ls_n (ls_n ls_0)))))))))
    · rw [if_pos c] at h
      refine R_aload_n (pc := 1561) d_L_law_1561 rfl rfl ?_
      refine R_iconst (pc := 1562) (v := 0) d_L_law_1562 (by decide) ?_
      obtain ⟨k9, h⟩ := h
      obtain ⟨k10, h⟩ := h
      refine R_lald (pc := 1563) k9 k10 d_L_law_1563 ?_
      refine R_iload (pc := 1564) d_L_law_1564 rfl ?_
      refine R_i2l (pc := 1566) d_L_law_1566 ?_
      refine R_lcmp (pc := 1567) d_L_law_1567 ?_
      refine R_if_eq (pc := 1568) (tgt := 1573) d_L_law_1568 (by decide) (fun c => ?_) (fun c => ?_)
      · rw [if_pos c] at h
        exact WP_sub (B_L_law_1573 Q κ28 hκ28 v1 v2 v3 v4 v5 M7 h) (by omega) (ls_s (ls_s (ls_s (ls_s (ls_s (ls_s (ls_n (ls_n (ls_n ls_0)))))))))
      · rw [if_neg c] at h
        refine R_iconst (pc := 1571) (v := 0) d_L_law_1571 (by decide) ?_
        exact R_retv (pc := 1572) d_L_law_1572 h
  · rw [if_neg c] at h
    refine R_iconst (pc := 1554) (v := 0) d_L_law_1554 (by decide) ?_
    exact R_retv (pc := 1555) d_L_law_1555 h
def T_L_law_1517 (κ28 : Nat → Nat → Nat → Nat → Int32 → Mem → Prop) (Q : Int32 → Mem → Prop) (sl : Nat) (xs : Nat → Int32) (v1 : Nat) (v2 : Nat) (v3 : Nat) (v4 : Nat) (v5 : Int32) (M : Mem) : Prop := T_L_law_2534 κ28 Q sl xs v1 v2 v3 v4 v5 M
set_option maxRecDepth 100000 in
set_option maxHeartbeats 4000000 in
theorem B_L_law_1517 {g : GG} {kr : Nat} (Q : Int32 → Mem → Prop) (κ28 : Nat → Nat → Nat → Nat → Int32 → Mem → Prop) (hκ28 : ∀ (v1 : Nat) (v2 : Nat) (v3 : Nat) (v4 : Nat) (v5 : Int32) (M : Mem), κ28 v1 v2 v3 v4 v5 M → WP g 20 mL_law 28 [some (.ref g.2.2.2.1), some (.ref (g.1 + v1)), some (.ref (g.1 + v2)), some (.ref (g.1 + v3)), some (.ref (g.1 + v4)), some (.int v5), none, none, none] [] M kr (oZ Q noX)) (v1 : Nat) (v2 : Nat) (v3 : Nat) (v4 : Nat) (v5 : Int32) (M : Mem) (h : T_L_law_1517 κ28 Q g.2.2.2.2.1 g.2.2.2.2.2 v1 v2 v3 v4 v5 M) : WP g 20 mL_law 1517 [some (.ref g.2.2.2.1), some (.ref (g.1 + v1)), some (.ref (g.1 + v2)), some (.ref (g.1 + v3)), some (.ref (g.1 + v4)), some (.int v5), none, none, none] [] M (kr + 1) (oZ Q noX) := by
  unfold T_L_law_1517 at h
  refine R_goto (pc := 1517) (tgt := 2534) d_L_law_1517 (by decide) ?_
  exact WP_sub (B_L_law_2534 Q κ28 hκ28 v1 v2 v3 v4 v5 M h) (by omega) (ls_s (ls_s (ls_s (ls_s (ls_s (ls_s (ls_n (ls_n (ls_n ls_0)))))))))
def T_L_law_1484 (κ28 : Nat → Nat → Nat → Nat → Int32 → Mem → Prop) (Q : Int32 → Mem → Prop) (sl : Nat) (xs : Nat → Int32) (v1 : Nat) (v2 : Nat) (v3 : Nat) (v4 : Nat) (v5 : Int32) (v6 : Int32) (s0 : Int32) (s1 : Int32) (s2 : Int32) (s3 : Nat) (M : Mem) : Prop := (kd s3 = 7) ∧ T_X7_slot (fun y3 M2 => (kd v2 = 7) ∧ T_X7_thrown (fun y6 M5 => if y6 = v6 then (if v6 = 0 then ((kd v3 = 12) ∧ (vp_in 0 (ln v3)) ∧ if (lg_cmp (M5.2.1 (Int32.toNatClampNeg 0)) (Int32.toInt64 y3)) = 0 then (T_L_law_1517 κ28 Q sl xs v1 v2 v3 v4 v5 M5) else (((0 : Int32) = 0 ∨ (0 : Int32) = 1) ∧ Q 0 M5)) else (T_L_law_1517 κ28 Q sl xs v1 v2 v3 v4 v5 M5)) else (((0 : Int32) = 0 ∨ (0 : Int32) = 1) ∧ Q 0 M5))  v2 M2)  s3 s2 s1 s0 M
set_option maxRecDepth 100000 in
set_option maxHeartbeats 4000000 in
theorem B_L_law_1484 {g : GG} {kr : Nat} (Q : Int32 → Mem → Prop) (κ28 : Nat → Nat → Nat → Nat → Int32 → Mem → Prop) (hκ28 : ∀ (v1 : Nat) (v2 : Nat) (v3 : Nat) (v4 : Nat) (v5 : Int32) (M : Mem), κ28 v1 v2 v3 v4 v5 M → WP g 20 mL_law 28 [some (.ref g.2.2.2.1), some (.ref (g.1 + v1)), some (.ref (g.1 + v2)), some (.ref (g.1 + v3)), some (.ref (g.1 + v4)), some (.int v5), none, none, none] [] M kr (oZ Q noX)) (v1 : Nat) (v2 : Nat) (v3 : Nat) (v4 : Nat) (v5 : Int32) (v6 : Int32) (s0 : Int32) (s1 : Int32) (s2 : Int32) (s3 : Nat) (M : Mem) (h : T_L_law_1484 κ28 Q g.2.2.2.2.1 g.2.2.2.2.2 v1 v2 v3 v4 v5 v6 s0 s1 s2 s3 M) : WP g 20 mL_law 1484 [some (.ref g.2.2.2.1), some (.ref (g.1 + v1)), some (.ref (g.1 + v2)), some (.ref (g.1 + v3)), some (.ref (g.1 + v4)), some (.int v5), some (.int v6), none, none] [.int s0, .int s1, .int s2, .ref (g.1 + s3)] M (kr + 1) (oZ Q noX) := by
  unfold T_L_law_1484 at h
  obtain ⟨k1, h⟩ := h
  refine R_callV (pc := 1484) (As := [.int s2, .int s1, .int s0]) (rest := []) (c_X7_slot (g := g) s3 s2 s1 s0 M _ h) rfl rfl cal_RL_197 ins_X7_slot sel_X7_slot (cls_at k1 clsOK7) (by decide) (by omega) rfl rfl (Nat.le_of_ble_eq_true rfl) d_L_law_1484 (k_I (fun y3 M2 h => ?_)) (fun _ _ h9 => False.elim h9)
  try dsimp only at h
  refine R_istore (pc := 1487) (L' := [some (.ref g.2.2.2.1), some (.ref (g.1 + v1)), some (.ref (g.1 + v2)), some (.ref (g.1 + v3)), some (.ref (g.1 + v4)), some (.int v5), some (.int v6), some (.int y3), none]) d_L_law_1487 (by decide) rfl ?_
  refine R_aload_n (pc := 1489) d_L_law_1489 rfl rfl ?_
  obtain ⟨k4, h⟩ := h
  refine R_callV (pc := 1490) (As := []) (rest := []) (c_X7_thrown (g := g) v2 M2 _ h) rfl rfl cal_RL_140 ins_X7_thrown sel_X7_thrown (cls_at k4 clsOK7) (by decide) (by omega) rfl rfl (Nat.le_of_ble_eq_true rfl) d_L_law_1490 (k_I (fun y6 M5 h => ?_)) (fun _ _ h9 => False.elim h9)
  try dsimp only at h
  refine R_iload (pc := 1493) d_L_law_1493 rfl ?_
  refine R_icmp_eq (pc := 1495) (tgt := 1500) d_L_law_1495 (by decide) (fun c => ?_) (fun c => ?_)
  · rw [if_pos c] at h
    refine R_iload (pc := 1500) d_L_law_1500 rfl ?_
    refine R_if_ne (pc := 1502) (tgt := 1517) d_L_law_1502 (by decide) (fun c => ?_) (fun c => ?_)
    · rw [if_neg c] at h
      exact WP_sub (B_L_law_1517 Q κ28 hκ28 v1 v2 v3 v4 v5 M5 h) (by omega) (ls_s (ls_s (ls_s (ls_s (ls_s (ls_s (ls_n (ls_n (ls_n ls_0)))))))))
    · rw [if_pos c] at h
      refine R_aload_n (pc := 1505) d_L_law_1505 rfl rfl ?_
      refine R_iconst (pc := 1506) (v := 0) d_L_law_1506 (by decide) ?_
      obtain ⟨k7, h⟩ := h
      obtain ⟨k8, h⟩ := h
      refine R_lald (pc := 1507) k7 k8 d_L_law_1507 ?_
      refine R_iload (pc := 1508) d_L_law_1508 rfl ?_
      refine R_i2l (pc := 1510) d_L_law_1510 ?_
      refine R_lcmp (pc := 1511) d_L_law_1511 ?_
      refine R_if_eq (pc := 1512) (tgt := 1517) d_L_law_1512 (by decide) (fun c => ?_) (fun c => ?_)
      · rw [if_pos c] at h
        exact WP_sub (B_L_law_1517 Q κ28 hκ28 v1 v2 v3 v4 v5 M5 h) (by omega) (ls_s (ls_s (ls_s (ls_s (ls_s (ls_s (ls_n (ls_n (ls_n ls_0)))))))))
      · rw [if_neg c] at h
        refine R_iconst (pc := 1515) (v := 0) d_L_law_1515 (by decide) ?_
        exact R_retv (pc := 1516) d_L_law_1516 h
  · rw [if_neg c] at h
    refine R_iconst (pc := 1498) (v := 0) d_L_law_1498 (by decide) ?_
    exact R_retv (pc := 1499) d_L_law_1499 h
def T_L_law_1451 (κ28 : Nat → Nat → Nat → Nat → Int32 → Mem → Prop) (Q : Int32 → Mem → Prop) (sl : Nat) (xs : Nat → Int32) (v1 : Nat) (v2 : Nat) (v3 : Nat) (v4 : Nat) (v5 : Int32) (s0 : Int32) (s1 : Int32) (s2 : Int32) (s3 : Nat) (M : Mem) : Prop := T_L_slot (fun y2 M1 => (vp_in (v5 + 1) sl) ∧ (vp_in (v5 + 2) sl) ∧ (vp_in (v5 + 3) sl) ∧ if (xs (Int32.toNatClampNeg (v5 + 3))) = 0 then (T_L_law_1484 κ28 Q sl xs v1 v2 v3 v4 v5 y2 0 (xs (Int32.toNatClampNeg (v5 + 2))) (xs (Int32.toNatClampNeg (v5 + 1))) v2 M1) else (T_L_law_1484 κ28 Q sl xs v1 v2 v3 v4 v5 y2 1 (xs (Int32.toNatClampNeg (v5 + 2))) (xs (Int32.toNatClampNeg (v5 + 1))) v2 M1))  s3 s2 s1 s0 v3 M
set_option maxRecDepth 100000 in
set_option maxHeartbeats 4000000 in
theorem B_L_law_1451 {g : GG} {kr : Nat} (Q : Int32 → Mem → Prop) (κ28 : Nat → Nat → Nat → Nat → Int32 → Mem → Prop) (hκ28 : ∀ (v1 : Nat) (v2 : Nat) (v3 : Nat) (v4 : Nat) (v5 : Int32) (M : Mem), κ28 v1 v2 v3 v4 v5 M → WP g 20 mL_law 28 [some (.ref g.2.2.2.1), some (.ref (g.1 + v1)), some (.ref (g.1 + v2)), some (.ref (g.1 + v3)), some (.ref (g.1 + v4)), some (.int v5), none, none, none] [] M kr (oZ Q noX)) (v1 : Nat) (v2 : Nat) (v3 : Nat) (v4 : Nat) (v5 : Int32) (s0 : Int32) (s1 : Int32) (s2 : Int32) (s3 : Nat) (M : Mem) (h : T_L_law_1451 κ28 Q g.2.2.2.2.1 g.2.2.2.2.2 v1 v2 v3 v4 v5 s0 s1 s2 s3 M) : WP g 20 mL_law 1451 [some (.ref g.2.2.2.1), some (.ref (g.1 + v1)), some (.ref (g.1 + v2)), some (.ref (g.1 + v3)), some (.ref (g.1 + v4)), some (.int v5), none, none, none] [.int s0, .int s1, .int s2, .ref (g.1 + s3)] M (kr + 2) (oZ Q noX) := by
  unfold T_L_law_1451 at h
  refine R_aload_n (pc := 1451) d_L_law_1451 rfl rfl ?_
  refine R_callSW (pc := 1452) (As := [.ref (g.1 + s3), .int s2, .int s1, .int s0, .ref (g.1 + v3)]) (rest := []) (c_L_slot (g := g) s3 s2 s1 s0 v3 M _ h) rfl rfl cal_RL_195 sta_L_slot (by decide) (by omega) rfl rfl (Nat.le_of_ble_eq_true rfl) d_L_law_1452 (k_I (fun y2 M1 h => ?_)) (fun _ _ h9 => False.elim h9)
  try dsimp only at h
  refine R_istore (pc := 1455) (L' := [some (.ref g.2.2.2.1), some (.ref (g.1 + v1)), some (.ref (g.1 + v2)), some (.ref (g.1 + v3)), some (.ref (g.1 + v4)), some (.int v5), some (.int y2), none, none]) d_L_law_1455 (by decide) rfl ?_
  refine R_aload_n (pc := 1457) d_L_law_1457 rfl rfl ?_
  refine R_aload_n (pc := 1458) d_L_law_1458 rfl rfl ?_
  refine R_iload (pc := 1459) d_L_law_1459 rfl ?_
  refine R_iconst (pc := 1461) (v := 1) d_L_law_1461 (by decide) ?_
  refine R_iadd (pc := 1462) d_L_law_1462 ?_
  obtain ⟨k3, h⟩ := h
  refine R_sld (pc := 1463) k3 d_L_law_1463 ?_
  refine R_aload_n (pc := 1464) d_L_law_1464 rfl rfl ?_
  refine R_iload (pc := 1465) d_L_law_1465 rfl ?_
  refine R_iconst (pc := 1467) (v := 2) d_L_law_1467 (by decide) ?_
  refine R_iadd (pc := 1468) d_L_law_1468 ?_
  obtain ⟨k4, h⟩ := h
  refine R_sld (pc := 1469) k4 d_L_law_1469 ?_
  refine R_aload_n (pc := 1470) d_L_law_1470 rfl rfl ?_
  refine R_iload (pc := 1471) d_L_law_1471 rfl ?_
  refine R_iconst (pc := 1473) (v := 3) d_L_law_1473 (by decide) ?_
  refine R_iadd (pc := 1474) d_L_law_1474 ?_
  obtain ⟨k5, h⟩ := h
  refine R_sld (pc := 1475) k5 d_L_law_1475 ?_
  refine R_if_eq (pc := 1476) (tgt := 1483) d_L_law_1476 (by decide) (fun c => ?_) (fun c => ?_)
  · rw [if_pos c] at h
    refine R_iconst (pc := 1483) (v := 0) d_L_law_1483 (by decide) ?_
    exact WP_sub (B_L_law_1484 Q κ28 hκ28 v1 v2 v3 v4 v5 y2 0 (g.2.2.2.2.2 (Int32.toNatClampNeg (v5 + 2))) (g.2.2.2.2.2 (Int32.toNatClampNeg (v5 + 1))) v2 M1 h) (by omega) (ls_s (ls_s (ls_s (ls_s (ls_s (ls_s (ls_s (ls_n (ls_n ls_0)))))))))
  · rw [if_neg c] at h
    refine R_iconst (pc := 1479) (v := 1) d_L_law_1479 (by decide) ?_
    refine R_goto (pc := 1480) (tgt := 1484) d_L_law_1480 (by decide) ?_
    exact WP_sub (B_L_law_1484 Q κ28 hκ28 v1 v2 v3 v4 v5 y2 1 (g.2.2.2.2.2 (Int32.toNatClampNeg (v5 + 2))) (g.2.2.2.2.2 (Int32.toNatClampNeg (v5 + 1))) v2 M1 h) (by omega) (ls_s (ls_s (ls_s (ls_s (ls_s (ls_s (ls_s (ls_n (ls_n ls_0)))))))))
