def T_L_law_1424 (κ28 : Nat → Nat → Nat → Nat → Int32 → Mem → Prop) (Q : Int32 → Mem → Prop) (sl : Nat) (xs : Nat → Int32) (v1 : Nat) (v2 : Nat) (v3 : Nat) (v4 : Nat) (v5 : Int32) (M : Mem) : Prop := (vp_in (v5 + 1) sl) ∧ (vp_in (v5 + 2) sl) ∧ (vp_in (v5 + 3) sl) ∧ if (xs (Int32.toNatClampNeg (v5 + 3))) = 0 then (T_L_law_1451 κ28 Q sl xs v1 v2 v3 v4 v5 0 (xs (Int32.toNatClampNeg (v5 + 2))) (xs (Int32.toNatClampNeg (v5 + 1))) v1 M) else (T_L_law_1451 κ28 Q sl xs v1 v2 v3 v4 v5 1 (xs (Int32.toNatClampNeg (v5 + 2))) (xs (Int32.toNatClampNeg (v5 + 1))) v1 M)
set_option maxRecDepth 100000 in
set_option maxHeartbeats 4000000 in
theorem B_L_law_1424 {g : GG} {kr : Nat} (Q : Int32 → Mem → Prop) (κ28 : Nat → Nat → Nat → Nat → Int32 → Mem → Prop) (hκ28 : ∀ (v1 : Nat) (v2 : Nat) (v3 : Nat) (v4 : Nat) (v5 : Int32) (M : Mem), κ28 v1 v2 v3 v4 v5 M → WP g 20 mL_law 28 [some (.ref g.2.2.2.1), some (.ref (g.1 + v1)), some (.ref (g.1 + v2)), some (.ref (g.1 + v3)), some (.ref (g.1 + v4)), some (.int v5), none, none, none] [] M kr (oZ Q noX)) (v1 : Nat) (v2 : Nat) (v3 : Nat) (v4 : Nat) (v5 : Int32) (M : Mem) (h : T_L_law_1424 κ28 Q g.2.2.2.2.1 g.2.2.2.2.2 v1 v2 v3 v4 v5 M) : WP g 20 mL_law 1424 [some (.ref g.2.2.2.1), some (.ref (g.1 + v1)), some (.ref (g.1 + v2)), some (.ref (g.1 + v3)), some (.ref (g.1 + v4)), some (.int v5), none, none, none] [] M (kr + 2) (oZ Q noX) := by
  unfold T_L_law_1424 at h
  refine R_aload_n (pc := 1424) d_L_law_1424 rfl rfl ?_
  refine R_aload_n (pc := 1425) d_L_law_1425 rfl rfl ?_
  refine R_iload (pc := 1426) d_L_law_1426 rfl ?_
  refine R_iconst (pc := 1428) (v := 1) d_L_law_1428 (by decide) ?_
  refine R_iadd (pc := 1429) d_L_law_1429 ?_
  obtain ⟨k1, h⟩ := h
  refine R_sld (pc := 1430) k1 d_L_law_1430 ?_
  refine R_aload_n (pc := 1431) d_L_law_1431 rfl rfl ?_
  refine R_iload (pc := 1432) d_L_law_1432 rfl ?_
  refine R_iconst (pc := 1434) (v := 2) d_L_law_1434 (by decide) ?_
  refine R_iadd (pc := 1435) d_L_law_1435 ?_
  obtain ⟨k2, h⟩ := h
  refine R_sld (pc := 1436) k2 d_L_law_1436 ?_
  refine R_aload_n (pc := 1437) d_L_law_1437 rfl rfl ?_
  refine R_iload (pc := 1438) d_L_law_1438 rfl ?_
  refine R_iconst (pc := 1440) (v := 3) d_L_law_1440 (by decide) ?_
  refine R_iadd (pc := 1441) d_L_law_1441 ?_
  obtain ⟨k3, h⟩ := h
  refine R_sld (pc := 1442) k3 d_L_law_1442 ?_
  refine R_if_eq (pc := 1443) (tgt := 1450) d_L_law_1443 (by decide) (fun c => ?_) (fun c => ?_)
  · rw [if_pos c] at h
    refine R_iconst (pc := 1450) (v := 0) d_L_law_1450 (by decide) ?_
    exact WP_sub (B_L_law_1451 Q κ28 hκ28 v1 v2 v3 v4 v5 0 (g.2.2.2.2.2 (Int32.toNatClampNeg (v5 + 2))) (g.2.2.2.2.2 (Int32.toNatClampNeg (v5 + 1))) v1 M h) (by omega) (ls_s (ls_s (ls_s (ls_s (ls_s (ls_s (ls_n (ls_n (ls_n ls_0)))))))))
  · rw [if_neg c] at h
    refine R_iconst (pc := 1446) (v := 1) d_L_law_1446 (by decide) ?_
    refine R_goto (pc := 1447) (tgt := 1451) d_L_law_1447 (by decide) ?_
    exact WP_sub (B_L_law_1451 Q κ28 hκ28 v1 v2 v3 v4 v5 1 (g.2.2.2.2.2 (Int32.toNatClampNeg (v5 + 2))) (g.2.2.2.2.2 (Int32.toNatClampNeg (v5 + 1))) v1 M h) (by omega) (ls_s (ls_s (ls_s (ls_s (ls_s (ls_s (ls_n (ls_n (ls_n ls_0)))))))))
def T_L_law_1421 (κ28 : Nat → Nat → Nat → Nat → Int32 → Mem → Prop) (Q : Int32 → Mem → Prop) (sl : Nat) (xs : Nat → Int32) (v1 : Nat) (v2 : Nat) (v3 : Nat) (v4 : Nat) (v5 : Int32) (M : Mem) : Prop := T_L_law_2534 κ28 Q sl xs v1 v2 v3 v4 v5 M
set_option maxRecDepth 100000 in
set_option maxHeartbeats 4000000 in
theorem B_L_law_1421 {g : GG} {kr : Nat} (Q : Int32 → Mem → Prop) (κ28 : Nat → Nat → Nat → Nat → Int32 → Mem → Prop) (hκ28 : ∀ (v1 : Nat) (v2 : Nat) (v3 : Nat) (v4 : Nat) (v5 : Int32) (M : Mem), κ28 v1 v2 v3 v4 v5 M → WP g 20 mL_law 28 [some (.ref g.2.2.2.1), some (.ref (g.1 + v1)), some (.ref (g.1 + v2)), some (.ref (g.1 + v3)), some (.ref (g.1 + v4)), some (.int v5), none, none, none] [] M kr (oZ Q noX)) (v1 : Nat) (v2 : Nat) (v3 : Nat) (v4 : Nat) (v5 : Int32) (M : Mem) (h : T_L_law_1421 κ28 Q g.2.2.2.2.1 g.2.2.2.2.2 v1 v2 v3 v4 v5 M) : WP g 20 mL_law 1421 [some (.ref g.2.2.2.1), some (.ref (g.1 + v1)), some (.ref (g.1 + v2)), some (.ref (g.1 + v3)), some (.ref (g.1 + v4)), some (.int v5), none, none, none] [] M (kr + 1) (oZ Q noX) := by
  unfold T_L_law_1421 at h
  refine R_goto (pc := 1421) (tgt := 2534) d_L_law_1421 (by decide) ?_
  exact WP_sub (B_L_law_2534 Q κ28 hκ28 v1 v2 v3 v4 v5 M h) (by omega) (ls_s (ls_s (ls_s (ls_s (ls_s (ls_s (ls_n (ls_n (ls_n ls_0)))))))))
def T_L_law_1368 (κ28 : Nat → Nat → Nat → Nat → Int32 → Mem → Prop) (Q : Int32 → Mem → Prop) (sl : Nat) (xs : Nat → Int32) (v1 : Nat) (v2 : Nat) (v3 : Nat) (v4 : Nat) (v5 : Int32) (M : Mem) : Prop := (vp_in (v5 + 1) sl) ∧ T_L_next (fun y3 M2 => (kd v2 = 7) ∧ T_X7_next (fun y6 M5 => T_X7_thrown (fun y8 M7 => if y8 = y3 then (if y3 = 0 then ((kd v3 = 12) ∧ (vp_in 0 (ln v3)) ∧ if (lg_cmp (M7.2.1 (Int32.toNatClampNeg 0)) (Int32.toInt64 y6)) = 0 then (T_L_law_1421 κ28 Q sl xs v1 v2 v3 v4 v5 M7) else (((0 : Int32) = 0 ∨ (0 : Int32) = 1) ∧ Q 0 M7)) else (T_L_law_1421 κ28 Q sl xs v1 v2 v3 v4 v5 M7)) else (((0 : Int32) = 0 ∨ (0 : Int32) = 1) ∧ Q 0 M7))  v2 M5)  v2 (xs (Int32.toNatClampNeg (v5 + 1))) M2)  v1 (xs (Int32.toNatClampNeg (v5 + 1))) v3 M
set_option maxRecDepth 100000 in
set_option maxHeartbeats 4000000 in
theorem B_L_law_1368 {g : GG} {kr : Nat} (Q : Int32 → Mem → Prop) (κ28 : Nat → Nat → Nat → Nat → Int32 → Mem → Prop) (hκ28 : ∀ (v1 : Nat) (v2 : Nat) (v3 : Nat) (v4 : Nat) (v5 : Int32) (M : Mem), κ28 v1 v2 v3 v4 v5 M → WP g 20 mL_law 28 [some (.ref g.2.2.2.1), some (.ref (g.1 + v1)), some (.ref (g.1 + v2)), some (.ref (g.1 + v3)), some (.ref (g.1 + v4)), some (.int v5), none, none, none] [] M kr (oZ Q noX)) (v1 : Nat) (v2 : Nat) (v3 : Nat) (v4 : Nat) (v5 : Int32) (M : Mem) (h : T_L_law_1368 κ28 Q g.2.2.2.2.1 g.2.2.2.2.2 v1 v2 v3 v4 v5 M) : WP g 20 mL_law 1368 [some (.ref g.2.2.2.1), some (.ref (g.1 + v1)), some (.ref (g.1 + v2)), some (.ref (g.1 + v3)), some (.ref (g.1 + v4)), some (.int v5), none, none, none] [] M (kr + 2) (oZ Q noX) := by
  unfold T_L_law_1368 at h
  refine R_aload_n (pc := 1368) d_L_law_1368 rfl rfl ?_
  refine R_aload_n (pc := 1369) d_L_law_1369 rfl rfl ?_
  refine R_iload (pc := 1370) d_L_law_1370 rfl ?_
  refine R_iconst (pc := 1372) (v := 1) d_L_law_1372 (by decide) ?_
  refine R_iadd (pc := 1373) d_L_law_1373 ?_
  obtain ⟨k1, h⟩ := h
  refine R_sld (pc := 1374) k1 d_L_law_1374 ?_
  refine R_aload_n (pc := 1375) d_L_law_1375 rfl rfl ?_
  refine R_callSW (pc := 1376) (As := [.ref (g.1 + v1), .int (g.2.2.2.2.2 (Int32.toNatClampNeg (v5 + 1))), .ref (g.1 + v3)]) (rest := []) (c_L_next (g := g) v1 (g.2.2.2.2.2 (Int32.toNatClampNeg (v5 + 1))) v3 M _ h) rfl rfl cal_RL_192 sta_L_next (by decide) (by omega) rfl rfl (Nat.le_of_ble_eq_true rfl) d_L_law_1376 (k_I (fun y3 M2 h => ?_)) (fun _ _ h9 => False.elim h9)
  try dsimp only at h
  refine R_istore (pc := 1379) (L' := [some (.ref g.2.2.2.1), some (.ref (g.1 + v1)), some (.ref (g.1 + v2)), some (.ref (g.1 + v3)), some (.ref (g.1 + v4)), some (.int v5), some (.int y3), none, none]) d_L_law_1379 (by decide) rfl ?_
  refine R_aload_n (pc := 1381) d_L_law_1381 rfl rfl ?_
  refine R_aload_n (pc := 1382) d_L_law_1382 rfl rfl ?_
  refine R_iload (pc := 1383) d_L_law_1383 rfl ?_
  refine R_iconst (pc := 1385) (v := 1) d_L_law_1385 (by decide) ?_
  refine R_iadd (pc := 1386) d_L_law_1386 ?_
  refine R_sld (pc := 1387) k1 d_L_law_1387 ?_
  obtain ⟨k4, h⟩ := h
  refine R_callV (pc := 1388) (As := [.int (g.2.2.2.2.2 (Int32.toNatClampNeg (v5 + 1)))]) (rest := []) (c_X7_next (g := g) v2 (g.2.2.2.2.2 (Int32.toNatClampNeg (v5 + 1))) M2 _ h) rfl rfl cal_RL_194 ins_X7_next sel_X7_next (cls_at k4 clsOK7) (by decide) (by omega) rfl rfl (Nat.le_of_ble_eq_true rfl) d_L_law_1388 (k_I (fun y6 M5 h => ?_)) (fun _ _ h9 => False.elim h9)
  try dsimp only at h
  refine R_istore (pc := 1391) (L' := [some (.ref g.2.2.2.1), some (.ref (g.1 + v1)), some (.ref (g.1 + v2)), some (.ref (g.1 + v3)), some (.ref (g.1 + v4)), some (.int v5), some (.int y3), some (.int y6), none]) d_L_law_1391 (by decide) rfl ?_
  refine R_aload_n (pc := 1393) d_L_law_1393 rfl rfl ?_
  refine R_callV (pc := 1394) (As := []) (rest := []) (c_X7_thrown (g := g) v2 M5 _ h) rfl rfl cal_RL_140 ins_X7_thrown sel_X7_thrown (cls_at k4 clsOK7) (by decide) (by omega) rfl rfl (Nat.le_of_ble_eq_true rfl) d_L_law_1394 (k_I (fun y8 M7 h => ?_)) (fun _ _ h9 => False.elim h9)
  try dsimp only at h
  refine R_iload (pc := 1397) d_L_law_1397 rfl ?_
  refine R_icmp_eq (pc := 1399) (tgt := 1404) d_L_law_1399 (by decide) (fun c => ?_) (fun c => ?_)
  · rw [if_pos c] at h
    refine R_iload (pc := 1404) d_L_law_1404 rfl ?_
    refine R_if_ne (pc := 1406) (tgt := 1421) d_L_law_1406 (by decide) (fun c => ?_) (fun c => ?_)
    · rw [if_neg c] at h
      exact WP_sub (B_L_law_1421 Q κ28 hκ28 v1 v2 v3 v4 v5 M7 h) (by omega) (ls_s (ls_s (ls_s (ls_s (ls_s (ls_s (ls_n (ls_n (ls_n ls_0)))))))))
    · rw [if_pos c] at h
      refine R_aload_n (pc := 1409) d_L_law_1409 rfl rfl ?_
      refine R_iconst (pc := 1410) (v := 0) d_L_law_1410 (by decide) ?_
      obtain ⟨k9, h⟩ := h
      obtain ⟨k10, h⟩ := h
      refine R_lald (pc := 1411) k9 k10 d_L_law_1411 ?_
      refine R_iload (pc := 1412) d_L_law_1412 rfl ?_
      refine R_i2l (pc := 1414) d_L_law_1414 ?_
      refine R_lcmp (pc := 1415) d_L_law_1415 ?_
      refine R_if_eq (pc := 1416) (tgt := 1421) d_L_law_1416 (by decide) (fun c => ?_) (fun c => ?_)
      · rw [if_pos c] at h
        exact WP_sub (B_L_law_1421 Q κ28 hκ28 v1 v2 v3 v4 v5 M7 h) (by omega) (ls_s (ls_s (ls_s (ls_s (ls_s (ls_s (ls_n (ls_n (ls_n ls_0)))))))))
      · rw [if_neg c] at h
        refine R_iconst (pc := 1419) (v := 0) d_L_law_1419 (by decide) ?_
        exact R_retv (pc := 1420) d_L_law_1420 h
  · rw [if_neg c] at h
    refine R_iconst (pc := 1402) (v := 0) d_L_law_1402 (by decide) ?_
    exact R_retv (pc := 1403) d_L_law_1403 h
def T_L_law_1365 (κ28 : Nat → Nat → Nat → Nat → Int32 → Mem → Prop) (Q : Int32 → Mem → Prop) (sl : Nat) (xs : Nat → Int32) (v1 : Nat) (v2 : Nat) (v3 : Nat) (v4 : Nat) (v5 : Int32) (M : Mem) : Prop := T_L_law_2534 κ28 Q sl xs v1 v2 v3 v4 v5 M
set_option maxRecDepth 100000 in
set_option maxHeartbeats 4000000 in
theorem B_L_law_1365 {g : GG} {kr : Nat} (Q : Int32 → Mem → Prop) (κ28 : Nat → Nat → Nat → Nat → Int32 → Mem → Prop) (hκ28 : ∀ (v1 : Nat) (v2 : Nat) (v3 : Nat) (v4 : Nat) (v5 : Int32) (M : Mem), κ28 v1 v2 v3 v4 v5 M → WP g 20 mL_law 28 [some (.ref g.2.2.2.1), some (.ref (g.1 + v1)), some (.ref (g.1 + v2)), some (.ref (g.1 + v3)), some (.ref (g.1 + v4)), some (.int v5), none, none, none] [] M kr (oZ Q noX)) (v1 : Nat) (v2 : Nat) (v3 : Nat) (v4 : Nat) (v5 : Int32) (M : Mem) (h : T_L_law_1365 κ28 Q g.2.2.2.2.1 g.2.2.2.2.2 v1 v2 v3 v4 v5 M) : WP g 20 mL_law 1365 [some (.ref g.2.2.2.1), some (.ref (g.1 + v1)), some (.ref (g.1 + v2)), some (.ref (g.1 + v3)), some (.ref (g.1 + v4)), some (.int v5), none, none, none] [] M (kr + 1) (oZ Q noX) := by
  unfold T_L_law_1365 at h
  refine R_goto (pc := 1365) (tgt := 2534) d_L_law_1365 (by decide) ?_
  exact WP_sub (B_L_law_2534 Q κ28 hκ28 v1 v2 v3 v4 v5 M h) (by omega) (ls_s (ls_s (ls_s (ls_s (ls_s (ls_s (ls_n (ls_n (ls_n ls_0)))))))))
def T_L_law_1300 (κ28 : Nat → Nat → Nat → Nat → Int32 → Mem → Prop) (Q : Int32 → Mem → Prop) (sl : Nat) (xs : Nat → Int32) (v1 : Nat) (v2 : Nat) (v3 : Nat) (v4 : Nat) (v5 : Int32) (M : Mem) : Prop := (vp_in (v5 + 1) sl) ∧ (vp_in (v5 + 2) sl) ∧ T_L_visit (fun y4 M3 => (kd v2 = 7) ∧ T_X7_visit (fun y7 M6 => T_X7_thrown (fun y9 M8 => if y9 = y4 then (if y4 = 0 then ((kd v3 = 12) ∧ (vp_in 0 (ln v3)) ∧ if (lg_cmp (M8.2.1 (Int32.toNatClampNeg 0)) (Int32.toInt64 y7)) = 0 then (T_L_law_1365 κ28 Q sl xs v1 v2 v3 v4 v5 M8) else (((0 : Int32) = 0 ∨ (0 : Int32) = 1) ∧ Q 0 M8)) else (T_L_law_1365 κ28 Q sl xs v1 v2 v3 v4 v5 M8)) else (((0 : Int32) = 0 ∨ (0 : Int32) = 1) ∧ Q 0 M8))  v2 M6)  v2 (xs (Int32.toNatClampNeg (v5 + 1))) (xs (Int32.toNatClampNeg (v5 + 2))) M3)  v1 (xs (Int32.toNatClampNeg (v5 + 1))) (xs (Int32.toNatClampNeg (v5 + 2))) v3 M
set_option maxRecDepth 100000 in
set_option maxHeartbeats 4000000 in
theorem B_L_law_1300 {g : GG} {kr : Nat} (Q : Int32 → Mem → Prop) (κ28 : Nat → Nat → Nat → Nat → Int32 → Mem → Prop) (hκ28 : ∀ (v1 : Nat) (v2 : Nat) (v3 : Nat) (v4 : Nat) (v5 : Int32) (M : Mem), κ28 v1 v2 v3 v4 v5 M → WP g 20 mL_law 28 [some (.ref g.2.2.2.1), some (.ref (g.1 + v1)), some (.ref (g.1 + v2)), some (.ref (g.1 + v3)), some (.ref (g.1 + v4)), some (.int v5), none, none, none] [] M kr (oZ Q noX)) (v1 : Nat) (v2 : Nat) (v3 : Nat) (v4 : Nat) (v5 : Int32) (M : Mem) (h : T_L_law_1300 κ28 Q g.2.2.2.2.1 g.2.2.2.2.2 v1 v2 v3 v4 v5 M) : WP g 20 mL_law 1300 [some (.ref g.2.2.2.1), some (.ref (g.1 + v1)), some (.ref (g.1 + v2)), some (.ref (g.1 + v3)), some (.ref (g.1 + v4)), some (.int v5), none, none, none] [] M (kr + 2) (oZ Q noX) := by
  unfold T_L_law_1300 at h
  refine R_aload_n (pc := 1300) d_L_law_1300 rfl rfl ?_
  refine R_aload_n (pc := 1301) d_L_law_1301 rfl rfl ?_
  refine R_iload (pc := 1302) d_L_law_1302 rfl ?_
  refine R_iconst (pc := 1304) (v := 1) d_L_law_1304 (by decide) ?_
  refine R_iadd (pc := 1305) d_L_law_1305 ?_
  obtain ⟨k1, h⟩ := h
  refine R_sld (pc := 1306) k1 d_L_law_1306 ?_
  refine R_aload_n (pc := 1307) d_L_law_1307 rfl rfl ?_
  refine R_iload (pc := 1308) d_L_law_1308 rfl ?_
  refine R_iconst (pc := 1310) (v := 2) d_L_law_1310 (by decide) ?_
  refine R_iadd (pc := 1311) d_L_law_1311 ?_
  obtain ⟨k2, h⟩ := h
  refine R_sld (pc := 1312) k2 d_L_law_1312 ?_
  refine R_aload_n (pc := 1313) d_L_law_1313 rfl rfl ?_
  refine R_callSW (pc := 1314) (As := [.ref (g.1 + v1), .int (g.2.2.2.2.2 (Int32.toNatClampNeg (v5 + 1))), .int (g.2.2.2.2.2 (Int32.toNatClampNeg (v5 + 2))), .ref (g.1 + v3)]) (rest := []) (c_L_visit (g := g) v1 (g.2.2.2.2.2 (Int32.toNatClampNeg (v5 + 1))) (g.2.2.2.2.2 (Int32.toNatClampNeg (v5 + 2))) v3 M _ h) rfl rfl cal_RL_189 sta_L_visit (by decide) (by omega) rfl rfl (Nat.le_of_ble_eq_true rfl) d_L_law_1314 (k_I (fun y4 M3 h => ?_)) (fun _ _ h9 => False.elim h9)
  try dsimp only at h
  refine R_istore (pc := 1317) (L' := [some (.ref g.2.2.2.1), some (.ref (g.1 + v1)), some (.ref (g.1 + v2)), some (.ref (g.1 + v3)), some (.ref (g.1 + v4)), some (.int v5), some (.int y4), none, none]) d_L_law_1317 (by decide) rfl ?_
  refine R_aload_n (pc := 1319) d_L_law_1319 rfl rfl ?_
  refine R_aload_n (pc := 1320) d_L_law_1320 rfl rfl ?_
  refine R_iload (pc := 1321) d_L_law_1321 rfl ?_
  refine R_iconst (pc := 1323) (v := 1) d_L_law_1323 (by decide) ?_
  refine R_iadd (pc := 1324) d_L_law_1324 ?_
  refine R_sld (pc := 1325) k1 d_L_law_1325 ?_
  refine R_aload_n (pc := 1326) d_L_law_1326 rfl rfl ?_
  refine R_iload (pc := 1327) d_L_law_1327 rfl ?_
  refine R_iconst (pc := 1329) (v := 2) d_L_law_1329 (by decide) ?_
  refine R_iadd (pc := 1330) d_L_law_1330 ?_
  refine R_sld (pc := 1331) k2 d_L_law_1331 ?_
  obtain ⟨k5, h⟩ := h
  refine R_callV (pc := 1332) (As := [.int (g.2.2.2.2.2 (Int32.toNatClampNeg (v5 + 1))), .int (g.2.2.2.2.2 (Int32.toNatClampNeg (v5 + 2)))]) (rest := []) (c_X7_visit (g := g) v2 (g.2.2.2.2.2 (Int32.toNatClampNeg (v5 + 1))) (g.2.2.2.2.2 (Int32.toNatClampNeg (v5 + 2))) M3 _ h) rfl rfl cal_RL_191 ins_X7_visit sel_X7_visit (cls_at k5 clsOK7) (by decide) (by omega) rfl rfl (Nat.le_of_ble_eq_true rfl) d_L_law_1332 (k_I (fun y7 M6 h => ?_)) (fun _ _ h9 => False.elim h9)
  try dsimp only at h
  refine R_istore (pc := 1335) (L' := [some (.ref g.2.2.2.1), some (.ref (g.1 + v1)), some (.ref (g.1 + v2)), some (.ref (g.1 + v3)), some (.ref (g.1 + v4)), some (.int v5), some (.int y4), some (.int y7), none]) d_L_law_1335 (by decide) rfl ?_
  refine R_aload_n (pc := 1337) d_L_law_1337 rfl rfl ?_
  refine R_callV (pc := 1338) (As := []) (rest := []) (c_X7_thrown (g := g) v2 M6 _ h) rfl rfl cal_RL_140 ins_X7_thrown sel_X7_thrown (cls_at k5 clsOK7) (by decide) (by omega) rfl rfl (Nat.le_of_ble_eq_true rfl) d_L_law_1338 (k_I (fun y9 M8 h => ?_)) (fun _ _ h9 => False.elim h9)
  try dsimp only at h
  refine R_iload (pc := 1341) d_L_law_1341 rfl ?_
  refine R_icmp_eq (pc := 1343) (tgt := 1348) d_L_law_1343 (by decide) (fun c => ?_) (fun c => ?_)
  · rw [if_pos c] at h
    refine R_iload (pc := 1348) d_L_law_1348 rfl ?_
    refine R_if_ne (pc := 1350) (tgt := 1365) d_L_law_1350 (by decide) (fun c => ?_) (fun c => ?_)
    · rw [if_neg c] at h
      exact WP_sub (B_L_law_1365 Q κ28 hκ28 v1 v2 v3 v4 v5 M8 h) (by omega) (ls_s (ls_s (ls_s (ls_s (ls_s (ls_s (ls_n (ls_n (ls_n ls_0)))))))))
    · rw [if_pos c] at h
      refine R_aload_n (pc := 1353) d_L_law_1353 rfl rfl ?_
      refine R_iconst (pc := 1354) (v := 0) d_L_law_1354 (by decide) ?_
      obtain ⟨k10, h⟩ := h
      obtain ⟨k11, h⟩ := h
      refine R_lald (pc := 1355) k10 k11 d_L_law_1355 ?_
      refine R_iload (pc := 1356) d_L_law_1356 rfl ?_
      refine R_i2l (pc := 1358) d_L_law_1358 ?_
      refine R_lcmp (pc := 1359) d_L_law_1359 ?_
      refine R_if_eq (pc := 1360) (tgt := 1365) d_L_law_1360 (by decide) (fun c => ?_) (fun c => ?_)
      · rw [if_pos c] at h
        exact WP_sub (B_L_law_1365 Q κ28 hκ28 v1 v2 v3 v4 v5 M8 h) (by omega) (ls_s (ls_s (ls_s (ls_s (ls_s (ls_s (ls_n (ls_n (ls_n ls_0)))))))))
      · rw [if_neg c] at h
        refine R_iconst (pc := 1363) (v := 0) d_L_law_1363 (by decide) ?_
        exact R_retv (pc := 1364) d_L_law_1364 h
  · rw [if_neg c] at h
    refine R_iconst (pc := 1346) (v := 0) d_L_law_1346 (by decide) ?_
    exact R_retv (pc := 1347) d_L_law_1347 h
def T_L_law_1297 (κ28 : Nat → Nat → Nat → Nat → Int32 → Mem → Prop) (Q : Int32 → Mem → Prop) (sl : Nat) (xs : Nat → Int32) (v1 : Nat) (v2 : Nat) (v3 : Nat) (v4 : Nat) (v5 : Int32) (M : Mem) : Prop := T_L_law_2534 κ28 Q sl xs v1 v2 v3 v4 v5 M
set_option maxRecDepth 100000 in
set_option maxHeartbeats 4000000 in
theorem B_L_law_1297 {g : GG} {kr : Nat} (Q : Int32 → Mem → Prop) (κ28 : Nat → Nat → Nat → Nat → Int32 → Mem → Prop) (hκ28 : ∀ (v1 : Nat) (v2 : Nat) (v3 : Nat) (v4 : Nat) (v5 : Int32) (M : Mem), κ28 v1 v2 v3 v4 v5 M → WP g 20 mL_law 28 [some (.ref g.2.2.2.1), some (.ref (g.1 + v1)), some (.ref (g.1 + v2)), some (.ref (g.1 + v3)), some (.ref (g.1 + v4)), some (.int v5), none, none, none] [] M kr (oZ Q noX)) (v1 : Nat) (v2 : Nat) (v3 : Nat) (v4 : Nat) (v5 : Int32) (M : Mem) (h : T_L_law_1297 κ28 Q g.2.2.2.2.1 g.2.2.2.2.2 v1 v2 v3 v4 v5 M) : WP g 20 mL_law 1297 [some (.ref g.2.2.2.1), some (.ref (g.1 + v1)), some (.ref (g.1 + v2)), some (.ref (g.1 + v3)), some (.ref (g.1 + v4)), some (.int v5), none, none, none] [] M (kr + 1) (oZ Q noX) := by
  unfold T_L_law_1297 at h
  refine R_goto (pc := 1297) (tgt := 2534) d_L_law_1297 (by decide) ?_
  exact WP_sub (B_L_law_2534 Q κ28 hκ28 v1 v2 v3 v4 v5 M h) (by omega) (ls_s (ls_s (ls_s (ls_s (ls_s (ls_s (ls_n (ls_n (ls_n ls_0)))))))))
def T_L_law_1232 (κ28 : Nat → Nat → Nat → Nat → Int32 → Mem → Prop) (Q : Int32 → Mem → Prop) (sl : Nat) (xs : Nat → Int32) (v1 : Nat) (v2 : Nat) (v3 : Nat) (v4 : Nat) (v5 : Int32) (M : Mem) : Prop := (vp_in (v5 + 1) sl) ∧ (vp_in (v5 + 2) sl) ∧ T_L_firstFree (fun y4 M3 => (kd v2 = 7) ∧ T_X7_firstFree (fun y7 M6 => T_X7_thrown (fun y9 M8 => if y9 = y4 then (if y4 = 0 then ((kd v3 = 12) ∧ (vp_in 0 (ln v3)) ∧ if (lg_cmp (M8.2.1 (Int32.toNatClampNeg 0)) (Int32.toInt64 y7)) = 0 then (T_L_law_1297 κ28 Q sl xs v1 v2 v3 v4 v5 M8) else (((0 : Int32) = 0 ∨ (0 : Int32) = 1) ∧ Q 0 M8)) else (T_L_law_1297 κ28 Q sl xs v1 v2 v3 v4 v5 M8)) else (((0 : Int32) = 0 ∨ (0 : Int32) = 1) ∧ Q 0 M8))  v2 M6)  v2 (xs (Int32.toNatClampNeg (v5 + 1))) (xs (Int32.toNatClampNeg (v5 + 2))) M3)  v1 (xs (Int32.toNatClampNeg (v5 + 1))) (xs (Int32.toNatClampNeg (v5 + 2))) v3 M
set_option maxRecDepth 100000 in
set_option maxHeartbeats 4000000 in
theorem B_L_law_1232 {g : GG} {kr : Nat} (Q : Int32 → Mem → Prop) (κ28 : Nat → Nat → Nat → Nat → Int32 → Mem → Prop) (hκ28 : ∀ (v1 : Nat) (v2 : Nat) (v3 : Nat) (v4 : Nat) (v5 : Int32) (M : Mem), κ28 v1 v2 v3 v4 v5 M → WP g 20 mL_law 28 [some (.ref g.2.2.2.1), some (.ref (g.1 + v1)), some (.ref (g.1 + v2)), some (.ref (g.1 + v3)), some (.ref (g.1 + v4)), some (.int v5), none, none, none] [] M kr (oZ Q noX)) (v1 : Nat) (v2 : Nat) (v3 : Nat) (v4 : Nat) (v5 : Int32) (M : Mem) (h : T_L_law_1232 κ28 Q g.2.2.2.2.1 g.2.2.2.2.2 v1 v2 v3 v4 v5 M) : WP g 20 mL_law 1232 [some (.ref g.2.2.2.1), some (.ref (g.1 + v1)), some (.ref (g.1 + v2)), some (.ref (g.1 + v3)), some (.ref (g.1 + v4)), some (.int v5), none, none, none] [] M (kr + 2) (oZ Q noX) := by
  unfold T_L_law_1232 at h
  refine R_aload_n (pc := 1232) d_L_law_1232 rfl rfl ?_
  refine R_aload_n (pc := 1233) d_L_law_1233 rfl rfl ?_
  refine R_iload (pc := 1234) d_L_law_1234 rfl ?_
  refine R_iconst (pc := 1236) (v := 1) d_L_law_1236 (by decide) ?_
  refine R_iadd (pc := 1237) d_L_law_1237 ?_
  obtain ⟨k1, h⟩ := h
  refine R_sld (pc := 1238) k1 d_L_law_1238 ?_
  refine R_aload_n (pc := 1239) d_L_law_1239 rfl rfl ?_
  refine R_iload (pc := 1240) d_L_law_1240 rfl ?_
  refine R_iconst (pc := 1242) (v := 2) d_L_law_1242 (by decide) ?_
  refine R_iadd (pc := 1243) d_L_law_1243 ?_
  obtain ⟨k2, h⟩ := h
  refine R_sld (pc := 1244) k2 d_L_law_1244 ?_
  refine R_aload_n (pc := 1245) d_L_law_1245 rfl rfl ?_
  refine R_callSW (pc := 1246) (As := [.ref (g.1 + v1), .int (g.2.2.2.2.2 (Int32.toNatClampNeg (v5 + 1))), .int (g.2.2.2.2.2 (Int32.toNatClampNeg (v5 + 2))), .ref (g.1 + v3)]) (rest := []) (c_L_firstFree (g := g) v1 (g.2.2.2.2.2 (Int32.toNatClampNeg (v5 + 1))) (g.2.2.2.2.2 (Int32.toNatClampNeg (v5 + 2))) v3 M _ h) rfl rfl cal_RL_186 sta_L_firstFree (by decide) (by omega) rfl rfl (Nat.le_of_ble_eq_true rfl) d_L_law_1246 (k_I (fun y4 M3 h => ?_)) (fun _ _ h9 => False.elim h9)
  try dsimp only at h
  refine R_istore (pc := 1249) (L' := [some (.ref g.2.2.2.1), some (.ref (g.1 + v1)), some (.ref (g.1 + v2)), some (.ref (g.1 + v3)), some (.ref (g.1 + v4)), some (.int v5), some (.int y4), none, none]) d_L_law_1249 (by decide) rfl ?_
  refine R_aload_n (pc := 1251) d_L_law_1251 rfl rfl ?_
  refine R_aload_n (pc := 1252) d_L_law_1252 rfl rfl ?_
  refine R_iload (pc := 1253) d_L_law_1253 rfl ?_
  refine R_iconst (pc := 1255) (v := 1) d_L_law_1255 (by decide) ?_
  refine R_iadd (pc := 1256) d_L_law_1256 ?_
  refine R_sld (pc := 1257) k1 d_L_law_1257 ?_
  refine R_aload_n (pc := 1258) d_L_law_1258 rfl rfl ?_
  refine R_iload (pc := 1259) d_L_law_1259 rfl ?_
  refine R_iconst (pc := 1261) (v := 2) d_L_law_1261 (by decide) ?_
  refine R_iadd (pc := 1262) d_L_law_1262 ?_
  refine R_sld (pc := 1263) k2 d_L_law_1263 ?_
  obtain ⟨k5, h⟩ := h
  refine R_callV (pc := 1264) (As := [.int (g.2.2.2.2.2 (Int32.toNatClampNeg (v5 + 1))), .int (g.2.2.2.2.2 (Int32.toNatClampNeg (v5 + 2)))]) (rest := []) (c_X7_firstFree (g := g) v2 (g.2.2.2.2.2 (Int32.toNatClampNeg (v5 + 1))) (g.2.2.2.2.2 (Int32.toNatClampNeg (v5 + 2))) M3 _ h) rfl rfl cal_RL_188 ins_X7_firstFree sel_X7_firstFree (cls_at k5 clsOK7) (by decide) (by omega) rfl rfl (Nat.le_of_ble_eq_true rfl) d_L_law_1264 (k_I (fun y7 M6 h => ?_)) (fun _ _ h9 => False.elim h9)
  try dsimp only at h
  refine R_istore (pc := 1267) (L' := [some (.ref g.2.2.2.1), some (.ref (g.1 + v1)), some (.ref (g.1 + v2)), some (.ref (g.1 + v3)), some (.ref (g.1 + v4)), some (.int v5), some (.int y4), some (.int y7), none]) d_L_law_1267 (by decide) rfl ?_
  refine R_aload_n (pc := 1269) d_L_law_1269 rfl rfl ?_
  refine R_callV (pc := 1270) (As := []) (rest := []) (c_X7_thrown (g := g) v2 M6 _ h) rfl rfl cal_RL_140 ins_X7_thrown sel_X7_thrown (cls_at k5 clsOK7) (by decide) (by omega) rfl rfl (Nat.le_of_ble_eq_true rfl) d_L_law_1270 (k_I (fun y9 M8 h => ?_)) (fun _ _ h9 => False.elim h9)
  try dsimp only at h
  refine R_iload (pc := 1273) d_L_law_1273 rfl ?_
  refine R_icmp_eq (pc := 1275) (tgt := 1280) d_L_law_1275 (by decide) (fun c => ?_) (fun c => ?_)
  · rw [if_pos c] at h
    refine R_iload (pc := 1280) d_L_law_1280 rfl ?_
    refine R_if_ne (pc := 1282) (tgt := 1297) d_L_law_1282 (by decide) (fun c => ?_) (fun c => ?_)
    · rw [if_neg c] at h
      exact WP_sub (B_L_law_1297 Q κ28 hκ28 v1 v2 v3 v4 v5 M8 h) (by omega) (ls_s (ls_s (ls_s (ls_s (ls_s (ls_s (ls_n (ls_n (ls_n ls_0)))))))))
    · rw [if_pos c] at h
      refine R_aload_n (pc := 1285) d_L_law_1285 rfl rfl ?_
      refine R_iconst (pc := 1286) (v := 0) d_L_law_1286 (by decide) ?_
      obtain ⟨k10, h⟩ := h
      obtain ⟨k11, h⟩ := h
      refine R_lald (pc := 1287) k10 k11 d_L_law_1287 ?_
      refine R_iload (pc := 1288) d_L_law_1288 rfl ?_
      refine R_i2l (pc := 1290) d_L_law_1290 ?_
      refine R_lcmp (pc := 1291) d_L_law_1291 ?_
      refine R_if_eq (pc := 1292) (tgt := 1297) d_L_law_1292 (by decide) (fun c => ?_) (fun c => ?_)
      · rw [if_pos c] at h
        exact WP_sub (B_L_law_1297 Q κ28 hκ28 v1 v2 v3 v4 v5 M8 h) (by omega) (ls_s (ls_s (ls_s (ls_s (ls_s (ls_s (ls_n (ls_n (ls_n ls_0)))))))))
      · rw [if_neg c] at h
        refine R_iconst (pc := 1295) (v := 0) d_L_law_1295 (by decide) ?_
        exact R_retv (pc := 1296) d_L_law_1296 h
  · rw [if_neg c] at h
    refine R_iconst (pc := 1278) (v := 0) d_L_law_1278 (by decide) ?_
    exact R_retv (pc := 1279) d_L_law_1279 h
def T_L_law_1229 (κ28 : Nat → Nat → Nat → Nat → Int32 → Mem → Prop) (Q : Int32 → Mem → Prop) (sl : Nat) (xs : Nat → Int32) (v1 : Nat) (v2 : Nat) (v3 : Nat) (v4 : Nat) (v5 : Int32) (M : Mem) : Prop := T_L_law_2534 κ28 Q sl xs v1 v2 v3 v4 v5 M
set_option maxRecDepth 100000 in
set_option maxHeartbeats 4000000 in
theorem B_L_law_1229 {g : GG} {kr : Nat} (Q : Int32 → Mem → Prop) (κ28 : Nat → Nat → Nat → Nat → Int32 → Mem → Prop) (hκ28 : ∀ (v1 : Nat) (v2 : Nat) (v3 : Nat) (v4 : Nat) (v5 : Int32) (M : Mem), κ28 v1 v2 v3 v4 v5 M → WP g 20 mL_law 28 [some (.ref g.2.2.2.1), some (.ref (g.1 + v1)), some (.ref (g.1 + v2)), some (.ref (g.1 + v3)), some (.ref (g.1 + v4)), some (.int v5), none, none, none] [] M kr (oZ Q noX)) (v1 : Nat) (v2 : Nat) (v3 : Nat) (v4 : Nat) (v5 : Int32) (M : Mem) (h : T_L_law_1229 κ28 Q g.2.2.2.2.1 g.2.2.2.2.2 v1 v2 v3 v4 v5 M) : WP g 20 mL_law 1229 [some (.ref g.2.2.2.1), some (.ref (g.1 + v1)), some (.ref (g.1 + v2)), some (.ref (g.1 + v3)), some (.ref (g.1 + v4)), some (.int v5), none, none, none] [] M (kr + 1) (oZ Q noX) := by
  unfold T_L_law_1229 at h
  refine R_goto (pc := 1229) (tgt := 2534) d_L_law_1229 (by decide) ?_
  exact WP_sub (B_L_law_2534 Q κ28 hκ28 v1 v2 v3 v4 v5 M h) (by omega) (ls_s (ls_s (ls_s (ls_s (ls_s (ls_s (ls_n (ls_n (ls_n ls_0)))))))))
def T_L_law_1140 (κ28 : Nat → Nat → Nat → Nat → Int32 → Mem → Prop) (Q : Int32 → Mem → Prop) (sl : Nat) (xs : Nat → Int32) (v1 : Nat) (v2 : Nat) (v3 : Nat) (v4 : Nat) (v5 : Int32) (M : Mem) : Prop := (vp_in (v5 + 1) sl) ∧ (vp_in (v5 + 2) sl) ∧ (vp_in (v5 + 3) sl) ∧ (vp_in (v5 + 4) sl) ∧ T_L_refusal (fun y6 M5 => (kd v2 = 7) ∧ T_X7_refusal (fun y9 M8 => T_X7_thrown (fun y11 M10 => if y11 = y6 then (if y6 = 0 then ((kd v3 = 12) ∧ (vp_in 0 (ln v3)) ∧ if (lg_cmp (M10.2.1 (Int32.toNatClampNeg 0)) (Int32.toInt64 y9)) = 0 then (T_L_law_1229 κ28 Q sl xs v1 v2 v3 v4 v5 M10) else (((0 : Int32) = 0 ∨ (0 : Int32) = 1) ∧ Q 0 M10)) else (T_L_law_1229 κ28 Q sl xs v1 v2 v3 v4 v5 M10)) else (((0 : Int32) = 0 ∨ (0 : Int32) = 1) ∧ Q 0 M10))  v2 M8)  v2 (xs (Int32.toNatClampNeg (v5 + 1))) (xs (Int32.toNatClampNeg (v5 + 2))) (xs (Int32.toNatClampNeg (v5 + 3))) (xs (Int32.toNatClampNeg (v5 + 4))) M5)  v1 (xs (Int32.toNatClampNeg (v5 + 1))) (xs (Int32.toNatClampNeg (v5 + 2))) (xs (Int32.toNatClampNeg (v5 + 3))) (xs (Int32.toNatClampNeg (v5 + 4))) v3 M
set_option maxRecDepth 100000 in
set_option maxHeartbeats 4000000 in
theorem B_L_law_1140 {g : GG} {kr : Nat} (Q : Int32 → Mem → Prop) (κ28 : Nat → Nat → Nat → Nat → Int32 → Mem → Prop) (hκ28 : ∀ (v1 : Nat) (v2 : Nat) (v3 : Nat) (v4 : Nat) (v5 : Int32) (M : Mem), κ28 v1 v2 v3 v4 v5 M → WP g 20 mL_law 28 [some (.ref g.2.2.2.1), some (.ref (g.1 + v1)), some (.ref (g.1 + v2)), some (.ref (g.1 + v3)), some (.ref (g.1 + v4)), some (.int v5), none, none, none] [] M kr (oZ Q noX)) (v1 : Nat) (v2 : Nat) (v3 : Nat) (v4 : Nat) (v5 : Int32) (M : Mem) (h : T_L_law_1140 κ28 Q g.2.2.2.2.1 g.2.2.2.2.2 v1 v2 v3 v4 v5 M) : WP g 20 mL_law 1140 [some (.ref g.2.2.2.1), some (.ref (g.1 + v1)), some (.ref (g.1 + v2)), some (.ref (g.1 + v3)), some (.ref (g.1 + v4)), some (.int v5), none, none, none] [] M (kr + 2) (oZ Q noX) := by
  unfold T_L_law_1140 at h
  refine R_aload_n (pc := 1140) d_L_law_1140 rfl rfl ?_
  refine R_aload_n (pc := 1141) d_L_law_1141 rfl rfl ?_
  refine R_iload (pc := 1142) d_L_law_1142 rfl ?_
  refine R_iconst (pc := 1144) (v := 1) d_L_law_1144 (by decide) ?_
  refine R_iadd (pc := 1145) d_L_law_1145 ?_
  obtain ⟨k1, h⟩ := h
  refine R_sld (pc := 1146) k1 d_L_law_1146 ?_
  refine R_aload_n (pc := 1147) d_L_law_1147 rfl rfl ?_
  refine R_iload (pc := 1148) d_L_law_1148 rfl ?_
  refine R_iconst (pc := 1150) (v := 2) d_L_law_1150 (by decide) ?_
  refine R_iadd (pc := 1151) d_L_law_1151 ?_
  obtain ⟨k2, h⟩ := h
  refine R_sld (pc := 1152) k2 d_L_law_1152 ?_
  refine R_aload_n (pc := 1153) d_L_law_1153 rfl rfl ?_
  refine R_iload (pc := 1154) d_L_law_1154 rfl ?_
  refine R_iconst (pc := 1156) (v := 3) d_L_law_1156 (by decide) ?_
  refine R_iadd (pc := 1157) d_L_law_1157 ?_
  obtain ⟨k3, h⟩ := h
  refine R_sld (pc := 1158) k3 d_L_law_1158 ?_
  refine R_aload_n (pc := 1159) d_L_law_1159 rfl rfl ?_
  refine R_iload (pc := 1160) d_L_law_1160 rfl ?_
  refine R_iconst (pc := 1162) (v := 4) d_L_law_1162 (by decide) ?_
  refine R_iadd (pc := 1163) d_L_law_1163 ?_
  obtain ⟨k4, h⟩ := h
  refine R_sld (pc := 1164) k4 d_L_law_1164 ?_
  refine R_aload_n (pc := 1165) d_L_law_1165 rfl rfl ?_
  refine R_callSW (pc := 1166) (As := [.ref (g.1 + v1), .int (g.2.2.2.2.2 (Int32.toNatClampNeg (v5 + 1))), .int (g.2.2.2.2.2 (Int32.toNatClampNeg (v5 + 2))), .int (g.2.2.2.2.2 (Int32.toNatClampNeg (v5 + 3))), .int (g.2.2.2.2.2 (Int32.toNatClampNeg (v5 + 4))), .ref (g.1 + v3)]) (rest := []) (c_L_refusal (g := g) v1 (g.2.2.2.2.2 (Int32.toNatClampNeg (v5 + 1))) (g.2.2.2.2.2 (Int32.toNatClampNeg (v5 + 2))) (g.2.2.2.2.2 (Int32.toNatClampNeg (v5 + 3))) (g.2.2.2.2.2 (Int32.toNatClampNeg (v5 + 4))) v3 M _ h) rfl rfl cal_RL_183 sta_L_refusal (by decide) (by omega) rfl rfl (Nat.le_of_ble_eq_true rfl) d_L_law_1166 (k_I (fun y6 M5 h => ?_)) (fun _ _ h9 => False.elim h9)
  try dsimp only at h
  refine R_istore (pc := 1169) (L' := [some (.ref g.2.2.2.1), some (.ref (g.1 + v1)), some (.ref (g.1 + v2)), some (.ref (g.1 + v3)), some (.ref (g.1 + v4)), some (.int v5), some (.int y6), none, none]) d_L_law_1169 (by decide) rfl ?_
  refine R_aload_n (pc := 1171) d_L_law_1171 rfl rfl ?_
  refine R_aload_n (pc := 1172) d_L_law_1172 rfl rfl ?_
  refine R_iload (pc := 1173) d_L_law_1173 rfl ?_
  refine R_iconst (pc := 1175) (v := 1) d_L_law_1175 (by decide) ?_
  refine R_iadd (pc := 1176) d_L_law_1176 ?_
  refine R_sld (pc := 1177) k1 d_L_law_1177 ?_
  refine R_aload_n (pc := 1178) d_L_law_1178 rfl rfl ?_
  refine R_iload (pc := 1179) d_L_law_1179 rfl ?_
  refine R_iconst (pc := 1181) (v := 2) d_L_law_1181 (by decide) ?_
  refine R_iadd (pc := 1182) d_L_law_1182 ?_
  refine R_sld (pc := 1183) k2 d_L_law_1183 ?_
  refine R_aload_n (pc := 1184) d_L_law_1184 rfl rfl ?_
  refine R_iload (pc := 1185) d_L_law_1185 rfl ?_
  refine R_iconst (pc := 1187) (v := 3) d_L_law_1187 (by decide) ?_
  refine R_iadd (pc := 1188) d_L_law_1188 ?_
  refine R_sld (pc := 1189) k3 d_L_law_1189 ?_
  refine R_aload_n (pc := 1190) d_L_law_1190 rfl rfl ?_
  refine R_iload (pc := 1191) d_L_law_1191 rfl ?_
  refine R_iconst (pc := 1193) (v := 4) d_L_law_1193 (by decide) ?_
  refine R_iadd (pc := 1194) d_L_law_1194 ?_
  refine R_sld (pc := 1195) k4 d_L_law_1195 ?_
  obtain ⟨k7, h⟩ := h
  refine R_callV (pc := 1196) (As := [.int (g.2.2.2.2.2 (Int32.toNatClampNeg (v5 + 1))), .int (g.2.2.2.2.2 (Int32.toNatClampNeg (v5 + 2))), .int (g.2.2.2.2.2 (Int32.toNatClampNeg (v5 + 3))), .int (g.2.2.2.2.2 (Int32.toNatClampNeg (v5 + 4)))]) (rest := []) (c_X7_refusal (g := g) v2 (g.2.2.2.2.2 (Int32.toNatClampNeg (v5 + 1))) (g.2.2.2.2.2 (Int32.toNatClampNeg (v5 + 2))) (g.2.2.2.2.2 (Int32.toNatClampNeg (v5 + 3))) (g.2.2.2.2.2 (Int32.toNatClampNeg (v5 + 4))) M5 _ h) rfl rfl cal_RL_185 ins_X7_refusal sel_X7_refusal (cls_at k7 clsOK7) (by decide) (by omega) rfl rfl (Nat.le_of_ble_eq_true rfl) d_L_law_1196 (k_I (fun y9 M8 h => ?_)) (fun _ _ h9 => False.elim h9)
  try dsimp only at h
  refine R_istore (pc := 1199) (L' := [some (.ref g.2.2.2.1), some (.ref (g.1 + v1)), some (.ref (g.1 + v2)), some (.ref (g.1 + v3)), some (.ref (g.1 + v4)), some (.int v5), some (.int y6), some (.int y9), none]) d_L_law_1199 (by decide) rfl ?_
  refine R_aload_n (pc := 1201) d_L_law_1201 rfl rfl ?_
  refine R_callV (pc := 1202) (As := []) (rest := []) (c_X7_thrown (g := g) v2 M8 _ h) rfl rfl cal_RL_140 ins_X7_thrown sel_X7_thrown (cls_at k7 clsOK7) (by decide) (by omega) rfl rfl (Nat.le_of_ble_eq_true rfl) d_L_law_1202 (k_I (fun y11 M10 h => ?_)) (fun _ _ h9 => False.elim h9)
  try dsimp only at h
  refine R_iload (pc := 1205) d_L_law_1205 rfl ?_
  refine R_icmp_eq (pc := 1207) (tgt := 1212) d_L_law_1207 (by decide) (fun c => ?_) (fun c => ?_)
  · rw [if_pos c] at h
    refine R_iload (pc := 1212) d_L_law_1212 rfl ?_
    refine R_if_ne (pc := 1214) (tgt := 1229) d_L_law_1214 (by decide) (fun c => ?_) (fun c => ?_)
    · rw [if_neg c] at h
      exact WP_sub (B_L_law_1229 Q κ28 hκ28 v1 v2 v3 v4 v5 M10 h) (by omega) (ls_s (ls_s (ls_s (ls_s (ls_s (ls_s (ls_n (ls_n (ls_n ls_0)))))))))
    · rw [if_pos c] at h
      refine R_aload_n (pc := 1217) d_L_law_1217 rfl rfl ?_
      refine R_iconst (pc := 1218) (v := 0) d_L_law_1218 (by decide) ?_
      obtain ⟨k12, h⟩ := h
      obtain ⟨k13, h⟩ := h
      refine R_lald (pc := 1219) k12 k13 d_L_law_1219 ?_
      refine R_iload (pc := 1220) d_L_law_1220 rfl ?_
      refine R_i2l (pc := 1222) d_L_law_1222 ?_
      refine R_lcmp (pc := 1223) d_L_law_1223 ?_
      refine R_if_eq (pc := 1224) (tgt := 1229) d_L_law_1224 (by decide) (fun c => ?_) (fun c => ?_)
      · rw [if_pos c] at h
        exact WP_sub (B_L_law_1229 Q κ28 hκ28 v1 v2 v3 v4 v5 M10 h) (by omega) (ls_s (ls_s (ls_s (ls_s (ls_s (ls_s (ls_n (ls_n (ls_n ls_0)))))))))
      · rw [if_neg c] at h
        refine R_iconst (pc := 1227) (v := 0) d_L_law_1227 (by decide) ?_
        exact R_retv (pc := 1228) d_L_law_1228 h
  · rw [if_neg c] at h
    refine R_iconst (pc := 1210) (v := 0) d_L_law_1210 (by decide) ?_
    exact R_retv (pc := 1211) d_L_law_1211 h
def T_L_law_1137 (κ28 : Nat → Nat → Nat → Nat → Int32 → Mem → Prop) (Q : Int32 → Mem → Prop) (sl : Nat) (xs : Nat → Int32) (v1 : Nat) (v2 : Nat) (v3 : Nat) (v4 : Nat) (v5 : Int32) (M : Mem) : Prop := T_L_law_2534 κ28 Q sl xs v1 v2 v3 v4 v5 M
set_option maxRecDepth 100000 in
set_option maxHeartbeats 4000000 in
theorem B_L_law_1137 {g : GG} {kr : Nat} (Q : Int32 → Mem → Prop) (κ28 : Nat → Nat → Nat → Nat → Int32 → Mem → Prop) (hκ28 : ∀ (v1 : Nat) (v2 : Nat) (v3 : Nat) (v4 : Nat) (v5 : Int32) (M : Mem), κ28 v1 v2 v3 v4 v5 M → WP g 20 mL_law 28 [some (.ref g.2.2.2.1), some (.ref (g.1 + v1)), some (.ref (g.1 + v2)), some (.ref (g.1 + v3)), some (.ref (g.1 + v4)), some (.int v5), none, none, none] [] M kr (oZ Q noX)) (v1 : Nat) (v2 : Nat) (v3 : Nat) (v4 : Nat) (v5 : Int32) (M : Mem) (h : T_L_law_1137 κ28 Q g.2.2.2.2.1 g.2.2.2.2.2 v1 v2 v3 v4 v5 M) : WP g 20 mL_law 1137 [some (.ref g.2.2.2.1), some (.ref (g.1 + v1)), some (.ref (g.1 + v2)), some (.ref (g.1 + v3)), some (.ref (g.1 + v4)), some (.int v5), none, none, none] [] M (kr + 1) (oZ Q noX) := by
  unfold T_L_law_1137 at h
  refine R_goto (pc := 1137) (tgt := 2534) d_L_law_1137 (by decide) ?_
  exact WP_sub (B_L_law_2534 Q κ28 hκ28 v1 v2 v3 v4 v5 M h) (by omega) (ls_s (ls_s (ls_s (ls_s (ls_s (ls_s (ls_n (ls_n (ls_n ls_0)))))))))
def T_L_law_1084 (κ28 : Nat → Nat → Nat → Nat → Int32 → Mem → Prop) (Q : Int32 → Mem → Prop) (sl : Nat) (xs : Nat → Int32) (v1 : Nat) (v2 : Nat) (v3 : Nat) (v4 : Nat) (v5 : Int32) (M : Mem) : Prop := (vp_in (v5 + 1) sl) ∧ T_L_cancel (fun y3 M2 => (kd v2 = 7) ∧ T_X7_cancel (fun y6 M5 => T_X7_thrown (fun y8 M7 => if y8 = y3 then (if y3 = 0 then ((kd v3 = 12) ∧ (vp_in 0 (ln v3)) ∧ if (lg_cmp (M7.2.1 (Int32.toNatClampNeg 0)) (Int32.toInt64 y6)) = 0 then (T_L_law_1137 κ28 Q sl xs v1 v2 v3 v4 v5 M7) else (((0 : Int32) = 0 ∨ (0 : Int32) = 1) ∧ Q 0 M7)) else (T_L_law_1137 κ28 Q sl xs v1 v2 v3 v4 v5 M7)) else (((0 : Int32) = 0 ∨ (0 : Int32) = 1) ∧ Q 0 M7))  v2 M5)  v2 (xs (Int32.toNatClampNeg (v5 + 1))) M2)  v1 (xs (Int32.toNatClampNeg (v5 + 1))) v3 M
set_option maxRecDepth 100000 in
set_option maxHeartbeats 4000000 in
theorem B_L_law_1084 {g : GG} {kr : Nat} (Q : Int32 → Mem → Prop) (κ28 : Nat → Nat → Nat → Nat → Int32 → Mem → Prop) (hκ28 : ∀ (v1 : Nat) (v2 : Nat) (v3 : Nat) (v4 : Nat) (v5 : Int32) (M : Mem), κ28 v1 v2 v3 v4 v5 M → WP g 20 mL_law 28 [some (.ref g.2.2.2.1), some (.ref (g.1 + v1)), some (.ref (g.1 + v2)), some (.ref (g.1 + v3)), some (.ref (g.1 + v4)), some (.int v5), none, none, none] [] M kr (oZ Q noX)) (v1 : Nat) (v2 : Nat) (v3 : Nat) (v4 : Nat) (v5 : Int32) (M : Mem) (h : T_L_law_1084 κ28 Q g.2.2.2.2.1 g.2.2.2.2.2 v1 v2 v3 v4 v5 M) : WP g 20 mL_law 1084 [some (.ref g.2.2.2.1), some (.ref (g.1 + v1)), some (.ref (g.1 + v2)), some (.ref (g.1 + v3)), some (.ref (g.1 + v4)), some (.int v5), none, none, none] [] M (kr + 2) (oZ Q noX) := by
  unfold T_L_law_1084 at h
  refine R_aload_n (pc := 1084) d_L_law_1084 rfl rfl ?_
  refine R_aload_n (pc := 1085) d_L_law_1085 rfl rfl ?_
  refine R_iload (pc := 1086) d_L_law_1086 rfl ?_
  refine R_iconst (pc := 1088) (v := 1) d_L_law_1088 (by decide) ?_
  refine R_iadd (pc := 1089) d_L_law_1089 ?_
  obtain ⟨k1, h⟩ := h
  refine R_sld (pc := 1090) k1 d_L_law_1090 ?_
  refine R_aload_n (pc := 1091) d_L_law_1091 rfl rfl ?_
  refine R_callSW (pc := 1092) (As := [.ref (g.1 + v1), .int (g.2.2.2.2.2 (Int32.toNatClampNeg (v5 + 1))), .ref (g.1 + v3)]) (rest := []) (c_L_cancel (g := g) v1 (g.2.2.2.2.2 (Int32.toNatClampNeg (v5 + 1))) v3 M _ h) rfl rfl cal_RL_180 sta_L_cancel (by decide) (by omega) rfl rfl (Nat.le_of_ble_eq_true rfl) d_L_law_1092 (k_I (fun y3 M2 h => ?_)) (fun _ _ h9 => False.elim h9)
  try dsimp only at h
  refine R_istore (pc := 1095) (L' := [some (.ref g.2.2.2.1), some (.ref (g.1 + v1)), some (.ref (g.1 + v2)), some (.ref (g.1 + v3)), some (.ref (g.1 + v4)), some (.int v5), some (.int y3), none, none]) d_L_law_1095 (by decide) rfl ?_
  refine R_aload_n (pc := 1097) d_L_law_1097 rfl rfl ?_
  refine R_aload_n (pc := 1098) d_L_law_1098 rfl rfl ?_
  refine R_iload (pc := 1099) d_L_law_1099 rfl ?_
  refine R_iconst (pc := 1101) (v := 1) d_L_law_1101 (by decide) ?_
  refine R_iadd (pc := 1102) d_L_law_1102 ?_
  refine R_sld (pc := 1103) k1 d_L_law_1103 ?_
  obtain ⟨k4, h⟩ := h
  refine R_callV (pc := 1104) (As := [.int (g.2.2.2.2.2 (Int32.toNatClampNeg (v5 + 1)))]) (rest := []) (c_X7_cancel (g := g) v2 (g.2.2.2.2.2 (Int32.toNatClampNeg (v5 + 1))) M2 _ h) rfl rfl cal_RL_182 ins_X7_cancel sel_X7_cancel (cls_at k4 clsOK7) (by decide) (by omega) rfl rfl (Nat.le_of_ble_eq_true rfl) d_L_law_1104 (k_I (fun y6 M5 h => ?_)) (fun _ _ h9 => False.elim h9)
  try dsimp only at h
  refine R_istore (pc := 1107) (L' := [some (.ref g.2.2.2.1), some (.ref (g.1 + v1)), some (.ref (g.1 + v2)), some (.ref (g.1 + v3)), some (.ref (g.1 + v4)), some (.int v5), some (.int y3), some (.int y6), none]) d_L_law_1107 (by decide) rfl ?_
  refine R_aload_n (pc := 1109) d_L_law_1109 rfl rfl ?_
  refine R_callV (pc := 1110) (As := []) (rest := []) (c_X7_thrown (g := g) v2 M5 _ h) rfl rfl cal_RL_140 ins_X7_thrown sel_X7_thrown (cls_at k4 clsOK7) (by decide) (by omega) rfl rfl (Nat.le_of_ble_eq_true rfl) d_L_law_1110 (k_I (fun y8 M7 h => ?_)) (fun _ _ h9 => False.elim h9)
  try dsimp only at h
  refine R_iload (pc := 1113) d_L_law_1113 rfl ?_
  refine R_icmp_eq (pc := 1115) (tgt := 1120) d_L_law_1115 (by decide) (fun c => ?_) (fun c => ?_)
  · rw [if_pos c] at h
    refine R_iload (pc := 1120) d_L_law_1120 rfl ?_
    refine R_if_ne (pc := 1122) (tgt := 1137) d_L_law_1122 (by decide) (fun c => ?_) (fun c => ?_)
    · rw [if_neg c] at h
      exact WP_sub (B_L_law_1137 Q κ28 hκ28 v1 v2 v3 v4 v5 M7 h) (by omega) (ls_s (ls_s (ls_s (ls_s (ls_s (ls_s (ls_n (ls_n (ls_n ls_0)))))))))
    · rw [if_pos c] at h
      refine R_aload_n (pc := 1125) d_L_law_1125 rfl rfl ?_
      refine R_iconst (pc := 1126) (v := 0) d_L_law_1126 (by decide) ?_
      obtain ⟨k9, h⟩ := h
      obtain ⟨k10, h⟩ := h
      refine R_lald (pc := 1127) k9 k10 d_L_law_1127 ?_
      refine R_iload (pc := 1128) d_L_law_1128 rfl ?_
      refine R_i2l (pc := 1130) d_L_law_1130 ?_
      refine R_lcmp (pc := 1131) d_L_law_1131 ?_
      refine R_if_eq (pc := 1132) (tgt := 1137) d_L_law_1132 (by decide) (fun c => ?_) (fun c => ?_)
      · rw [if_pos c] at h
        exact WP_sub (B_L_law_1137 Q κ28 hκ28 v1 v2 v3 v4 v5 M7 h) (by omega) (ls_s (ls_s (ls_s (ls_s (ls_s (ls_s (ls_n (ls_n (ls_n ls_0)))))))))
      · rw [if_neg c] at h
        refine R_iconst (pc := 1135) (v := 0) d_L_law_1135 (by decide) ?_
        exact R_retv (pc := 1136) d_L_law_1136 h
  · rw [if_neg c] at h
    refine R_iconst (pc := 1118) (v := 0) d_L_law_1118 (by decide) ?_
    exact R_retv (pc := 1119) d_L_law_1119 h
def T_L_law_1081 (κ28 : Nat → Nat → Nat → Nat → Int32 → Mem → Prop) (Q : Int32 → Mem → Prop) (sl : Nat) (xs : Nat → Int32) (v1 : Nat) (v2 : Nat) (v3 : Nat) (v4 : Nat) (v5 : Int32) (M : Mem) : Prop := T_L_law_2534 κ28 Q sl xs v1 v2 v3 v4 v5 M
set_option maxRecDepth 100000 in
set_option maxHeartbeats 4000000 in
theorem B_L_law_1081 {g : GG} {kr : Nat} (Q : Int32 → Mem → Prop) (κ28 : Nat → Nat → Nat → Nat → Int32 → Mem → Prop) (hκ28 : ∀ (v1 : Nat) (v2 : Nat) (v3 : Nat) (v4 : Nat) (v5 : Int32) (M : Mem), κ28 v1 v2 v3 v4 v5 M → WP g 20 mL_law 28 [some (.ref g.2.2.2.1), some (.ref (g.1 + v1)), some (.ref (g.1 + v2)), some (.ref (g.1 + v3)), some (.ref (g.1 + v4)), some (.int v5), none, none, none] [] M kr (oZ Q noX)) (v1 : Nat) (v2 : Nat) (v3 : Nat) (v4 : Nat) (v5 : Int32) (M : Mem) (h : T_L_law_1081 κ28 Q g.2.2.2.2.1 g.2.2.2.2.2 v1 v2 v3 v4 v5 M) : WP g 20 mL_law 1081 [some (.ref g.2.2.2.1), some (.ref (g.1 + v1)), some (.ref (g.1 + v2)), some (.ref (g.1 + v3)), some (.ref (g.1 + v4)), some (.int v5), none, none, none] [] M (kr + 0) (oZ Q noX) := by
  unfold T_L_law_1081 at h
  refine R_goto (pc := 1081) (tgt := 2534) d_L_law_1081 (by decide) ?_
  exact WP_sub (B_L_law_2534 Q κ28 hκ28 v1 v2 v3 v4 v5 M h) (by omega) (ls_s (ls_s (ls_s (ls_s (ls_s (ls_s (ls_n (ls_n (ls_n ls_0)))))))))
def T_L_law_992 (κ28 : Nat → Nat → Nat → Nat → Int32 → Mem → Prop) (Q : Int32 → Mem → Prop) (sl : Nat) (xs : Nat → Int32) (v1 : Nat) (v2 : Nat) (v3 : Nat) (v4 : Nat) (v5 : Int32) (M : Mem) : Prop := (vp_in (v5 + 1) sl) ∧ (vp_in (v5 + 2) sl) ∧ (vp_in (v5 + 3) sl) ∧ (vp_in (v5 + 4) sl) ∧ T_L_book (fun y6 M5 => (kd v2 = 7) ∧ T_X7_book (fun y9 M8 => T_X7_thrown (fun y11 M10 => if y11 = y6 then (if y6 = 0 then ((kd v3 = 12) ∧ (vp_in 0 (ln v3)) ∧ if (lg_cmp (M10.2.1 (Int32.toNatClampNeg 0)) (Int32.toInt64 y9)) = 0 then (T_L_law_1081 κ28 Q sl xs v1 v2 v3 v4 v5 M10) else (((0 : Int32) = 0 ∨ (0 : Int32) = 1) ∧ Q 0 M10)) else (T_L_law_1081 κ28 Q sl xs v1 v2 v3 v4 v5 M10)) else (((0 : Int32) = 0 ∨ (0 : Int32) = 1) ∧ Q 0 M10))  v2 M8)  v2 (xs (Int32.toNatClampNeg (v5 + 1))) (xs (Int32.toNatClampNeg (v5 + 2))) (xs (Int32.toNatClampNeg (v5 + 3))) (xs (Int32.toNatClampNeg (v5 + 4))) M5)  v1 (xs (Int32.toNatClampNeg (v5 + 1))) (xs (Int32.toNatClampNeg (v5 + 2))) (xs (Int32.toNatClampNeg (v5 + 3))) (xs (Int32.toNatClampNeg (v5 + 4))) v3 M
set_option maxRecDepth 100000 in
set_option maxHeartbeats 4000000 in
theorem B_L_law_992 {g : GG} {kr : Nat} (Q : Int32 → Mem → Prop) (κ28 : Nat → Nat → Nat → Nat → Int32 → Mem → Prop) (hκ28 : ∀ (v1 : Nat) (v2 : Nat) (v3 : Nat) (v4 : Nat) (v5 : Int32) (M : Mem), κ28 v1 v2 v3 v4 v5 M → WP g 20 mL_law 28 [some (.ref g.2.2.2.1), some (.ref (g.1 + v1)), some (.ref (g.1 + v2)), some (.ref (g.1 + v3)), some (.ref (g.1 + v4)), some (.int v5), none, none, none] [] M kr (oZ Q noX)) (v1 : Nat) (v2 : Nat) (v3 : Nat) (v4 : Nat) (v5 : Int32) (M : Mem) (h : T_L_law_992 κ28 Q g.2.2.2.2.1 g.2.2.2.2.2 v1 v2 v3 v4 v5 M) : WP g 20 mL_law 992 [some (.ref g.2.2.2.1), some (.ref (g.1 + v1)), some (.ref (g.1 + v2)), some (.ref (g.1 + v3)), some (.ref (g.1 + v4)), some (.int v5), none, none, none] [] M (kr + 2) (oZ Q noX) := by
  unfold T_L_law_992 at h
  refine R_aload_n (pc := 992) d_L_law_992 rfl rfl ?_
  refine R_aload_n (pc := 993) d_L_law_993 rfl rfl ?_
  refine R_iload (pc := 994) d_L_law_994 rfl ?_
  refine R_iconst (pc := 996) (v := 1) d_L_law_996 (by decide) ?_
  refine R_iadd (pc := 997) d_L_law_997 ?_
  obtain ⟨k1, h⟩ := h
  refine R_sld (pc := 998) k1 d_L_law_998 ?_
  refine R_aload_n (pc := 999) d_L_law_999 rfl rfl ?_
  refine R_iload (pc := 1000) d_L_law_1000 rfl ?_
  refine R_iconst (pc := 1002) (v := 2) d_L_law_1002 (by decide) ?_
  refine R_iadd (pc := 1003) d_L_law_1003 ?_
  obtain ⟨k2, h⟩ := h
  refine R_sld (pc := 1004) k2 d_L_law_1004 ?_
  refine R_aload_n (pc := 1005) d_L_law_1005 rfl rfl ?_
  refine R_iload (pc := 1006) d_L_law_1006 rfl ?_
  refine R_iconst (pc := 1008) (v := 3) d_L_law_1008 (by decide) ?_
  refine R_iadd (pc := 1009) d_L_law_1009 ?_
  obtain ⟨k3, h⟩ := h
  refine R_sld (pc := 1010) k3 d_L_law_1010 ?_
  refine R_aload_n (pc := 1011) d_L_law_1011 rfl rfl ?_
  refine R_iload (pc := 1012) d_L_law_1012 rfl ?_
  refine R_iconst (pc := 1014) (v := 4) d_L_law_1014 (by decide) ?_
  refine R_iadd (pc := 1015) d_L_law_1015 ?_
  obtain ⟨k4, h⟩ := h
  refine R_sld (pc := 1016) k4 d_L_law_1016 ?_
  refine R_aload_n (pc := 1017) d_L_law_1017 rfl rfl ?_
  refine R_callSW (pc := 1018) (As := [.ref (g.1 + v1), .int (g.2.2.2.2.2 (Int32.toNatClampNeg (v5 + 1))), .int (g.2.2.2.2.2 (Int32.toNatClampNeg (v5 + 2))), .int (g.2.2.2.2.2 (Int32.toNatClampNeg (v5 + 3))), .int (g.2.2.2.2.2 (Int32.toNatClampNeg (v5 + 4))), .ref (g.1 + v3)]) (rest := []) (c_L_book (g := g) v1 (g.2.2.2.2.2 (Int32.toNatClampNeg (v5 + 1))) (g.2.2.2.2.2 (Int32.toNatClampNeg (v5 + 2))) (g.2.2.2.2.2 (Int32.toNatClampNeg (v5 + 3))) (g.2.2.2.2.2 (Int32.toNatClampNeg (v5 + 4))) v3 M _ h) rfl rfl cal_RL_176 sta_L_book (by decide) (by omega) rfl rfl (Nat.le_of_ble_eq_true rfl) d_L_law_1018 (k_I (fun y6 M5 h => ?_)) (fun _ _ h9 => False.elim h9)
  try dsimp only at h
  refine R_istore (pc := 1021) (L' := [some (.ref g.2.2.2.1), some (.ref (g.1 + v1)), some (.ref (g.1 + v2)), some (.ref (g.1 + v3)), some (.ref (g.1 + v4)), some (.int v5), some (.int y6), none, none]) d_L_law_1021 (by decide) rfl ?_
  refine R_aload_n (pc := 1023) d_L_law_1023 rfl rfl ?_
  refine R_aload_n (pc := 1024) d_L_law_1024 rfl rfl ?_
  refine R_iload (pc := 1025) d_L_law_1025 rfl ?_
  refine R_iconst (pc := 1027) (v := 1) d_L_law_1027 (by decide) ?_
  refine R_iadd (pc := 1028) d_L_law_1028 ?_
  refine R_sld (pc := 1029) k1 d_L_law_1029 ?_
  refine R_aload_n (pc := 1030) d_L_law_1030 rfl rfl ?_
  refine R_iload (pc := 1031) d_L_law_1031 rfl ?_
  refine R_iconst (pc := 1033) (v := 2) d_L_law_1033 (by decide) ?_
  refine R_iadd (pc := 1034) d_L_law_1034 ?_
  refine R_sld (pc := 1035) k2 d_L_law_1035 ?_
  refine R_aload_n (pc := 1036) d_L_law_1036 rfl rfl ?_
  refine R_iload (pc := 1037) d_L_law_1037 rfl ?_
  refine R_iconst (pc := 1039) (v := 3) d_L_law_1039 (by decide) ?_
  refine R_iadd (pc := 1040) d_L_law_1040 ?_
  refine R_sld (pc := 1041) k3 d_L_law_1041 ?_
  refine R_aload_n (pc := 1042) d_L_law_1042 rfl rfl ?_
  refine R_iload (pc := 1043) d_L_law_1043 rfl ?_
  refine R_iconst (pc := 1045) (v := 4) d_L_law_1045 (by decide) ?_
  refine R_iadd (pc := 1046) d_L_law_1046 ?_
  refine R_sld (pc := 1047) k4 d_L_law_1047 ?_
  obtain ⟨k7, h⟩ := h
  refine R_callV (pc := 1048) (As := [.int (g.2.2.2.2.2 (Int32.toNatClampNeg (v5 + 1))), .int (g.2.2.2.2.2 (Int32.toNatClampNeg (v5 + 2))), .int (g.2.2.2.2.2 (Int32.toNatClampNeg (v5 + 3))), .int (g.2.2.2.2.2 (Int32.toNatClampNeg (v5 + 4)))]) (rest := []) (c_X7_book (g := g) v2 (g.2.2.2.2.2 (Int32.toNatClampNeg (v5 + 1))) (g.2.2.2.2.2 (Int32.toNatClampNeg (v5 + 2))) (g.2.2.2.2.2 (Int32.toNatClampNeg (v5 + 3))) (g.2.2.2.2.2 (Int32.toNatClampNeg (v5 + 4))) M5 _ h) rfl rfl cal_RL_179 ins_X7_book sel_X7_book (cls_at k7 clsOK7) (by decide) (by omega) rfl rfl (Nat.le_of_ble_eq_true rfl) d_L_law_1048 (k_I (fun y9 M8 h => ?_)) (fun _ _ h9 => False.elim h9)
  try dsimp only at h
  refine R_istore (pc := 1051) (L' := [some (.ref g.2.2.2.1), some (.ref (g.1 + v1)), some (.ref (g.1 + v2)), some (.ref (g.1 + v3)), some (.ref (g.1 + v4)), some (.int v5), some (.int y6), some (.int y9), none]) d_L_law_1051 (by decide) rfl ?_
  refine R_aload_n (pc := 1053) d_L_law_1053 rfl rfl ?_
  refine R_callV (pc := 1054) (As := []) (rest := []) (c_X7_thrown (g := g) v2 M8 _ h) rfl rfl cal_RL_140 ins_X7_thrown sel_X7_thrown (cls_at k7 clsOK7) (by decide) (by omega) rfl rfl (Nat.le_of_ble_eq_true rfl) d_L_law_1054 (k_I (fun y11 M10 h => ?_)) (fun _ _ h9 => False.elim h9)
  try dsimp only at h
  refine R_iload (pc := 1057) d_L_law_1057 rfl ?_
  refine R_icmp_eq (pc := 1059) (tgt := 1064) d_L_law_1059 (by decide) (fun c => ?_) (fun c => ?_)
  · rw [if_pos c] at h
    refine R_iload (pc := 1064) d_L_law_1064 rfl ?_
    refine R_if_ne (pc := 1066) (tgt := 1081) d_L_law_1066 (by decide) (fun c => ?_) (fun c => ?_)
    · rw [if_neg c] at h
      exact WP_sub (B_L_law_1081 Q κ28 hκ28 v1 v2 v3 v4 v5 M10 h) (by omega) (ls_s (ls_s (ls_s (ls_s (ls_s (ls_s (ls_n (ls_n (ls_n ls_0)))))))))
    · rw [if_pos c] at h
      refine R_aload_n (pc := 1069) d_L_law_1069 rfl rfl ?_
      refine R_iconst (pc := 1070) (v := 0) d_L_law_1070 (by decide) ?_
      obtain ⟨k12, h⟩ := h
      obtain ⟨k13, h⟩ := h
      refine R_lald (pc := 1071) k12 k13 d_L_law_1071 ?_
      refine R_iload (pc := 1072) d_L_law_1072 rfl ?_
      refine R_i2l (pc := 1074) d_L_law_1074 ?_
      refine R_lcmp (pc := 1075) d_L_law_1075 ?_
      refine R_if_eq (pc := 1076) (tgt := 1081) d_L_law_1076 (by decide) (fun c => ?_) (fun c => ?_)
      · rw [if_pos c] at h
        exact WP_sub (B_L_law_1081 Q κ28 hκ28 v1 v2 v3 v4 v5 M10 h) (by omega) (ls_s (ls_s (ls_s (ls_s (ls_s (ls_s (ls_n (ls_n (ls_n ls_0)))))))))
      · rw [if_neg c] at h
        refine R_iconst (pc := 1079) (v := 0) d_L_law_1079 (by decide) ?_
        exact R_retv (pc := 1080) d_L_law_1080 h
  · rw [if_neg c] at h
    refine R_iconst (pc := 1062) (v := 0) d_L_law_1062 (by decide) ?_
    exact R_retv (pc := 1063) d_L_law_1063 h
def T_L_law_989 (κ28 : Nat → Nat → Nat → Nat → Int32 → Mem → Prop) (Q : Int32 → Mem → Prop) (sl : Nat) (xs : Nat → Int32) (v1 : Nat) (v2 : Nat) (v3 : Nat) (v4 : Nat) (v5 : Int32) (M : Mem) : Prop := T_L_law_2534 κ28 Q sl xs v1 v2 v3 v4 v5 M
set_option maxRecDepth 100000 in
set_option maxHeartbeats 4000000 in
theorem B_L_law_989 {g : GG} {kr : Nat} (Q : Int32 → Mem → Prop) (κ28 : Nat → Nat → Nat → Nat → Int32 → Mem → Prop) (hκ28 : ∀ (v1 : Nat) (v2 : Nat) (v3 : Nat) (v4 : Nat) (v5 : Int32) (M : Mem), κ28 v1 v2 v3 v4 v5 M → WP g 20 mL_law 28 [some (.ref g.2.2.2.1), some (.ref (g.1 + v1)), some (.ref (g.1 + v2)), some (.ref (g.1 + v3)), some (.ref (g.1 + v4)), some (.int v5), none, none, none] [] M kr (oZ Q noX)) (v1 : Nat) (v2 : Nat) (v3 : Nat) (v4 : Nat) (v5 : Int32) (M : Mem) (h : T_L_law_989 κ28 Q g.2.2.2.2.1 g.2.2.2.2.2 v1 v2 v3 v4 v5 M) : WP g 20 mL_law 989 [some (.ref g.2.2.2.1), some (.ref (g.1 + v1)), some (.ref (g.1 + v2)), some (.ref (g.1 + v3)), some (.ref (g.1 + v4)), some (.int v5), none, none, none] [] M (kr + 1) (oZ Q noX) := by
  unfold T_L_law_989 at h
  refine R_goto (pc := 989) (tgt := 2534) d_L_law_989 (by decide) ?_
  exact WP_sub (B_L_law_2534 Q κ28 hκ28 v1 v2 v3 v4 v5 M h) (by omega) (ls_s (ls_s (ls_s (ls_s (ls_s (ls_s (ls_n (ls_n (ls_n ls_0)))))))))
def T_L_law_924 (κ28 : Nat → Nat → Nat → Nat → Int32 → Mem → Prop) (Q : Int32 → Mem → Prop) (sl : Nat) (xs : Nat → Int32) (v1 : Nat) (v2 : Nat) (v3 : Nat) (v4 : Nat) (v5 : Int32) (M : Mem) : Prop := (vp_in (v5 + 1) sl) ∧ (vp_in (v5 + 2) sl) ∧ T_L_ordered (fun y4 M3 => (kd v2 = 7) ∧ T_X7_ordered (fun y7 M6 => T_X7_thrown (fun y9 M8 => if y9 = y4 then (if y4 = 0 then ((kd v3 = 12) ∧ (vp_in 0 (ln v3)) ∧ if (lg_cmp (M8.2.1 (Int32.toNatClampNeg 0)) (Int32.toInt64 y7)) = 0 then (T_L_law_989 κ28 Q sl xs v1 v2 v3 v4 v5 M8) else (((0 : Int32) = 0 ∨ (0 : Int32) = 1) ∧ Q 0 M8)) else (T_L_law_989 κ28 Q sl xs v1 v2 v3 v4 v5 M8)) else (((0 : Int32) = 0 ∨ (0 : Int32) = 1) ∧ Q 0 M8))  v2 M6)  v2 (xs (Int32.toNatClampNeg (v5 + 1))) (xs (Int32.toNatClampNeg (v5 + 2))) M3)  v1 (xs (Int32.toNatClampNeg (v5 + 1))) (xs (Int32.toNatClampNeg (v5 + 2))) v3 M
set_option maxRecDepth 100000 in
set_option maxHeartbeats 4000000 in
theorem B_L_law_924 {g : GG} {kr : Nat} (Q : Int32 → Mem → Prop) (κ28 : Nat → Nat → Nat → Nat → Int32 → Mem → Prop) (hκ28 : ∀ (v1 : Nat) (v2 : Nat) (v3 : Nat) (v4 : Nat) (v5 : Int32) (M : Mem), κ28 v1 v2 v3 v4 v5 M → WP g 20 mL_law 28 [some (.ref g.2.2.2.1), some (.ref (g.1 + v1)), some (.ref (g.1 + v2)), some (.ref (g.1 + v3)), some (.ref (g.1 + v4)), some (.int v5), none, none, none] [] M kr (oZ Q noX)) (v1 : Nat) (v2 : Nat) (v3 : Nat) (v4 : Nat) (v5 : Int32) (M : Mem) (h : T_L_law_924 κ28 Q g.2.2.2.2.1 g.2.2.2.2.2 v1 v2 v3 v4 v5 M) : WP g 20 mL_law 924 [some (.ref g.2.2.2.1), some (.ref (g.1 + v1)), some (.ref (g.1 + v2)), some (.ref (g.1 + v3)), some (.ref (g.1 + v4)), some (.int v5), none, none, none] [] M (kr + 2) (oZ Q noX) := by
  unfold T_L_law_924 at h
  refine R_aload_n (pc := 924) d_L_law_924 rfl rfl ?_
  refine R_aload_n (pc := 925) d_L_law_925 rfl rfl ?_
  refine R_iload (pc := 926) d_L_law_926 rfl ?_
  refine R_iconst (pc := 928) (v := 1) d_L_law_928 (by decide) ?_
  refine R_iadd (pc := 929) d_L_law_929 ?_
  obtain ⟨k1, h⟩ := h
  refine R_sld (pc := 930) k1 d_L_law_930 ?_
  refine R_aload_n (pc := 931) d_L_law_931 rfl rfl ?_
  refine R_iload (pc := 932) d_L_law_932 rfl ?_
  refine R_iconst (pc := 934) (v := 2) d_L_law_934 (by decide) ?_
  refine R_iadd (pc := 935) d_L_law_935 ?_
  obtain ⟨k2, h⟩ := h
  refine R_sld (pc := 936) k2 d_L_law_936 ?_
  refine R_aload_n (pc := 937) d_L_law_937 rfl rfl ?_
  refine R_callSW (pc := 938) (As := [.ref (g.1 + v1), .int (g.2.2.2.2.2 (Int32.toNatClampNeg (v5 + 1))), .int (g.2.2.2.2.2 (Int32.toNatClampNeg (v5 + 2))), .ref (g.1 + v3)]) (rest := []) (c_L_ordered (g := g) v1 (g.2.2.2.2.2 (Int32.toNatClampNeg (v5 + 1))) (g.2.2.2.2.2 (Int32.toNatClampNeg (v5 + 2))) v3 M _ h) rfl rfl cal_RL_173 sta_L_ordered (by decide) (by omega) rfl rfl (Nat.le_of_ble_eq_true rfl) d_L_law_938 (k_I (fun y4 M3 h => ?_)) (fun _ _ h9 => False.elim h9)
  try dsimp only at h
  refine R_istore (pc := 941) (L' := [some (.ref g.2.2.2.1), some (.ref (g.1 + v1)), some (.ref (g.1 + v2)), some (.ref (g.1 + v3)), some (.ref (g.1 + v4)), some (.int v5), some (.int y4), none, none]) d_L_law_941 (by decide) rfl ?_
  refine R_aload_n (pc := 943) d_L_law_943 rfl rfl ?_
  refine R_aload_n (pc := 944) d_L_law_944 rfl rfl ?_
  refine R_iload (pc := 945) d_L_law_945 rfl ?_
  refine R_iconst (pc := 947) (v := 1) d_L_law_947 (by decide) ?_
  refine R_iadd (pc := 948) d_L_law_948 ?_
  refine R_sld (pc := 949) k1 d_L_law_949 ?_
  refine R_aload_n (pc := 950) d_L_law_950 rfl rfl ?_
  refine R_iload (pc := 951) d_L_law_951 rfl ?_
  refine R_iconst (pc := 953) (v := 2) d_L_law_953 (by decide) ?_
  refine R_iadd (pc := 954) d_L_law_954 ?_
  refine R_sld (pc := 955) k2 d_L_law_955 ?_
  obtain ⟨k5, h⟩ := h
  refine R_callV (pc := 956) (As := [.int (g.2.2.2.2.2 (Int32.toNatClampNeg (v5 + 1))), .int (g.2.2.2.2.2 (Int32.toNatClampNeg (v5 + 2)))]) (rest := []) (c_X7_ordered (g := g) v2 (g.2.2.2.2.2 (Int32.toNatClampNeg (v5 + 1))) (g.2.2.2.2.2 (Int32.toNatClampNeg (v5 + 2))) M3 _ h) rfl rfl cal_RL_175 ins_X7_ordered sel_X7_ordered (cls_at k5 clsOK7) (by decide) (by omega) rfl rfl (Nat.le_of_ble_eq_true rfl) d_L_law_956 (k_I (fun y7 M6 h => ?_)) (fun _ _ h9 => False.elim h9)
  try dsimp only at h
  refine R_istore (pc := 959) (L' := [some (.ref g.2.2.2.1), some (.ref (g.1 + v1)), some (.ref (g.1 + v2)), some (.ref (g.1 + v3)), some (.ref (g.1 + v4)), some (.int v5), some (.int y4), some (.int y7), none]) d_L_law_959 (by decide) rfl ?_
  refine R_aload_n (pc := 961) d_L_law_961 rfl rfl ?_
  refine R_callV (pc := 962) (As := []) (rest := []) (c_X7_thrown (g := g) v2 M6 _ h) rfl rfl cal_RL_140 ins_X7_thrown sel_X7_thrown (cls_at k5 clsOK7) (by decide) (by omega) rfl rfl (Nat.le_of_ble_eq_true rfl) d_L_law_962 (k_I (fun y9 M8 h => ?_)) (fun _ _ h9 => False.elim h9)
  try dsimp only at h
  refine R_iload (pc := 965) d_L_law_965 rfl ?_
  refine R_icmp_eq (pc := 967) (tgt := 972) d_L_law_967 (by decide) (fun c => ?_) (fun c => ?_)
  · rw [if_pos c] at h
    refine R_iload (pc := 972) d_L_law_972 rfl ?_
    refine R_if_ne (pc := 974) (tgt := 989) d_L_law_974 (by decide) (fun c => ?_) (fun c => ?_)
    · rw [if_neg c] at h
      exact WP_sub (B_L_law_989 Q κ28 hκ28 v1 v2 v3 v4 v5 M8 h) (by omega) (ls_s (ls_s (ls_s (ls_s (ls_s (ls_s (ls_n (ls_n (ls_n ls_0)))))))))
    · rw [if_pos c] at h
      refine R_aload_n (pc := 977) d_L_law_977 rfl rfl ?_
      refine R_iconst (pc := 978) (v := 0) d_L_law_978 (by decide) ?_
      obtain ⟨k10, h⟩ := h
      obtain ⟨k11, h⟩ := h
      refine R_lald (pc := 979) k10 k11 d_L_law_979 ?_
      refine R_iload (pc := 980) d_L_law_980 rfl ?_
      refine R_i2l (pc := 982) d_L_law_982 ?_
      refine R_lcmp (pc := 983) d_L_law_983 ?_
      refine R_if_eq (pc := 984) (tgt := 989) d_L_law_984 (by decide) (fun c => ?_) (fun c => ?_)
      · rw [if_pos c] at h
        exact WP_sub (B_L_law_989 Q κ28 hκ28 v1 v2 v3 v4 v5 M8 h) (by omega) (ls_s (ls_s (ls_s (ls_s (ls_s (ls_s (ls_n (ls_n (ls_n ls_0)))))))))
      · rw [if_neg c] at h
        refine R_iconst (pc := 987) (v := 0) d_L_law_987 (by decide) ?_
        exact R_retv (pc := 988) d_L_law_988 h
  · rw [if_neg c] at h
    refine R_iconst (pc := 970) (v := 0) d_L_law_970 (by decide) ?_
    exact R_retv (pc := 971) d_L_law_971 h
def T_L_law_921 (κ28 : Nat → Nat → Nat → Nat → Int32 → Mem → Prop) (Q : Int32 → Mem → Prop) (sl : Nat) (xs : Nat → Int32) (v1 : Nat) (v2 : Nat) (v3 : Nat) (v4 : Nat) (v5 : Int32) (M : Mem) : Prop := T_L_law_2534 κ28 Q sl xs v1 v2 v3 v4 v5 M
set_option maxRecDepth 100000 in
set_option maxHeartbeats 4000000 in
theorem B_L_law_921 {g : GG} {kr : Nat} (Q : Int32 → Mem → Prop) (κ28 : Nat → Nat → Nat → Nat → Int32 → Mem → Prop) (hκ28 : ∀ (v1 : Nat) (v2 : Nat) (v3 : Nat) (v4 : Nat) (v5 : Int32) (M : Mem), κ28 v1 v2 v3 v4 v5 M → WP g 20 mL_law 28 [some (.ref g.2.2.2.1), some (.ref (g.1 + v1)), some (.ref (g.1 + v2)), some (.ref (g.1 + v3)), some (.ref (g.1 + v4)), some (.int v5), none, none, none] [] M kr (oZ Q noX)) (v1 : Nat) (v2 : Nat) (v3 : Nat) (v4 : Nat) (v5 : Int32) (M : Mem) (h : T_L_law_921 κ28 Q g.2.2.2.2.1 g.2.2.2.2.2 v1 v2 v3 v4 v5 M) : WP g 20 mL_law 921 [some (.ref g.2.2.2.1), some (.ref (g.1 + v1)), some (.ref (g.1 + v2)), some (.ref (g.1 + v3)), some (.ref (g.1 + v4)), some (.int v5), none, none, none] [] M (kr + 1) (oZ Q noX) := by
  unfold T_L_law_921 at h
  refine R_goto (pc := 921) (tgt := 2534) d_L_law_921 (by decide) ?_
  exact WP_sub (B_L_law_2534 Q κ28 hκ28 v1 v2 v3 v4 v5 M h) (by omega) (ls_s (ls_s (ls_s (ls_s (ls_s (ls_s (ls_n (ls_n (ls_n ls_0)))))))))
def T_L_law_856 (κ28 : Nat → Nat → Nat → Nat → Int32 → Mem → Prop) (Q : Int32 → Mem → Prop) (sl : Nat) (xs : Nat → Int32) (v1 : Nat) (v2 : Nat) (v3 : Nat) (v4 : Nat) (v5 : Int32) (M : Mem) : Prop := (vp_in (v5 + 1) sl) ∧ (vp_in (v5 + 2) sl) ∧ T_L_room (fun y4 M3 => (kd v2 = 7) ∧ T_X7_room (fun y7 M6 => T_X7_thrown (fun y9 M8 => if y9 = y4 then (if y4 = 0 then ((kd v3 = 12) ∧ (vp_in 0 (ln v3)) ∧ if (lg_cmp (M8.2.1 (Int32.toNatClampNeg 0)) (Int32.toInt64 y7)) = 0 then (T_L_law_921 κ28 Q sl xs v1 v2 v3 v4 v5 M8) else (((0 : Int32) = 0 ∨ (0 : Int32) = 1) ∧ Q 0 M8)) else (T_L_law_921 κ28 Q sl xs v1 v2 v3 v4 v5 M8)) else (((0 : Int32) = 0 ∨ (0 : Int32) = 1) ∧ Q 0 M8))  v2 M6)  v2 (xs (Int32.toNatClampNeg (v5 + 1))) (xs (Int32.toNatClampNeg (v5 + 2))) M3)  v1 (xs (Int32.toNatClampNeg (v5 + 1))) (xs (Int32.toNatClampNeg (v5 + 2))) v3 M
set_option maxRecDepth 100000 in
set_option maxHeartbeats 4000000 in
theorem B_L_law_856 {g : GG} {kr : Nat} (Q : Int32 → Mem → Prop) (κ28 : Nat → Nat → Nat → Nat → Int32 → Mem → Prop) (hκ28 : ∀ (v1 : Nat) (v2 : Nat) (v3 : Nat) (v4 : Nat) (v5 : Int32) (M : Mem), κ28 v1 v2 v3 v4 v5 M → WP g 20 mL_law 28 [some (.ref g.2.2.2.1), some (.ref (g.1 + v1)), some (.ref (g.1 + v2)), some (.ref (g.1 + v3)), some (.ref (g.1 + v4)), some (.int v5), none, none, none] [] M kr (oZ Q noX)) (v1 : Nat) (v2 : Nat) (v3 : Nat) (v4 : Nat) (v5 : Int32) (M : Mem) (h : T_L_law_856 κ28 Q g.2.2.2.2.1 g.2.2.2.2.2 v1 v2 v3 v4 v5 M) : WP g 20 mL_law 856 [some (.ref g.2.2.2.1), some (.ref (g.1 + v1)), some (.ref (g.1 + v2)), some (.ref (g.1 + v3)), some (.ref (g.1 + v4)), some (.int v5), none, none, none] [] M (kr + 2) (oZ Q noX) := by
  unfold T_L_law_856 at h
  refine R_aload_n (pc := 856) d_L_law_856 rfl rfl ?_
  refine R_aload_n (pc := 857) d_L_law_857 rfl rfl ?_
  refine R_iload (pc := 858) d_L_law_858 rfl ?_
  refine R_iconst (pc := 860) (v := 1) d_L_law_860 (by decide) ?_
  refine R_iadd (pc := 861) d_L_law_861 ?_
  obtain ⟨k1, h⟩ := h
  refine R_sld (pc := 862) k1 d_L_law_862 ?_
  refine R_aload_n (pc := 863) d_L_law_863 rfl rfl ?_
  refine R_iload (pc := 864) d_L_law_864 rfl ?_
  refine R_iconst (pc := 866) (v := 2) d_L_law_866 (by decide) ?_
  refine R_iadd (pc := 867) d_L_law_867 ?_
  obtain ⟨k2, h⟩ := h
  refine R_sld (pc := 868) k2 d_L_law_868 ?_
  refine R_aload_n (pc := 869) d_L_law_869 rfl rfl ?_
  refine R_callSW (pc := 870) (As := [.ref (g.1 + v1), .int (g.2.2.2.2.2 (Int32.toNatClampNeg (v5 + 1))), .int (g.2.2.2.2.2 (Int32.toNatClampNeg (v5 + 2))), .ref (g.1 + v3)]) (rest := []) (c_L_room (g := g) v1 (g.2.2.2.2.2 (Int32.toNatClampNeg (v5 + 1))) (g.2.2.2.2.2 (Int32.toNatClampNeg (v5 + 2))) v3 M _ h) rfl rfl cal_RL_170 sta_L_room (by decide) (by omega) rfl rfl (Nat.le_of_ble_eq_true rfl) d_L_law_870 (k_I (fun y4 M3 h => ?_)) (fun _ _ h9 => False.elim h9)
  try dsimp only at h
  refine R_istore (pc := 873) (L' := [some (.ref g.2.2.2.1), some (.ref (g.1 + v1)), some (.ref (g.1 + v2)), some (.ref (g.1 + v3)), some (.ref (g.1 + v4)), some (.int v5), some (.int y4), none, none]) d_L_law_873 (by decide) rfl ?_
  refine R_aload_n (pc := 875) d_L_law_875 rfl rfl ?_
  refine R_aload_n (pc := 876) d_L_law_876 rfl rfl ?_
  refine R_iload (pc := 877) d_L_law_877 rfl ?_
  refine R_iconst (pc := 879) (v := 1) d_L_law_879 (by decide) ?_
  refine R_iadd (pc := 880) d_L_law_880 ?_
  refine R_sld (pc := 881) k1 d_L_law_881 ?_
  refine R_aload_n (pc := 882) d_L_law_882 rfl rfl ?_
  refine R_iload (pc := 883) d_L_law_883 rfl ?_
  refine R_iconst (pc := 885) (v := 2) d_L_law_885 (by decide) ?_
  refine R_iadd (pc := 886) d_L_law_886 ?_
  refine R_sld (pc := 887) k2 d_L_law_887 ?_
  obtain ⟨k5, h⟩ := h
  refine R_callV (pc := 888) (As := [.int (g.2.2.2.2.2 (Int32.toNatClampNeg (v5 + 1))), .int (g.2.2.2.2.2 (Int32.toNatClampNeg (v5 + 2)))]) (rest := []) (c_X7_room (g := g) v2 (g.2.2.2.2.2 (Int32.toNatClampNeg (v5 + 1))) (g.2.2.2.2.2 (Int32.toNatClampNeg (v5 + 2))) M3 _ h) rfl rfl cal_RL_172 ins_X7_room sel_X7_room (cls_at k5 clsOK7) (by decide) (by omega) rfl rfl (Nat.le_of_ble_eq_true rfl) d_L_law_888 (k_I (fun y7 M6 h => ?_)) (fun _ _ h9 => False.elim h9)
  try dsimp only at h
  refine R_istore (pc := 891) (L' := [some (.ref g.2.2.2.1), some (.ref (g.1 + v1)), some (.ref (g.1 + v2)), some (.ref (g.1 + v3)), some (.ref (g.1 + v4)), some (.int v5), some (.int y4), some (.int y7), none]) d_L_law_891 (by decide) rfl ?_
  refine R_aload_n (pc := 893) d_L_law_893 rfl rfl ?_
  refine R_callV (pc := 894) (As := []) (rest := []) (c_X7_thrown (g := g) v2 M6 _ h) rfl rfl cal_RL_140 ins_X7_thrown sel_X7_thrown (cls_at k5 clsOK7) (by decide) (by omega) rfl rfl (Nat.le_of_ble_eq_true rfl) d_L_law_894 (k_I (fun y9 M8 h => ?_)) (fun _ _ h9 => False.elim h9)
  try dsimp only at h
  refine R_iload (pc := 897) d_L_law_897 rfl ?_
  refine R_icmp_eq (pc := 899) (tgt := 904) d_L_law_899 (by decide) (fun c => ?_) (fun c => ?_)
  · rw [if_pos c] at h
    refine R_iload (pc := 904) d_L_law_904 rfl ?_
    refine R_if_ne (pc := 906) (tgt := 921) d_L_law_906 (by decide) (fun c => ?_) (fun c => ?_)
    · rw [if_neg c] at h
      exact WP_sub (B_L_law_921 Q κ28 hκ28 v1 v2 v3 v4 v5 M8 h) (by omega) (ls_s (ls_s (ls_s (ls_s (ls_s (ls_s (ls_n (ls_n (ls_n ls_0)))))))))
    · rw [if_pos c] at h
      refine R_aload_n (pc := 909) d_L_law_909 rfl rfl ?_
      refine R_iconst (pc := 910) (v := 0) d_L_law_910 (by decide) ?_
      obtain ⟨k10, h⟩ := h
      obtain ⟨k11, h⟩ := h
      refine R_lald (pc := 911) k10 k11 d_L_law_911 ?_
      refine R_iload (pc := 912) d_L_law_912 rfl ?_
      refine R_i2l (pc := 914) d_L_law_914 ?_
      refine R_lcmp (pc := 915) d_L_law_915 ?_
      refine R_if_eq (pc := 916) (tgt := 921) d_L_law_916 (by decide) (fun c => ?_) (fun c => ?_)
      · rw [if_pos c] at h
        exact WP_sub (B_L_law_921 Q κ28 hκ28 v1 v2 v3 v4 v5 M8 h) (by omega) (ls_s (ls_s (ls_s (ls_s (ls_s (ls_s (ls_n (ls_n (ls_n ls_0)))))))))
      · rw [if_neg c] at h
        refine R_iconst (pc := 919) (v := 0) d_L_law_919 (by decide) ?_
        exact R_retv (pc := 920) d_L_law_920 h
  · rw [if_neg c] at h
    refine R_iconst (pc := 902) (v := 0) d_L_law_902 (by decide) ?_
    exact R_retv (pc := 903) d_L_law_903 h
def T_L_law_853 (κ28 : Nat → Nat → Nat → Nat → Int32 → Mem → Prop) (Q : Int32 → Mem → Prop) (sl : Nat) (xs : Nat → Int32) (v1 : Nat) (v2 : Nat) (v3 : Nat) (v4 : Nat) (v5 : Int32) (M : Mem) : Prop := T_L_law_2534 κ28 Q sl xs v1 v2 v3 v4 v5 M
set_option maxRecDepth 100000 in
set_option maxHeartbeats 4000000 in
theorem B_L_law_853 {g : GG} {kr : Nat} (Q : Int32 → Mem → Prop) (κ28 : Nat → Nat → Nat → Nat → Int32 → Mem → Prop) (hκ28 : ∀ (v1 : Nat) (v2 : Nat) (v3 : Nat) (v4 : Nat) (v5 : Int32) (M : Mem), κ28 v1 v2 v3 v4 v5 M → WP g 20 mL_law 28 [some (.ref g.2.2.2.1), some (.ref (g.1 + v1)), some (.ref (g.1 + v2)), some (.ref (g.1 + v3)), some (.ref (g.1 + v4)), some (.int v5), none, none, none] [] M kr (oZ Q noX)) (v1 : Nat) (v2 : Nat) (v3 : Nat) (v4 : Nat) (v5 : Int32) (M : Mem) (h : T_L_law_853 κ28 Q g.2.2.2.2.1 g.2.2.2.2.2 v1 v2 v3 v4 v5 M) : WP g 20 mL_law 853 [some (.ref g.2.2.2.1), some (.ref (g.1 + v1)), some (.ref (g.1 + v2)), some (.ref (g.1 + v3)), some (.ref (g.1 + v4)), some (.int v5), none, none, none] [] M (kr + 1) (oZ Q noX) := by
  unfold T_L_law_853 at h
  refine R_goto (pc := 853) (tgt := 2534) d_L_law_853 (by decide) ?_
  exact WP_sub (B_L_law_2534 Q κ28 hκ28 v1 v2 v3 v4 v5 M h) (by omega) (ls_s (ls_s (ls_s (ls_s (ls_s (ls_s (ls_n (ls_n (ls_n ls_0)))))))))
def T_L_law_788 (κ28 : Nat → Nat → Nat → Nat → Int32 → Mem → Prop) (Q : Int32 → Mem → Prop) (sl : Nat) (xs : Nat → Int32) (v1 : Nat) (v2 : Nat) (v3 : Nat) (v4 : Nat) (v5 : Int32) (M : Mem) : Prop := (vp_in (v5 + 1) sl) ∧ (vp_in (v5 + 2) sl) ∧ T_L_inmate (fun y4 M3 => (kd v2 = 7) ∧ T_X7_inmate (fun y7 M6 => T_X7_thrown (fun y9 M8 => if y9 = y4 then (if y4 = 0 then ((kd v3 = 12) ∧ (vp_in 0 (ln v3)) ∧ if (lg_cmp (M8.2.1 (Int32.toNatClampNeg 0)) (Int32.toInt64 y7)) = 0 then (T_L_law_853 κ28 Q sl xs v1 v2 v3 v4 v5 M8) else (((0 : Int32) = 0 ∨ (0 : Int32) = 1) ∧ Q 0 M8)) else (T_L_law_853 κ28 Q sl xs v1 v2 v3 v4 v5 M8)) else (((0 : Int32) = 0 ∨ (0 : Int32) = 1) ∧ Q 0 M8))  v2 M6)  v2 (xs (Int32.toNatClampNeg (v5 + 1))) (xs (Int32.toNatClampNeg (v5 + 2))) M3)  v1 (xs (Int32.toNatClampNeg (v5 + 1))) (xs (Int32.toNatClampNeg (v5 + 2))) v3 M
set_option maxRecDepth 100000 in
set_option maxHeartbeats 4000000 in
theorem B_L_law_788 {g : GG} {kr : Nat} (Q : Int32 → Mem → Prop) (κ28 : Nat → Nat → Nat → Nat → Int32 → Mem → Prop) (hκ28 : ∀ (v1 : Nat) (v2 : Nat) (v3 : Nat) (v4 : Nat) (v5 : Int32) (M : Mem), κ28 v1 v2 v3 v4 v5 M → WP g 20 mL_law 28 [some (.ref g.2.2.2.1), some (.ref (g.1 + v1)), some (.ref (g.1 + v2)), some (.ref (g.1 + v3)), some (.ref (g.1 + v4)), some (.int v5), none, none, none] [] M kr (oZ Q noX)) (v1 : Nat) (v2 : Nat) (v3 : Nat) (v4 : Nat) (v5 : Int32) (M : Mem) (h : T_L_law_788 κ28 Q g.2.2.2.2.1 g.2.2.2.2.2 v1 v2 v3 v4 v5 M) : WP g 20 mL_law 788 [some (.ref g.2.2.2.1), some (.ref (g.1 + v1)), some (.ref (g.1 + v2)), some (.ref (g.1 + v3)), some (.ref (g.1 + v4)), some (.int v5), none, none, none] [] M (kr + 2) (oZ Q noX) := by
  unfold T_L_law_788 at h
  refine R_aload_n (pc := 788) d_L_law_788 rfl rfl ?_
  refine R_aload_n (pc := 789) d_L_law_789 rfl rfl ?_
  refine R_iload (pc := 790) d_L_law_790 rfl ?_
  refine R_iconst (pc := 792) (v := 1) d_L_law_792 (by decide) ?_
  refine R_iadd (pc := 793) d_L_law_793 ?_
  obtain ⟨k1, h⟩ := h
  refine R_sld (pc := 794) k1 d_L_law_794 ?_
  refine R_aload_n (pc := 795) d_L_law_795 rfl rfl ?_
  refine R_iload (pc := 796) d_L_law_796 rfl ?_
  refine R_iconst (pc := 798) (v := 2) d_L_law_798 (by decide) ?_
  refine R_iadd (pc := 799) d_L_law_799 ?_
  obtain ⟨k2, h⟩ := h
  refine R_sld (pc := 800) k2 d_L_law_800 ?_
  refine R_aload_n (pc := 801) d_L_law_801 rfl rfl ?_
  refine R_callSW (pc := 802) (As := [.ref (g.1 + v1), .int (g.2.2.2.2.2 (Int32.toNatClampNeg (v5 + 1))), .int (g.2.2.2.2.2 (Int32.toNatClampNeg (v5 + 2))), .ref (g.1 + v3)]) (rest := []) (c_L_inmate (g := g) v1 (g.2.2.2.2.2 (Int32.toNatClampNeg (v5 + 1))) (g.2.2.2.2.2 (Int32.toNatClampNeg (v5 + 2))) v3 M _ h) rfl rfl cal_RL_167 sta_L_inmate (by decide) (by omega) rfl rfl (Nat.le_of_ble_eq_true rfl) d_L_law_802 (k_I (fun y4 M3 h => ?_)) (fun _ _ h9 => False.elim h9)
  try dsimp only at h
  refine R_istore (pc := 805) (L' := [some (.ref g.2.2.2.1), some (.ref (g.1 + v1)), some (.ref (g.1 + v2)), some (.ref (g.1 + v3)), some (.ref (g.1 + v4)), some (.int v5), some (.int y4), none, none]) d_L_law_805 (by decide) rfl ?_
  refine R_aload_n (pc := 807) d_L_law_807 rfl rfl ?_
  refine R_aload_n (pc := 808) d_L_law_808 rfl rfl ?_
  refine R_iload (pc := 809) d_L_law_809 rfl ?_
  refine R_iconst (pc := 811) (v := 1) d_L_law_811 (by decide) ?_
  refine R_iadd (pc := 812) d_L_law_812 ?_
  refine R_sld (pc := 813) k1 d_L_law_813 ?_
  refine R_aload_n (pc := 814) d_L_law_814 rfl rfl ?_
  refine R_iload (pc := 815) d_L_law_815 rfl ?_
  refine R_iconst (pc := 817) (v := 2) d_L_law_817 (by decide) ?_
  refine R_iadd (pc := 818) d_L_law_818 ?_
  refine R_sld (pc := 819) k2 d_L_law_819 ?_
  obtain ⟨k5, h⟩ := h
  refine R_callV (pc := 820) (As := [.int (g.2.2.2.2.2 (Int32.toNatClampNeg (v5 + 1))), .int (g.2.2.2.2.2 (Int32.toNatClampNeg (v5 + 2)))]) (rest := []) (c_X7_inmate (g := g) v2 (g.2.2.2.2.2 (Int32.toNatClampNeg (v5 + 1))) (g.2.2.2.2.2 (Int32.toNatClampNeg (v5 + 2))) M3 _ h) rfl rfl cal_RL_169 ins_X7_inmate sel_X7_inmate (cls_at k5 clsOK7) (by decide) (by omega) rfl rfl (Nat.le_of_ble_eq_true rfl) d_L_law_820 (k_I (fun y7 M6 h => ?_)) (fun _ _ h9 => False.elim h9)
  try dsimp only at h
  refine R_istore (pc := 823) (L' := [some (.ref g.2.2.2.1), some (.ref (g.1 + v1)), some (.ref (g.1 + v2)), some (.ref (g.1 + v3)), some (.ref (g.1 + v4)), some (.int v5), some (.int y4), some (.int y7), none]) d_L_law_823 (by decide) rfl ?_
  refine R_aload_n (pc := 825) d_L_law_825 rfl rfl ?_
  refine R_callV (pc := 826) (As := []) (rest := []) (c_X7_thrown (g := g) v2 M6 _ h) rfl rfl cal_RL_140 ins_X7_thrown sel_X7_thrown (cls_at k5 clsOK7) (by decide) (by omega) rfl rfl (Nat.le_of_ble_eq_true rfl) d_L_law_826 (k_I (fun y9 M8 h => ?_)) (fun _ _ h9 => False.elim h9)
  try dsimp only at h
  refine R_iload (pc := 829) d_L_law_829 rfl ?_
  refine R_icmp_eq (pc := 831) (tgt := 836) d_L_law_831 (by decide) (fun c => ?_) (fun c => ?_)
  · rw [if_pos c] at h
    refine R_iload (pc := 836) d_L_law_836 rfl ?_
    refine R_if_ne (pc := 838) (tgt := 853) d_L_law_838 (by decide) (fun c => ?_) (fun c => ?_)
    · rw [if_neg c] at h
      exact WP_sub (B_L_law_853 Q κ28 hκ28 v1 v2 v3 v4 v5 M8 h) (by omega) (ls_s (ls_s (ls_s (ls_s (ls_s (ls_s (ls_n (ls_n (ls_n ls_0)))))))))
    · rw [if_pos c] at h
      refine R_aload_n (pc := 841) d_L_law_841 rfl rfl ?_
      refine R_iconst (pc := 842) (v := 0) d_L_law_842 (by decide) ?_
      obtain ⟨k10, h⟩ := h
      obtain ⟨k11, h⟩ := h
      refine R_lald (pc := 843) k10 k11 d_L_law_843 ?_
      refine R_iload (pc := 844) d_L_law_844 rfl ?_
      refine R_i2l (pc := 846) d_L_law_846 ?_
      refine R_lcmp (pc := 847) d_L_law_847 ?_
      refine R_if_eq (pc := 848) (tgt := 853) d_L_law_848 (by decide) (fun c => ?_) (fun c => ?_)
      · rw [if_pos c] at h
        exact WP_sub (B_L_law_853 Q κ28 hκ28 v1 v2 v3 v4 v5 M8 h) (by omega) (ls_s (ls_s (ls_s (ls_s (ls_s (ls_s (ls_n (ls_n (ls_n ls_0)))))))))
      · rw [if_neg c] at h
        refine R_iconst (pc := 851) (v := 0) d_L_law_851 (by decide) ?_
        exact R_retv (pc := 852) d_L_law_852 h
  · rw [if_neg c] at h
    refine R_iconst (pc := 834) (v := 0) d_L_law_834 (by decide) ?_
    exact R_retv (pc := 835) d_L_law_835 h
def T_L_law_785 (κ28 : Nat → Nat → Nat → Nat → Int32 → Mem → Prop) (Q : Int32 → Mem → Prop) (sl : Nat) (xs : Nat → Int32) (v1 : Nat) (v2 : Nat) (v3 : Nat) (v4 : Nat) (v5 : Int32) (M : Mem) : Prop := T_L_law_2534 κ28 Q sl xs v1 v2 v3 v4 v5 M
set_option maxRecDepth 100000 in
set_option maxHeartbeats 4000000 in
theorem B_L_law_785 {g : GG} {kr : Nat} (Q : Int32 → Mem → Prop) (κ28 : Nat → Nat → Nat → Nat → Int32 → Mem → Prop) (hκ28 : ∀ (v1 : Nat) (v2 : Nat) (v3 : Nat) (v4 : Nat) (v5 : Int32) (M : Mem), κ28 v1 v2 v3 v4 v5 M → WP g 20 mL_law 28 [some (.ref g.2.2.2.1), some (.ref (g.1 + v1)), some (.ref (g.1 + v2)), some (.ref (g.1 + v3)), some (.ref (g.1 + v4)), some (.int v5), none, none, none] [] M kr (oZ Q noX)) (v1 : Nat) (v2 : Nat) (v3 : Nat) (v4 : Nat) (v5 : Int32) (M : Mem) (h : T_L_law_785 κ28 Q g.2.2.2.2.1 g.2.2.2.2.2 v1 v2 v3 v4 v5 M) : WP g 20 mL_law 785 [some (.ref g.2.2.2.1), some (.ref (g.1 + v1)), some (.ref (g.1 + v2)), some (.ref (g.1 + v3)), some (.ref (g.1 + v4)), some (.int v5), none, none, none] [] M (kr + 1) (oZ Q noX) := by
  unfold T_L_law_785 at h
  refine R_goto (pc := 785) (tgt := 2534) d_L_law_785 (by decide) ?_
  exact WP_sub (B_L_law_2534 Q κ28 hκ28 v1 v2 v3 v4 v5 M h) (by omega) (ls_s (ls_s (ls_s (ls_s (ls_s (ls_s (ls_n (ls_n (ls_n ls_0)))))))))
def T_L_law_720 (κ28 : Nat → Nat → Nat → Nat → Int32 → Mem → Prop) (Q : Int32 → Mem → Prop) (sl : Nat) (xs : Nat → Int32) (v1 : Nat) (v2 : Nat) (v3 : Nat) (v4 : Nat) (v5 : Int32) (M : Mem) : Prop := (vp_in (v5 + 1) sl) ∧ (vp_in (v5 + 2) sl) ∧ T_L_set (fun y4 M3 => (kd v2 = 7) ∧ T_X7_set (fun y7 M6 => T_X7_thrown (fun y9 M8 => if y9 = y4 then (if y4 = 0 then ((kd v3 = 12) ∧ (vp_in 0 (ln v3)) ∧ if (lg_cmp (M8.2.1 (Int32.toNatClampNeg 0)) (Int32.toInt64 y7)) = 0 then (T_L_law_785 κ28 Q sl xs v1 v2 v3 v4 v5 M8) else (((0 : Int32) = 0 ∨ (0 : Int32) = 1) ∧ Q 0 M8)) else (T_L_law_785 κ28 Q sl xs v1 v2 v3 v4 v5 M8)) else (((0 : Int32) = 0 ∨ (0 : Int32) = 1) ∧ Q 0 M8))  v2 M6)  v2 (xs (Int32.toNatClampNeg (v5 + 1))) (xs (Int32.toNatClampNeg (v5 + 2))) M3)  v1 (xs (Int32.toNatClampNeg (v5 + 1))) (xs (Int32.toNatClampNeg (v5 + 2))) v3 M
set_option maxRecDepth 100000 in
set_option maxHeartbeats 4000000 in
theorem B_L_law_720 {g : GG} {kr : Nat} (Q : Int32 → Mem → Prop) (κ28 : Nat → Nat → Nat → Nat → Int32 → Mem → Prop) (hκ28 : ∀ (v1 : Nat) (v2 : Nat) (v3 : Nat) (v4 : Nat) (v5 : Int32) (M : Mem), κ28 v1 v2 v3 v4 v5 M → WP g 20 mL_law 28 [some (.ref g.2.2.2.1), some (.ref (g.1 + v1)), some (.ref (g.1 + v2)), some (.ref (g.1 + v3)), some (.ref (g.1 + v4)), some (.int v5), none, none, none] [] M kr (oZ Q noX)) (v1 : Nat) (v2 : Nat) (v3 : Nat) (v4 : Nat) (v5 : Int32) (M : Mem) (h : T_L_law_720 κ28 Q g.2.2.2.2.1 g.2.2.2.2.2 v1 v2 v3 v4 v5 M) : WP g 20 mL_law 720 [some (.ref g.2.2.2.1), some (.ref (g.1 + v1)), some (.ref (g.1 + v2)), some (.ref (g.1 + v3)), some (.ref (g.1 + v4)), some (.int v5), none, none, none] [] M (kr + 2) (oZ Q noX) := by
  unfold T_L_law_720 at h
  refine R_aload_n (pc := 720) d_L_law_720 rfl rfl ?_
  refine R_aload_n (pc := 721) d_L_law_721 rfl rfl ?_
  refine R_iload (pc := 722) d_L_law_722 rfl ?_
  refine R_iconst (pc := 724) (v := 1) d_L_law_724 (by decide) ?_
  refine R_iadd (pc := 725) d_L_law_725 ?_
  obtain ⟨k1, h⟩ := h
  refine R_sld (pc := 726) k1 d_L_law_726 ?_
  refine R_aload_n (pc := 727) d_L_law_727 rfl rfl ?_
  refine R_iload (pc := 728) d_L_law_728 rfl ?_
  refine R_iconst (pc := 730) (v := 2) d_L_law_730 (by decide) ?_
  refine R_iadd (pc := 731) d_L_law_731 ?_
  obtain ⟨k2, h⟩ := h
  refine R_sld (pc := 732) k2 d_L_law_732 ?_
  refine R_aload_n (pc := 733) d_L_law_733 rfl rfl ?_
  refine R_callSW (pc := 734) (As := [.ref (g.1 + v1), .int (g.2.2.2.2.2 (Int32.toNatClampNeg (v5 + 1))), .int (g.2.2.2.2.2 (Int32.toNatClampNeg (v5 + 2))), .ref (g.1 + v3)]) (rest := []) (c_L_set (g := g) v1 (g.2.2.2.2.2 (Int32.toNatClampNeg (v5 + 1))) (g.2.2.2.2.2 (Int32.toNatClampNeg (v5 + 2))) v3 M _ h) rfl rfl cal_RL_164 sta_L_set (by decide) (by omega) rfl rfl (Nat.le_of_ble_eq_true rfl) d_L_law_734 (k_I (fun y4 M3 h => ?_)) (fun _ _ h9 => False.elim h9)
  try dsimp only at h
  refine R_istore (pc := 737) (L' := [some (.ref g.2.2.2.1), some (.ref (g.1 + v1)), some (.ref (g.1 + v2)), some (.ref (g.1 + v3)), some (.ref (g.1 + v4)), some (.int v5), some (.int y4), none, none]) d_L_law_737 (by decide) rfl ?_
  refine R_aload_n (pc := 739) d_L_law_739 rfl rfl ?_
  refine R_aload_n (pc := 740) d_L_law_740 rfl rfl ?_
  refine R_iload (pc := 741) d_L_law_741 rfl ?_
  refine R_iconst (pc := 743) (v := 1) d_L_law_743 (by decide) ?_
  refine R_iadd (pc := 744) d_L_law_744 ?_
  refine R_sld (pc := 745) k1 d_L_law_745 ?_
  refine R_aload_n (pc := 746) d_L_law_746 rfl rfl ?_
  refine R_iload (pc := 747) d_L_law_747 rfl ?_
  refine R_iconst (pc := 749) (v := 2) d_L_law_749 (by decide) ?_
  refine R_iadd (pc := 750) d_L_law_750 ?_
  refine R_sld (pc := 751) k2 d_L_law_751 ?_
  obtain ⟨k5, h⟩ := h
  refine R_callV (pc := 752) (As := [.int (g.2.2.2.2.2 (Int32.toNatClampNeg (v5 + 1))), .int (g.2.2.2.2.2 (Int32.toNatClampNeg (v5 + 2)))]) (rest := []) (c_X7_set (g := g) v2 (g.2.2.2.2.2 (Int32.toNatClampNeg (v5 + 1))) (g.2.2.2.2.2 (Int32.toNatClampNeg (v5 + 2))) M3 _ h) rfl rfl cal_RL_166 ins_X7_set sel_X7_set (cls_at k5 clsOK7) (by decide) (by omega) rfl rfl (Nat.le_of_ble_eq_true rfl) d_L_law_752 (k_I (fun y7 M6 h => ?_)) (fun _ _ h9 => False.elim h9)
  try dsimp only at h
  refine R_istore (pc := 755) (L' := [some (.ref g.2.2.2.1), some (.ref (g.1 + v1)), some (.ref (g.1 + v2)), some (.ref (g.1 + v3)), some (.ref (g.1 + v4)), some (.int v5), some (.int y4), some (.int y7), none]) d_L_law_755 (by decide) rfl ?_
  refine R_aload_n (pc := 757) d_L_law_757 rfl rfl ?_
  refine R_callV (pc := 758) (As := []) (rest := []) (c_X7_thrown (g := g) v2 M6 _ h) rfl rfl cal_RL_140 ins_X7_thrown sel_X7_thrown (cls_at k5 clsOK7) (by decide) (by omega) rfl rfl (Nat.le_of_ble_eq_true rfl) d_L_law_758 (k_I (fun y9 M8 h => ?_)) (fun _ _ h9 => False.elim h9)
  try dsimp only at h
  refine R_iload (pc := 761) d_L_law_761 rfl ?_
  refine R_icmp_eq (pc := 763) (tgt := 768) d_L_law_763 (by decide) (fun c => ?_) (fun c => ?_)
  · rw [if_pos c] at h
    refine R_iload (pc := 768) d_L_law_768 rfl ?_
    refine R_if_ne (pc := 770) (tgt := 785) d_L_law_770 (by decide) (fun c => ?_) (fun c => ?_)
    · rw [if_neg c] at h
      exact WP_sub (B_L_law_785 Q κ28 hκ28 v1 v2 v3 v4 v5 M8 h) (by omega) (ls_s (ls_s (ls_s (ls_s (ls_s (ls_s (ls_n (ls_n (ls_n ls_0)))))))))
    · rw [if_pos c] at h
      refine R_aload_n (pc := 773) d_L_law_773 rfl rfl ?_
      refine R_iconst (pc := 774) (v := 0) d_L_law_774 (by decide) ?_
      obtain ⟨k10, h⟩ := h
      obtain ⟨k11, h⟩ := h
      refine R_lald (pc := 775) k10 k11 d_L_law_775 ?_
      refine R_iload (pc := 776) d_L_law_776 rfl ?_
      refine R_i2l (pc := 778) d_L_law_778 ?_
      refine R_lcmp (pc := 779) d_L_law_779 ?_
      refine R_if_eq (pc := 780) (tgt := 785) d_L_law_780 (by decide) (fun c => ?_) (fun c => ?_)
      · rw [if_pos c] at h
        exact WP_sub (B_L_law_785 Q κ28 hκ28 v1 v2 v3 v4 v5 M8 h) (by omega) (ls_s (ls_s (ls_s (ls_s (ls_s (ls_s (ls_n (ls_n (ls_n ls_0)))))))))
      · rw [if_neg c] at h
        refine R_iconst (pc := 783) (v := 0) d_L_law_783 (by decide) ?_
        exact R_retv (pc := 784) d_L_law_784 h
  · rw [if_neg c] at h
    refine R_iconst (pc := 766) (v := 0) d_L_law_766 (by decide) ?_
    exact R_retv (pc := 767) d_L_law_767 h
def T_L_law_717 (κ28 : Nat → Nat → Nat → Nat → Int32 → Mem → Prop) (Q : Int32 → Mem → Prop) (sl : Nat) (xs : Nat → Int32) (v1 : Nat) (v2 : Nat) (v3 : Nat) (v4 : Nat) (v5 : Int32) (M : Mem) : Prop := T_L_law_2534 κ28 Q sl xs v1 v2 v3 v4 v5 M
set_option maxRecDepth 100000 in
set_option maxHeartbeats 4000000 in
theorem B_L_law_717 {g : GG} {kr : Nat} (Q : Int32 → Mem → Prop) (κ28 : Nat → Nat → Nat → Nat → Int32 → Mem → Prop) (hκ28 : ∀ (v1 : Nat) (v2 : Nat) (v3 : Nat) (v4 : Nat) (v5 : Int32) (M : Mem), κ28 v1 v2 v3 v4 v5 M → WP g 20 mL_law 28 [some (.ref g.2.2.2.1), some (.ref (g.1 + v1)), some (.ref (g.1 + v2)), some (.ref (g.1 + v3)), some (.ref (g.1 + v4)), some (.int v5), none, none, none] [] M kr (oZ Q noX)) (v1 : Nat) (v2 : Nat) (v3 : Nat) (v4 : Nat) (v5 : Int32) (M : Mem) (h : T_L_law_717 κ28 Q g.2.2.2.2.1 g.2.2.2.2.2 v1 v2 v3 v4 v5 M) : WP g 20 mL_law 717 [some (.ref g.2.2.2.1), some (.ref (g.1 + v1)), some (.ref (g.1 + v2)), some (.ref (g.1 + v3)), some (.ref (g.1 + v4)), some (.int v5), none, none, none] [] M (kr + 1) (oZ Q noX) := by
  unfold T_L_law_717 at h
  refine R_goto (pc := 717) (tgt := 2534) d_L_law_717 (by decide) ?_
  exact WP_sub (B_L_law_2534 Q κ28 hκ28 v1 v2 v3 v4 v5 M h) (by omega) (ls_s (ls_s (ls_s (ls_s (ls_s (ls_s (ls_n (ls_n (ls_n ls_0)))))))))
def T_L_law_684 (κ28 : Nat → Nat → Nat → Nat → Int32 → Mem → Prop) (Q : Int32 → Mem → Prop) (sl : Nat) (xs : Nat → Int32) (v1 : Nat) (v2 : Nat) (v3 : Nat) (v4 : Nat) (v5 : Int32) (v6 : Int32) (s0 : Int32) (s1 : Int32) (s2 : Nat) (M : Mem) : Prop := (kd s2 = 7) ∧ T_X7_confine (fun y3 M2 => (kd v2 = 7) ∧ T_X7_thrown (fun y6 M5 => if y6 = v6 then (if v6 = 0 then ((kd v3 = 12) ∧ (vp_in 0 (ln v3)) ∧ if (lg_cmp (M5.2.1 (Int32.toNatClampNeg 0)) (Int32.toInt64 y3)) = 0 then (T_L_law_717 κ28 Q sl xs v1 v2 v3 v4 v5 M5) else (((0 : Int32) = 0 ∨ (0 : Int32) = 1) ∧ Q 0 M5)) else (T_L_law_717 κ28 Q sl xs v1 v2 v3 v4 v5 M5)) else (((0 : Int32) = 0 ∨ (0 : Int32) = 1) ∧ Q 0 M5))  v2 M2)  s2 s1 s0 M
set_option maxRecDepth 100000 in
set_option maxHeartbeats 4000000 in
theorem B_L_law_684 {g : GG} {kr : Nat} (Q : Int32 → Mem → Prop) (κ28 : Nat → Nat → Nat → Nat → Int32 → Mem → Prop) (hκ28 : ∀ (v1 : Nat) (v2 : Nat) (v3 : Nat) (v4 : Nat) (v5 : Int32) (M : Mem), κ28 v1 v2 v3 v4 v5 M → WP g 20 mL_law 28 [some (.ref g.2.2.2.1), some (.ref (g.1 + v1)), some (.ref (g.1 + v2)), some (.ref (g.1 + v3)), some (.ref (g.1 + v4)), some (.int v5), none, none, none] [] M kr (oZ Q noX)) (v1 : Nat) (v2 : Nat) (v3 : Nat) (v4 : Nat) (v5 : Int32) (v6 : Int32) (s0 : Int32) (s1 : Int32) (s2 : Nat) (M : Mem) (h : T_L_law_684 κ28 Q g.2.2.2.2.1 g.2.2.2.2.2 v1 v2 v3 v4 v5 v6 s0 s1 s2 M) : WP g 20 mL_law 684 [some (.ref g.2.2.2.1), some (.ref (g.1 + v1)), some (.ref (g.1 + v2)), some (.ref (g.1 + v3)), some (.ref (g.1 + v4)), some (.int v5), some (.int v6), none, none] [.int s0, .int s1, .ref (g.1 + s2)] M (kr + 1) (oZ Q noX) := by
  unfold T_L_law_684 at h
  obtain ⟨k1, h⟩ := h
  refine R_callV (pc := 684) (As := [.int s1, .int s0]) (rest := []) (c_X7_confine (g := g) s2 s1 s0 M _ h) rfl rfl cal_RL_163 ins_X7_confine sel_X7_confine (cls_at k1 clsOK7) (by decide) (by omega) rfl rfl (Nat.le_of_ble_eq_true rfl) d_L_law_684 (k_I (fun y3 M2 h => ?_)) (fun _ _ h9 => False.elim h9)
  try dsimp only at h
  refine R_istore (pc := 687) (L' := [some (.ref g.2.2.2.1), some (.ref (g.1 + v1)), some (.ref (g.1 + v2)), some (.ref (g.1 + v3)), some (.ref (g.1 + v4)), some (.int v5), some (.int v6), some (.int y3), none]) d_L_law_687 (by decide) rfl ?_
  refine R_aload_n (pc := 689) d_L_law_689 rfl rfl ?_
  obtain ⟨k4, h⟩ := h
  refine R_callV (pc := 690) (As := []) (rest := []) (c_X7_thrown (g := g) v2 M2 _ h) rfl rfl cal_RL_140 ins_X7_thrown sel_X7_thrown (cls_at k4 clsOK7) (by decide) (by omega) rfl rfl (Nat.le_of_ble_eq_true rfl) d_L_law_690 (k_I (fun y6 M5 h => ?_)) (fun _ _ h9 => False.elim h9)
  try dsimp only at h
  refine R_iload (pc := 693) d_L_law_693 rfl ?_
  refine R_icmp_eq (pc := 695) (tgt := 700) d_L_law_695 (by decide) (fun c => ?_) (fun c => ?_)
  · rw [if_pos c] at h
    refine R_iload (pc := 700) d_L_law_700 rfl ?_
    refine R_if_ne (pc := 702) (tgt := 717) d_L_law_702 (by decide) (fun c => ?_) (fun c => ?_)
    · rw [if_neg c] at h
      exact WP_sub (B_L_law_717 Q κ28 hκ28 v1 v2 v3 v4 v5 M5 h) (by omega) (ls_s (ls_s (ls_s (ls_s (ls_s (ls_s (ls_n (ls_n (ls_n ls_0)))))))))
    · rw [if_pos c] at h
      refine R_aload_n (pc := 705) d_L_law_705 rfl rfl ?_
      refine R_iconst (pc := 706) (v := 0) d_L_law_706 (by decide) ?_
      obtain ⟨k7, h⟩ := h
      obtain ⟨k8, h⟩ := h
      refine R_lald (pc := 707) k7 k8 d_L_law_707 ?_
      refine R_iload (pc := 708) d_L_law_708 rfl ?_
      refine R_i2l (pc := 710) d_L_law_710 ?_
      refine R_lcmp (pc := 711) d_L_law_711 ?_
      refine R_if_eq (pc := 712) (tgt := 717) d_L_law_712 (by decide) (fun c => ?_) (fun c => ?_)
      · rw [if_pos c] at h
        exact WP_sub (B_L_law_717 Q κ28 hκ28 v1 v2 v3 v4 v5 M5 h) (by omega) (ls_s (ls_s (ls_s (ls_s (ls_s (ls_s (ls_n (ls_n (ls_n ls_0)))))))))
      · rw [if_neg c] at h
        refine R_iconst (pc := 715) (v := 0) d_L_law_715 (by decide) ?_
        exact R_retv (pc := 716) d_L_law_716 h
  · rw [if_neg c] at h
    refine R_iconst (pc := 698) (v := 0) d_L_law_698 (by decide) ?_
    exact R_retv (pc := 699) d_L_law_699 h
def T_L_law_657 (κ28 : Nat → Nat → Nat → Nat → Int32 → Mem → Prop) (Q : Int32 → Mem → Prop) (sl : Nat) (xs : Nat → Int32) (v1 : Nat) (v2 : Nat) (v3 : Nat) (v4 : Nat) (v5 : Int32) (s0 : Int32) (s1 : Int32) (s2 : Nat) (M : Mem) : Prop := T_L_confine (fun y2 M1 => (vp_in (v5 + 1) sl) ∧ (vp_in (v5 + 2) sl) ∧ if (xs (Int32.toNatClampNeg (v5 + 2))) = 0 then (T_L_law_684 κ28 Q sl xs v1 v2 v3 v4 v5 y2 0 (xs (Int32.toNatClampNeg (v5 + 1))) v2 M1) else (T_L_law_684 κ28 Q sl xs v1 v2 v3 v4 v5 y2 1 (xs (Int32.toNatClampNeg (v5 + 1))) v2 M1))  s2 s1 s0 v3 M
set_option maxRecDepth 100000 in
set_option maxHeartbeats 4000000 in
theorem B_L_law_657 {g : GG} {kr : Nat} (Q : Int32 → Mem → Prop) (κ28 : Nat → Nat → Nat → Nat → Int32 → Mem → Prop) (hκ28 : ∀ (v1 : Nat) (v2 : Nat) (v3 : Nat) (v4 : Nat) (v5 : Int32) (M : Mem), κ28 v1 v2 v3 v4 v5 M → WP g 20 mL_law 28 [some (.ref g.2.2.2.1), some (.ref (g.1 + v1)), some (.ref (g.1 + v2)), some (.ref (g.1 + v3)), some (.ref (g.1 + v4)), some (.int v5), none, none, none] [] M kr (oZ Q noX)) (v1 : Nat) (v2 : Nat) (v3 : Nat) (v4 : Nat) (v5 : Int32) (s0 : Int32) (s1 : Int32) (s2 : Nat) (M : Mem) (h : T_L_law_657 κ28 Q g.2.2.2.2.1 g.2.2.2.2.2 v1 v2 v3 v4 v5 s0 s1 s2 M) : WP g 20 mL_law 657 [some (.ref g.2.2.2.1), some (.ref (g.1 + v1)), some (.ref (g.1 + v2)), some (.ref (g.1 + v3)), some (.ref (g.1 + v4)), some (.int v5), none, none, none] [.int s0, .int s1, .ref (g.1 + s2)] M (kr + 2) (oZ Q noX) := by
  unfold T_L_law_657 at h
  refine R_aload_n (pc := 657) d_L_law_657 rfl rfl ?_
  refine R_callSW (pc := 658) (As := [.ref (g.1 + s2), .int s1, .int s0, .ref (g.1 + v3)]) (rest := []) (c_L_confine (g := g) s2 s1 s0 v3 M _ h) rfl rfl cal_RL_161 sta_L_confine (by decide) (by omega) rfl rfl (Nat.le_of_ble_eq_true rfl) d_L_law_658 (k_I (fun y2 M1 h => ?_)) (fun _ _ h9 => False.elim h9)
  try dsimp only at h
  refine R_istore (pc := 661) (L' := [some (.ref g.2.2.2.1), some (.ref (g.1 + v1)), some (.ref (g.1 + v2)), some (.ref (g.1 + v3)), some (.ref (g.1 + v4)), some (.int v5), some (.int y2), none, none]) d_L_law_661 (by decide) rfl ?_
  refine R_aload_n (pc := 663) d_L_law_663 rfl rfl ?_
  refine R_aload_n (pc := 664) d_L_law_664 rfl rfl ?_
  refine R_iload (pc := 665) d_L_law_665 rfl ?_
  refine R_iconst (pc := 667) (v := 1) d_L_law_667 (by decide) ?_
  refine R_iadd (pc := 668) d_L_law_668 ?_
  obtain ⟨k3, h⟩ := h
  refine R_sld (pc := 669) k3 d_L_law_669 ?_
  refine R_aload_n (pc := 670) d_L_law_670 rfl rfl ?_
  refine R_iload (pc := 671) d_L_law_671 rfl ?_
  refine R_iconst (pc := 673) (v := 2) d_L_law_673 (by decide) ?_
  refine R_iadd (pc := 674) d_L_law_674 ?_
  obtain ⟨k4, h⟩ := h
  refine R_sld (pc := 675) k4 d_L_law_675 ?_
  refine R_if_eq (pc := 676) (tgt := 683) d_L_law_676 (by decide) (fun c => ?_) (fun c => ?_)
  · rw [if_pos c] at h
    refine R_iconst (pc := 683) (v := 0) d_L_law_683 (by decide) ?_
    exact WP_sub (B_L_law_684 Q κ28 hκ28 v1 v2 v3 v4 v5 y2 0 (g.2.2.2.2.2 (Int32.toNatClampNeg (v5 + 1))) v2 M1 h) (by omega) (ls_s (ls_s (ls_s (ls_s (ls_s (ls_s (ls_s (ls_n (ls_n ls_0)))))))))
  · rw [if_neg c] at h
    refine R_iconst (pc := 679) (v := 1) d_L_law_679 (by decide) ?_
    refine R_goto (pc := 680) (tgt := 684) d_L_law_680 (by decide) ?_
    exact WP_sub (B_L_law_684 Q κ28 hκ28 v1 v2 v3 v4 v5 y2 1 (g.2.2.2.2.2 (Int32.toNatClampNeg (v5 + 1))) v2 M1 h) (by omega) (ls_s (ls_s (ls_s (ls_s (ls_s (ls_s (ls_s (ls_n (ls_n ls_0)))))))))
def T_L_law_636 (κ28 : Nat → Nat → Nat → Nat → Int32 → Mem → Prop) (Q : Int32 → Mem → Prop) (sl : Nat) (xs : Nat → Int32) (v1 : Nat) (v2 : Nat) (v3 : Nat) (v4 : Nat) (v5 : Int32) (M : Mem) : Prop := (vp_in (v5 + 1) sl) ∧ (vp_in (v5 + 2) sl) ∧ if (xs (Int32.toNatClampNeg (v5 + 2))) = 0 then (T_L_law_657 κ28 Q sl xs v1 v2 v3 v4 v5 0 (xs (Int32.toNatClampNeg (v5 + 1))) v1 M) else (T_L_law_657 κ28 Q sl xs v1 v2 v3 v4 v5 1 (xs (Int32.toNatClampNeg (v5 + 1))) v1 M)
set_option maxRecDepth 100000 in
set_option maxHeartbeats 4000000 in
theorem B_L_law_636 {g : GG} {kr : Nat} (Q : Int32 → Mem → Prop) (κ28 : Nat → Nat → Nat → Nat → Int32 → Mem → Prop) (hκ28 : ∀ (v1 : Nat) (v2 : Nat) (v3 : Nat) (v4 : Nat) (v5 : Int32) (M : Mem), κ28 v1 v2 v3 v4 v5 M → WP g 20 mL_law 28 [some (.ref g.2.2.2.1), some (.ref (g.1 + v1)), some (.ref (g.1 + v2)), some (.ref (g.1 + v3)), some (.ref (g.1 + v4)), some (.int v5), none, none, none] [] M kr (oZ Q noX)) (v1 : Nat) (v2 : Nat) (v3 : Nat) (v4 : Nat) (v5 : Int32) (M : Mem) (h : T_L_law_636 κ28 Q g.2.2.2.2.1 g.2.2.2.2.2 v1 v2 v3 v4 v5 M) : WP g 20 mL_law 636 [some (.ref g.2.2.2.1), some (.ref (g.1 + v1)), some (.ref (g.1 + v2)), some (.ref (g.1 + v3)), some (.ref (g.1 + v4)), some (.int v5), none, none, none] [] M (kr + 2) (oZ Q noX) := by
  unfold T_L_law_636 at h
  refine R_aload_n (pc := 636) d_L_law_636 rfl rfl ?_
  refine R_aload_n (pc := 637) d_L_law_637 rfl rfl ?_
  refine R_iload (pc := 638) d_L_law_638 rfl ?_
  refine R_iconst (pc := 640) (v := 1) d_L_law_640 (by decide) ?_
  refine R_iadd (pc := 641) d_L_law_641 ?_
  obtain ⟨k1, h⟩ := h
  refine R_sld (pc := 642) k1 d_L_law_642 ?_
  refine R_aload_n (pc := 643) d_L_law_643 rfl rfl ?_
  refine R_iload (pc := 644) d_L_law_644 rfl ?_
  refine R_iconst (pc := 646) (v := 2) d_L_law_646 (by decide) ?_
  refine R_iadd (pc := 647) d_L_law_647 ?_
  obtain ⟨k2, h⟩ := h
  refine R_sld (pc := 648) k2 d_L_law_648 ?_
  refine R_if_eq (pc := 649) (tgt := 656) d_L_law_649 (by decide) (fun c => ?_) (fun c => ?_)
  · rw [if_pos c] at h
    refine R_iconst (pc := 656) (v := 0) d_L_law_656 (by decide) ?_
    exact WP_sub (B_L_law_657 Q κ28 hκ28 v1 v2 v3 v4 v5 0 (g.2.2.2.2.2 (Int32.toNatClampNeg (v5 + 1))) v1 M h) (by omega) (ls_s (ls_s (ls_s (ls_s (ls_s (ls_s (ls_n (ls_n (ls_n ls_0)))))))))
  · rw [if_neg c] at h
    refine R_iconst (pc := 652) (v := 1) d_L_law_652 (by decide) ?_
    refine R_goto (pc := 653) (tgt := 657) d_L_law_653 (by decide) ?_
    exact WP_sub (B_L_law_657 Q κ28 hκ28 v1 v2 v3 v4 v5 1 (g.2.2.2.2.2 (Int32.toNatClampNeg (v5 + 1))) v1 M h) (by omega) (ls_s (ls_s (ls_s (ls_s (ls_s (ls_s (ls_n (ls_n (ls_n ls_0)))))))))
def T_L_law_633 (κ28 : Nat → Nat → Nat → Nat → Int32 → Mem → Prop) (Q : Int32 → Mem → Prop) (sl : Nat) (xs : Nat → Int32) (v1 : Nat) (v2 : Nat) (v3 : Nat) (v4 : Nat) (v5 : Int32) (M : Mem) : Prop := T_L_law_2534 κ28 Q sl xs v1 v2 v3 v4 v5 M
set_option maxRecDepth 100000 in
set_option maxHeartbeats 4000000 in
theorem B_L_law_633 {g : GG} {kr : Nat} (Q : Int32 → Mem → Prop) (κ28 : Nat → Nat → Nat → Nat → Int32 → Mem → Prop) (hκ28 : ∀ (v1 : Nat) (v2 : Nat) (v3 : Nat) (v4 : Nat) (v5 : Int32) (M : Mem), κ28 v1 v2 v3 v4 v5 M → WP g 20 mL_law 28 [some (.ref g.2.2.2.1), some (.ref (g.1 + v1)), some (.ref (g.1 + v2)), some (.ref (g.1 + v3)), some (.ref (g.1 + v4)), some (.int v5), none, none, none] [] M kr (oZ Q noX)) (v1 : Nat) (v2 : Nat) (v3 : Nat) (v4 : Nat) (v5 : Int32) (M : Mem) (h : T_L_law_633 κ28 Q g.2.2.2.2.1 g.2.2.2.2.2 v1 v2 v3 v4 v5 M) : WP g 20 mL_law 633 [some (.ref g.2.2.2.1), some (.ref (g.1 + v1)), some (.ref (g.1 + v2)), some (.ref (g.1 + v3)), some (.ref (g.1 + v4)), some (.int v5), none, none, none] [] M (kr + 1) (oZ Q noX) := by
  unfold T_L_law_633 at h
  refine R_goto (pc := 633) (tgt := 2534) d_L_law_633 (by decide) ?_
  exact WP_sub (B_L_law_2534 Q κ28 hκ28 v1 v2 v3 v4 v5 M h) (by omega) (ls_s (ls_s (ls_s (ls_s (ls_s (ls_s (ls_n (ls_n (ls_n ls_0)))))))))
def T_L_law_568 (κ28 : Nat → Nat → Nat → Nat → Int32 → Mem → Prop) (Q : Int32 → Mem → Prop) (sl : Nat) (xs : Nat → Int32) (v1 : Nat) (v2 : Nat) (v3 : Nat) (v4 : Nat) (v5 : Int32) (M : Mem) : Prop := (vp_in (v5 + 1) sl) ∧ (vp_in (v5 + 2) sl) ∧ T_L_move (fun y4 M3 => (kd v2 = 7) ∧ T_X7_move (fun y7 M6 => T_X7_thrown (fun y9 M8 => if y9 = y4 then (if y4 = 0 then ((kd v3 = 12) ∧ (vp_in 0 (ln v3)) ∧ if (lg_cmp (M8.2.1 (Int32.toNatClampNeg 0)) (Int32.toInt64 y7)) = 0 then (T_L_law_633 κ28 Q sl xs v1 v2 v3 v4 v5 M8) else (((0 : Int32) = 0 ∨ (0 : Int32) = 1) ∧ Q 0 M8)) else (T_L_law_633 κ28 Q sl xs v1 v2 v3 v4 v5 M8)) else (((0 : Int32) = 0 ∨ (0 : Int32) = 1) ∧ Q 0 M8))  v2 M6)  v2 (xs (Int32.toNatClampNeg (v5 + 1))) (xs (Int32.toNatClampNeg (v5 + 2))) M3)  v1 (xs (Int32.toNatClampNeg (v5 + 1))) (xs (Int32.toNatClampNeg (v5 + 2))) v3 M
set_option maxRecDepth 100000 in
set_option maxHeartbeats 4000000 in
theorem B_L_law_568 {g : GG} {kr : Nat} (Q : Int32 → Mem → Prop) (κ28 : Nat → Nat → Nat → Nat → Int32 → Mem → Prop) (hκ28 : ∀ (v1 : Nat) (v2 : Nat) (v3 : Nat) (v4 : Nat) (v5 : Int32) (M : Mem), κ28 v1 v2 v3 v4 v5 M → WP g 20 mL_law 28 [some (.ref g.2.2.2.1), some (.ref (g.1 + v1)), some (.ref (g.1 + v2)), some (.ref (g.1 + v3)), some (.ref (g.1 + v4)), some (.int v5), none, none, none] [] M kr (oZ Q noX)) (v1 : Nat) (v2 : Nat) (v3 : Nat) (v4 : Nat) (v5 : Int32) (M : Mem) (h : T_L_law_568 κ28 Q g.2.2.2.2.1 g.2.2.2.2.2 v1 v2 v3 v4 v5 M) : WP g 20 mL_law 568 [some (.ref g.2.2.2.1), some (.ref (g.1 + v1)), some (.ref (g.1 + v2)), some (.ref (g.1 + v3)), some (.ref (g.1 + v4)), some (.int v5), none, none, none] [] M (kr + 2) (oZ Q noX) := by
  unfold T_L_law_568 at h
  refine R_aload_n (pc := 568) d_L_law_568 rfl rfl ?_
  refine R_aload_n (pc := 569) d_L_law_569 rfl rfl ?_
  refine R_iload (pc := 570) d_L_law_570 rfl ?_
  refine R_iconst (pc := 572) (v := 1) d_L_law_572 (by decide) ?_
  refine R_iadd (pc := 573) d_L_law_573 ?_
  obtain ⟨k1, h⟩ := h
  refine R_sld (pc := 574) k1 d_L_law_574 ?_
  refine R_aload_n (pc := 575) d_L_law_575 rfl rfl ?_
  refine R_iload (pc := 576) d_L_law_576 rfl ?_
  refine R_iconst (pc := 578) (v := 2) d_L_law_578 (by decide) ?_
  refine R_iadd (pc := 579) d_L_law_579 ?_
  obtain ⟨k2, h⟩ := h
  refine R_sld (pc := 580) k2 d_L_law_580 ?_
  refine R_aload_n (pc := 581) d_L_law_581 rfl rfl ?_
  refine R_callSW (pc := 582) (As := [.ref (g.1 + v1), .int (g.2.2.2.2.2 (Int32.toNatClampNeg (v5 + 1))), .int (g.2.2.2.2.2 (Int32.toNatClampNeg (v5 + 2))), .ref (g.1 + v3)]) (rest := []) (c_L_move (g := g) v1 (g.2.2.2.2.2 (Int32.toNatClampNeg (v5 + 1))) (g.2.2.2.2.2 (Int32.toNatClampNeg (v5 + 2))) v3 M _ h) rfl rfl cal_RL_158 sta_L_move (by decide) (by omega) rfl rfl (Nat.le_of_ble_eq_true rfl) d_L_law_582 (k_I (fun y4 M3 h => ?_)) (fun _ _ h9 => False.elim h9)
  try dsimp only at h
  refine R_istore (pc := 585) (L' := [some (.ref g.2.2.2.1), some (.ref (g.1 + v1)), some (.ref (g.1 + v2)), some (.ref (g.1 + v3)), some (.ref (g.1 + v4)), some (.int v5), some (.int y4), none, none]) d_L_law_585 (by decide) rfl ?_
  refine R_aload_n (pc := 587) d_L_law_587 rfl rfl ?_
  refine R_aload_n (pc := 588) d_L_law_588 rfl rfl ?_
  refine R_iload (pc := 589) d_L_law_589 rfl ?_
  refine R_iconst (pc := 591) (v := 1) d_L_law_591 (by decide) ?_
  refine R_iadd (pc := 592) d_L_law_592 ?_
  refine R_sld (pc := 593) k1 d_L_law_593 ?_
  refine R_aload_n (pc := 594) d_L_law_594 rfl rfl ?_
  refine R_iload (pc := 595) d_L_law_595 rfl ?_
  refine R_iconst (pc := 597) (v := 2) d_L_law_597 (by decide) ?_
  refine R_iadd (pc := 598) d_L_law_598 ?_
  refine R_sld (pc := 599) k2 d_L_law_599 ?_
  obtain ⟨k5, h⟩ := h
  refine R_callV (pc := 600) (As := [.int (g.2.2.2.2.2 (Int32.toNatClampNeg (v5 + 1))), .int (g.2.2.2.2.2 (Int32.toNatClampNeg (v5 + 2)))]) (rest := []) (c_X7_move (g := g) v2 (g.2.2.2.2.2 (Int32.toNatClampNeg (v5 + 1))) (g.2.2.2.2.2 (Int32.toNatClampNeg (v5 + 2))) M3 _ h) rfl rfl cal_RL_160 ins_X7_move sel_X7_move (cls_at k5 clsOK7) (by decide) (by omega) rfl rfl (Nat.le_of_ble_eq_true rfl) d_L_law_600 (k_I (fun y7 M6 h => ?_)) (fun _ _ h9 => False.elim h9)
  try dsimp only at h
  refine R_istore (pc := 603) (L' := [some (.ref g.2.2.2.1), some (.ref (g.1 + v1)), some (.ref (g.1 + v2)), some (.ref (g.1 + v3)), some (.ref (g.1 + v4)), some (.int v5), some (.int y4), some (.int y7), none]) d_L_law_603 (by decide) rfl ?_
  refine R_aload_n (pc := 605) d_L_law_605 rfl rfl ?_
  refine R_callV (pc := 606) (As := []) (rest := []) (c_X7_thrown (g := g) v2 M6 _ h) rfl rfl cal_RL_140 ins_X7_thrown sel_X7_thrown (cls_at k5 clsOK7) (by decide) (by omega) rfl rfl (Nat.le_of_ble_eq_true rfl) d_L_law_606 (k_I (fun y9 M8 h => ?_)) (fun _ _ h9 => False.elim h9)
  try dsimp only at h
  refine R_iload (pc := 609) d_L_law_609 rfl ?_
  refine R_icmp_eq (pc := 611) (tgt := 616) d_L_law_611 (by decide) (fun c => ?_) (fun c => ?_)
  · rw [if_pos c] at h
    refine R_iload (pc := 616) d_L_law_616 rfl ?_
    refine R_if_ne (pc := 618) (tgt := 633) d_L_law_618 (by decide) (fun c => ?_) (fun c => ?_)
    · rw [if_neg c] at h
      exact WP_sub (B_L_law_633 Q κ28 hκ28 v1 v2 v3 v4 v5 M8 h) (by omega) (ls_s (ls_s (ls_s (ls_s (ls_s (ls_s (ls_n (ls_n (ls_n ls_0)))))))))
    · rw [if_pos c] at h
      refine R_aload_n (pc := 621) d_L_law_621 rfl rfl ?_
      refine R_iconst (pc := 622) (v := 0) d_L_law_622 (by decide) ?_
      obtain ⟨k10, h⟩ := h
      obtain ⟨k11, h⟩ := h
      refine R_lald (pc := 623) k10 k11 d_L_law_623 ?_
      refine R_iload (pc := 624) d_L_law_624 rfl ?_
      refine R_i2l (pc := 626) d_L_law_626 ?_
      refine R_lcmp (pc := 627) d_L_law_627 ?_
      refine R_if_eq (pc := 628) (tgt := 633) d_L_law_628 (by decide) (fun c => ?_) (fun c => ?_)
      · rw [if_pos c] at h
        exact WP_sub (B_L_law_633 Q κ28 hκ28 v1 v2 v3 v4 v5 M8 h) (by omega) (ls_s (ls_s (ls_s (ls_s (ls_s (ls_s (ls_n (ls_n (ls_n ls_0)))))))))
      · rw [if_neg c] at h
        refine R_iconst (pc := 631) (v := 0) d_L_law_631 (by decide) ?_
        exact R_retv (pc := 632) d_L_law_632 h
  · rw [if_neg c] at h
    refine R_iconst (pc := 614) (v := 0) d_L_law_614 (by decide) ?_
    exact R_retv (pc := 615) d_L_law_615 h
def T_L_law_565 (κ28 : Nat → Nat → Nat → Nat → Int32 → Mem → Prop) (Q : Int32 → Mem → Prop) (sl : Nat) (xs : Nat → Int32) (v1 : Nat) (v2 : Nat) (v3 : Nat) (v4 : Nat) (v5 : Int32) (M : Mem) : Prop := T_L_law_2534 κ28 Q sl xs v1 v2 v3 v4 v5 M
set_option maxRecDepth 100000 in
set_option maxHeartbeats 4000000 in
theorem B_L_law_565 {g : GG} {kr : Nat} (Q : Int32 → Mem → Prop) (κ28 : Nat → Nat → Nat → Nat → Int32 → Mem → Prop) (hκ28 : ∀ (v1 : Nat) (v2 : Nat) (v3 : Nat) (v4 : Nat) (v5 : Int32) (M : Mem), κ28 v1 v2 v3 v4 v5 M → WP g 20 mL_law 28 [some (.ref g.2.2.2.1), some (.ref (g.1 + v1)), some (.ref (g.1 + v2)), some (.ref (g.1 + v3)), some (.ref (g.1 + v4)), some (.int v5), none, none, none] [] M kr (oZ Q noX)) (v1 : Nat) (v2 : Nat) (v3 : Nat) (v4 : Nat) (v5 : Int32) (M : Mem) (h : T_L_law_565 κ28 Q g.2.2.2.2.1 g.2.2.2.2.2 v1 v2 v3 v4 v5 M) : WP g 20 mL_law 565 [some (.ref g.2.2.2.1), some (.ref (g.1 + v1)), some (.ref (g.1 + v2)), some (.ref (g.1 + v3)), some (.ref (g.1 + v4)), some (.int v5), none, none, none] [] M (kr + 1) (oZ Q noX) := by
  unfold T_L_law_565 at h
  refine R_goto (pc := 565) (tgt := 2534) d_L_law_565 (by decide) ?_
  exact WP_sub (B_L_law_2534 Q κ28 hκ28 v1 v2 v3 v4 v5 M h) (by omega) (ls_s (ls_s (ls_s (ls_s (ls_s (ls_s (ls_n (ls_n (ls_n ls_0)))))))))
def T_L_law_500 (κ28 : Nat → Nat → Nat → Nat → Int32 → Mem → Prop) (Q : Int32 → Mem → Prop) (sl : Nat) (xs : Nat → Int32) (v1 : Nat) (v2 : Nat) (v3 : Nat) (v4 : Nat) (v5 : Int32) (M : Mem) : Prop := (vp_in (v5 + 1) sl) ∧ (vp_in (v5 + 2) sl) ∧ T_L_setLevel (fun y4 M3 => (kd v2 = 7) ∧ T_X7_setLevel (fun y7 M6 => T_X7_thrown (fun y9 M8 => if y9 = y4 then (if y4 = 0 then ((kd v3 = 12) ∧ (vp_in 0 (ln v3)) ∧ if (lg_cmp (M8.2.1 (Int32.toNatClampNeg 0)) (Int32.toInt64 y7)) = 0 then (T_L_law_565 κ28 Q sl xs v1 v2 v3 v4 v5 M8) else (((0 : Int32) = 0 ∨ (0 : Int32) = 1) ∧ Q 0 M8)) else (T_L_law_565 κ28 Q sl xs v1 v2 v3 v4 v5 M8)) else (((0 : Int32) = 0 ∨ (0 : Int32) = 1) ∧ Q 0 M8))  v2 M6)  v2 (xs (Int32.toNatClampNeg (v5 + 1))) (xs (Int32.toNatClampNeg (v5 + 2))) M3)  v1 (xs (Int32.toNatClampNeg (v5 + 1))) (xs (Int32.toNatClampNeg (v5 + 2))) v3 M
set_option maxRecDepth 100000 in
set_option maxHeartbeats 4000000 in
theorem B_L_law_500 {g : GG} {kr : Nat} (Q : Int32 → Mem → Prop) (κ28 : Nat → Nat → Nat → Nat → Int32 → Mem → Prop) (hκ28 : ∀ (v1 : Nat) (v2 : Nat) (v3 : Nat) (v4 : Nat) (v5 : Int32) (M : Mem), κ28 v1 v2 v3 v4 v5 M → WP g 20 mL_law 28 [some (.ref g.2.2.2.1), some (.ref (g.1 + v1)), some (.ref (g.1 + v2)), some (.ref (g.1 + v3)), some (.ref (g.1 + v4)), some (.int v5), none, none, none] [] M kr (oZ Q noX)) (v1 : Nat) (v2 : Nat) (v3 : Nat) (v4 : Nat) (v5 : Int32) (M : Mem) (h : T_L_law_500 κ28 Q g.2.2.2.2.1 g.2.2.2.2.2 v1 v2 v3 v4 v5 M) : WP g 20 mL_law 500 [some (.ref g.2.2.2.1), some (.ref (g.1 + v1)), some (.ref (g.1 + v2)), some (.ref (g.1 + v3)), some (.ref (g.1 + v4)), some (.int v5), none, none, none] [] M (kr + 2) (oZ Q noX) := by
  unfold T_L_law_500 at h
  refine R_aload_n (pc := 500) d_L_law_500 rfl rfl ?_
  refine R_aload_n (pc := 501) d_L_law_501 rfl rfl ?_
  refine R_iload (pc := 502) d_L_law_502 rfl ?_
  refine R_iconst (pc := 504) (v := 1) d_L_law_504 (by decide) ?_
  refine R_iadd (pc := 505) d_L_law_505 ?_
  obtain ⟨k1, h⟩ := h
  refine R_sld (pc := 506) k1 d_L_law_506 ?_
  refine R_aload_n (pc := 507) d_L_law_507 rfl rfl ?_
  refine R_iload (pc := 508) d_L_law_508 rfl ?_
  refine R_iconst (pc := 510) (v := 2) d_L_law_510 (by decide) ?_
  refine R_iadd (pc := 511) d_L_law_511 ?_
  obtain ⟨k2, h⟩ := h
  refine R_sld (pc := 512) k2 d_L_law_512 ?_
  refine R_aload_n (pc := 513) d_L_law_513 rfl rfl ?_
  refine R_callSW (pc := 514) (As := [.ref (g.1 + v1), .int (g.2.2.2.2.2 (Int32.toNatClampNeg (v5 + 1))), .int (g.2.2.2.2.2 (Int32.toNatClampNeg (v5 + 2))), .ref (g.1 + v3)]) (rest := []) (c_L_setLevel (g := g) v1 (g.2.2.2.2.2 (Int32.toNatClampNeg (v5 + 1))) (g.2.2.2.2.2 (Int32.toNatClampNeg (v5 + 2))) v3 M _ h) rfl rfl cal_RL_155 sta_L_setLevel (by decide) (by omega) rfl rfl (Nat.le_of_ble_eq_true rfl) d_L_law_514 (k_I (fun y4 M3 h => ?_)) (fun _ _ h9 => False.elim h9)
  try dsimp only at h
  refine R_istore (pc := 517) (L' := [some (.ref g.2.2.2.1), some (.ref (g.1 + v1)), some (.ref (g.1 + v2)), some (.ref (g.1 + v3)), some (.ref (g.1 + v4)), some (.int v5), some (.int y4), none, none]) d_L_law_517 (by decide) rfl ?_
  refine R_aload_n (pc := 519) d_L_law_519 rfl rfl ?_
  refine R_aload_n (pc := 520) d_L_law_520 rfl rfl ?_
  refine R_iload (pc := 521) d_L_law_521 rfl ?_
  refine R_iconst (pc := 523) (v := 1) d_L_law_523 (by decide) ?_
  refine R_iadd (pc := 524) d_L_law_524 ?_
  refine R_sld (pc := 525) k1 d_L_law_525 ?_
  refine R_aload_n (pc := 526) d_L_law_526 rfl rfl ?_
  refine R_iload (pc := 527) d_L_law_527 rfl ?_
  refine R_iconst (pc := 529) (v := 2) d_L_law_529 (by decide) ?_
  refine R_iadd (pc := 530) d_L_law_530 ?_
  refine R_sld (pc := 531) k2 d_L_law_531 ?_
  obtain ⟨k5, h⟩ := h
  refine R_callV (pc := 532) (As := [.int (g.2.2.2.2.2 (Int32.toNatClampNeg (v5 + 1))), .int (g.2.2.2.2.2 (Int32.toNatClampNeg (v5 + 2)))]) (rest := []) (c_X7_setLevel (g := g) v2 (g.2.2.2.2.2 (Int32.toNatClampNeg (v5 + 1))) (g.2.2.2.2.2 (Int32.toNatClampNeg (v5 + 2))) M3 _ h) rfl rfl cal_RL_157 ins_X7_setLevel sel_X7_setLevel (cls_at k5 clsOK7) (by decide) (by omega) rfl rfl (Nat.le_of_ble_eq_true rfl) d_L_law_532 (k_I (fun y7 M6 h => ?_)) (fun _ _ h9 => False.elim h9)
  try dsimp only at h
  refine R_istore (pc := 535) (L' := [some (.ref g.2.2.2.1), some (.ref (g.1 + v1)), some (.ref (g.1 + v2)), some (.ref (g.1 + v3)), some (.ref (g.1 + v4)), some (.int v5), some (.int y4), some (.int y7), none]) d_L_law_535 (by decide) rfl ?_
  refine R_aload_n (pc := 537) d_L_law_537 rfl rfl ?_
  refine R_callV (pc := 538) (As := []) (rest := []) (c_X7_thrown (g := g) v2 M6 _ h) rfl rfl cal_RL_140 ins_X7_thrown sel_X7_thrown (cls_at k5 clsOK7) (by decide) (by omega) rfl rfl (Nat.le_of_ble_eq_true rfl) d_L_law_538 (k_I (fun y9 M8 h => ?_)) (fun _ _ h9 => False.elim h9)
  try dsimp only at h
  refine R_iload (pc := 541) d_L_law_541 rfl ?_
  refine R_icmp_eq (pc := 543) (tgt := 548) d_L_law_543 (by decide) (fun c => ?_) (fun c => ?_)
  · rw [if_pos c] at h
    refine R_iload (pc := 548) d_L_law_548 rfl ?_
    refine R_if_ne (pc := 550) (tgt := 565) d_L_law_550 (by decide) (fun c => ?_) (fun c => ?_)
    · rw [if_neg c] at h
      exact WP_sub (B_L_law_565 Q κ28 hκ28 v1 v2 v3 v4 v5 M8 h) (by omega) (ls_s (ls_s (ls_s (ls_s (ls_s (ls_s (ls_n (ls_n (ls_n ls_0)))))))))
    · rw [if_pos c] at h
      refine R_aload_n (pc := 553) d_L_law_553 rfl rfl ?_
      refine R_iconst (pc := 554) (v := 0) d_L_law_554 (by decide) ?_
      obtain ⟨k10, h⟩ := h
      obtain ⟨k11, h⟩ := h
      refine R_lald (pc := 555) k10 k11 d_L_law_555 ?_
      refine R_iload (pc := 556) d_L_law_556 rfl ?_
      refine R_i2l (pc := 558) d_L_law_558 ?_
      refine R_lcmp (pc := 559) d_L_law_559 ?_
      refine R_if_eq (pc := 560) (tgt := 565) d_L_law_560 (by decide) (fun c => ?_) (fun c => ?_)
      · rw [if_pos c] at h
        exact WP_sub (B_L_law_565 Q κ28 hκ28 v1 v2 v3 v4 v5 M8 h) (by omega) (ls_s (ls_s (ls_s (ls_s (ls_s (ls_s (ls_n (ls_n (ls_n ls_0)))))))))
      · rw [if_neg c] at h
        refine R_iconst (pc := 563) (v := 0) d_L_law_563 (by decide) ?_
        exact R_retv (pc := 564) d_L_law_564 h
  · rw [if_neg c] at h
    refine R_iconst (pc := 546) (v := 0) d_L_law_546 (by decide) ?_
    exact R_retv (pc := 547) d_L_law_547 h
def T_L_law_497 (κ28 : Nat → Nat → Nat → Nat → Int32 → Mem → Prop) (Q : Int32 → Mem → Prop) (sl : Nat) (xs : Nat → Int32) (v1 : Nat) (v2 : Nat) (v3 : Nat) (v4 : Nat) (v5 : Int32) (M : Mem) : Prop := T_L_law_2534 κ28 Q sl xs v1 v2 v3 v4 v5 M
set_option maxRecDepth 100000 in
set_option maxHeartbeats 4000000 in
theorem B_L_law_497 {g : GG} {kr : Nat} (Q : Int32 → Mem → Prop) (κ28 : Nat → Nat → Nat → Nat → Int32 → Mem → Prop) (hκ28 : ∀ (v1 : Nat) (v2 : Nat) (v3 : Nat) (v4 : Nat) (v5 : Int32) (M : Mem), κ28 v1 v2 v3 v4 v5 M → WP g 20 mL_law 28 [some (.ref g.2.2.2.1), some (.ref (g.1 + v1)), some (.ref (g.1 + v2)), some (.ref (g.1 + v3)), some (.ref (g.1 + v4)), some (.int v5), none, none, none] [] M kr (oZ Q noX)) (v1 : Nat) (v2 : Nat) (v3 : Nat) (v4 : Nat) (v5 : Int32) (M : Mem) (h : T_L_law_497 κ28 Q g.2.2.2.2.1 g.2.2.2.2.2 v1 v2 v3 v4 v5 M) : WP g 20 mL_law 497 [some (.ref g.2.2.2.1), some (.ref (g.1 + v1)), some (.ref (g.1 + v2)), some (.ref (g.1 + v3)), some (.ref (g.1 + v4)), some (.int v5), none, none, none] [] M (kr + 1) (oZ Q noX) := by
  unfold T_L_law_497 at h
  refine R_goto (pc := 497) (tgt := 2534) d_L_law_497 (by decide) ?_
  exact WP_sub (B_L_law_2534 Q κ28 hκ28 v1 v2 v3 v4 v5 M h) (by omega) (ls_s (ls_s (ls_s (ls_s (ls_s (ls_s (ls_n (ls_n (ls_n ls_0)))))))))
def T_L_law_464 (κ28 : Nat → Nat → Nat → Nat → Int32 → Mem → Prop) (Q : Int32 → Mem → Prop) (sl : Nat) (xs : Nat → Int32) (v1 : Nat) (v2 : Nat) (v3 : Nat) (v4 : Nat) (v5 : Int32) (v6 : Int32) (s0 : Int32) (s1 : Int32) (s2 : Nat) (M : Mem) : Prop := (kd s2 = 7) ∧ T_X7_setOpen (fun y3 M2 => (kd v2 = 7) ∧ T_X7_thrown (fun y6 M5 => if y6 = v6 then (if v6 = 0 then ((kd v3 = 12) ∧ (vp_in 0 (ln v3)) ∧ if (lg_cmp (M5.2.1 (Int32.toNatClampNeg 0)) (Int32.toInt64 y3)) = 0 then (T_L_law_497 κ28 Q sl xs v1 v2 v3 v4 v5 M5) else (((0 : Int32) = 0 ∨ (0 : Int32) = 1) ∧ Q 0 M5)) else (T_L_law_497 κ28 Q sl xs v1 v2 v3 v4 v5 M5)) else (((0 : Int32) = 0 ∨ (0 : Int32) = 1) ∧ Q 0 M5))  v2 M2)  s2 s1 s0 M
set_option maxRecDepth 100000 in
set_option maxHeartbeats 4000000 in
theorem B_L_law_464 {g : GG} {kr : Nat} (Q : Int32 → Mem → Prop) (κ28 : Nat → Nat → Nat → Nat → Int32 → Mem → Prop) (hκ28 : ∀ (v1 : Nat) (v2 : Nat) (v3 : Nat) (v4 : Nat) (v5 : Int32) (M : Mem), κ28 v1 v2 v3 v4 v5 M → WP g 20 mL_law 28 [some (.ref g.2.2.2.1), some (.ref (g.1 + v1)), some (.ref (g.1 + v2)), some (.ref (g.1 + v3)), some (.ref (g.1 + v4)), some (.int v5), none, none, none] [] M kr (oZ Q noX)) (v1 : Nat) (v2 : Nat) (v3 : Nat) (v4 : Nat) (v5 : Int32) (v6 : Int32) (s0 : Int32) (s1 : Int32) (s2 : Nat) (M : Mem) (h : T_L_law_464 κ28 Q g.2.2.2.2.1 g.2.2.2.2.2 v1 v2 v3 v4 v5 v6 s0 s1 s2 M) : WP g 20 mL_law 464 [some (.ref g.2.2.2.1), some (.ref (g.1 + v1)), some (.ref (g.1 + v2)), some (.ref (g.1 + v3)), some (.ref (g.1 + v4)), some (.int v5), some (.int v6), none, none] [.int s0, .int s1, .ref (g.1 + s2)] M (kr + 1) (oZ Q noX) := by
  unfold T_L_law_464 at h
  obtain ⟨k1, h⟩ := h
  refine R_callV (pc := 464) (As := [.int s1, .int s0]) (rest := []) (c_X7_setOpen (g := g) s2 s1 s0 M _ h) rfl rfl cal_RL_154 ins_X7_setOpen sel_X7_setOpen (cls_at k1 clsOK7) (by decide) (by omega) rfl rfl (Nat.le_of_ble_eq_true rfl) d_L_law_464 (k_I (fun y3 M2 h => ?_)) (fun _ _ h9 => False.elim h9)
  try dsimp only at h
  refine R_istore (pc := 467) (L' := [some (.ref g.2.2.2.1), some (.ref (g.1 + v1)), some (.ref (g.1 + v2)), some (.ref (g.1 + v3)), some (.ref (g.1 + v4)), some (.int v5), some (.int v6), some (.int y3), none]) d_L_law_467 (by decide) rfl ?_
  refine R_aload_n (pc := 469) d_L_law_469 rfl rfl ?_
  obtain ⟨k4, h⟩ := h
  refine R_callV (pc := 470) (As := []) (rest := []) (c_X7_thrown (g := g) v2 M2 _ h) rfl rfl cal_RL_140 ins_X7_thrown sel_X7_thrown (cls_at k4 clsOK7) (by decide) (by omega) rfl rfl (Nat.le_of_ble_eq_true rfl) d_L_law_470 (k_I (fun y6 M5 h => ?_)) (fun _ _ h9 => False.elim h9)
  try dsimp only at h
  refine R_iload (pc := 473) d_L_law_473 rfl ?_
  refine R_icmp_eq (pc := 475) (tgt := 480) d_L_law_475 (by decide) (fun c => ?_) (fun c => ?_)
  · rw [if_pos c] at h
    refine R_iload (pc := 480) d_L_law_480 rfl ?_
    refine R_if_ne (pc := 482) (tgt := 497) d_L_law_482 (by decide) (fun c => ?_) (fun c => ?_)
    · rw [if_neg c] at h
      exact WP_sub (B_L_law_497 Q κ28 hκ28 v1 v2 v3 v4 v5 M5 h) (by omega) (ls_s (ls_s (ls_s (ls_s (ls_s (ls_s (ls_n (ls_n (ls_n ls_0)))))))))
    · rw [if_pos c] at h
      refine R_aload_n (pc := 485) d_L_law_485 rfl rfl ?_
      refine R_iconst (pc := 486) (v := 0) d_L_law_486 (by decide) ?_
      obtain ⟨k7, h⟩ := h
      obtain ⟨k8, h⟩ := h
      refine R_lald (pc := 487) k7 k8 d_L_law_487 ?_
      refine R_iload (pc := 488) d_L_law_488 rfl ?_
      refine R_i2l (pc := 490) d_L_law_490 ?_
      refine R_lcmp (pc := 491) d_L_law_491 ?_
      refine R_if_eq (pc := 492) (tgt := 497) d_L_law_492 (by decide) (fun c => ?_) (fun c => ?_)
      · rw [if_pos c] at h
        exact WP_sub (B_L_law_497 Q κ28 hκ28 v1 v2 v3 v4 v5 M5 h) (by omega) (ls_s (ls_s (ls_s (ls_s (ls_s (ls_s (ls_n (ls_n (ls_n ls_0)))))))))
      · rw [if_neg c] at h
        refine R_iconst (pc := 495) (v := 0) d_L_law_495 (by decide) ?_
        exact R_retv (pc := 496) d_L_law_496 h
  · rw [if_neg c] at h
    refine R_iconst (pc := 478) (v := 0) d_L_law_478 (by decide) ?_
    exact R_retv (pc := 479) d_L_law_479 h
def T_L_law_437 (κ28 : Nat → Nat → Nat → Nat → Int32 → Mem → Prop) (Q : Int32 → Mem → Prop) (sl : Nat) (xs : Nat → Int32) (v1 : Nat) (v2 : Nat) (v3 : Nat) (v4 : Nat) (v5 : Int32) (s0 : Int32) (s1 : Int32) (s2 : Nat) (M : Mem) : Prop := T_L_setOpen (fun y2 M1 => (vp_in (v5 + 1) sl) ∧ (vp_in (v5 + 2) sl) ∧ if (xs (Int32.toNatClampNeg (v5 + 2))) = 0 then (T_L_law_464 κ28 Q sl xs v1 v2 v3 v4 v5 y2 0 (xs (Int32.toNatClampNeg (v5 + 1))) v2 M1) else (T_L_law_464 κ28 Q sl xs v1 v2 v3 v4 v5 y2 1 (xs (Int32.toNatClampNeg (v5 + 1))) v2 M1))  s2 s1 s0 v3 M
set_option maxRecDepth 100000 in
set_option maxHeartbeats 4000000 in
theorem B_L_law_437 {g : GG} {kr : Nat} (Q : Int32 → Mem → Prop) (κ28 : Nat → Nat → Nat → Nat → Int32 → Mem → Prop) (hκ28 : ∀ (v1 : Nat) (v2 : Nat) (v3 : Nat) (v4 : Nat) (v5 : Int32) (M : Mem), κ28 v1 v2 v3 v4 v5 M → WP g 20 mL_law 28 [some (.ref g.2.2.2.1), some (.ref (g.1 + v1)), some (.ref (g.1 + v2)), some (.ref (g.1 + v3)), some (.ref (g.1 + v4)), some (.int v5), none, none, none] [] M kr (oZ Q noX)) (v1 : Nat) (v2 : Nat) (v3 : Nat) (v4 : Nat) (v5 : Int32) (s0 : Int32) (s1 : Int32) (s2 : Nat) (M : Mem) (h : T_L_law_437 κ28 Q g.2.2.2.2.1 g.2.2.2.2.2 v1 v2 v3 v4 v5 s0 s1 s2 M) : WP g 20 mL_law 437 [some (.ref g.2.2.2.1), some (.ref (g.1 + v1)), some (.ref (g.1 + v2)), some (.ref (g.1 + v3)), some (.ref (g.1 + v4)), some (.int v5), none, none, none] [.int s0, .int s1, .ref (g.1 + s2)] M (kr + 2) (oZ Q noX) := by
  unfold T_L_law_437 at h
  refine R_aload_n (pc := 437) d_L_law_437 rfl rfl ?_
  refine R_callSW (pc := 438) (As := [.ref (g.1 + s2), .int s1, .int s0, .ref (g.1 + v3)]) (rest := []) (c_L_setOpen (g := g) s2 s1 s0 v3 M _ h) rfl rfl cal_RL_151 sta_L_setOpen (by decide) (by omega) rfl rfl (Nat.le_of_ble_eq_true rfl) d_L_law_438 (k_I (fun y2 M1 h => ?_)) (fun _ _ h9 => False.elim h9)
  try dsimp only at h
  refine R_istore (pc := 441) (L' := [some (.ref g.2.2.2.1), some (.ref (g.1 + v1)), some (.ref (g.1 + v2)), some (.ref (g.1 + v3)), some (.ref (g.1 + v4)), some (.int v5), some (.int y2), none, none]) d_L_law_441 (by decide) rfl ?_
  refine R_aload_n (pc := 443) d_L_law_443 rfl rfl ?_
  refine R_aload_n (pc := 444) d_L_law_444 rfl rfl ?_
  refine R_iload (pc := 445) d_L_law_445 rfl ?_
  refine R_iconst (pc := 447) (v := 1) d_L_law_447 (by decide) ?_
  refine R_iadd (pc := 448) d_L_law_448 ?_
  obtain ⟨k3, h⟩ := h
  refine R_sld (pc := 449) k3 d_L_law_449 ?_
  refine R_aload_n (pc := 450) d_L_law_450 rfl rfl ?_
  refine R_iload (pc := 451) d_L_law_451 rfl ?_
  refine R_iconst (pc := 453) (v := 2) d_L_law_453 (by decide) ?_
  refine R_iadd (pc := 454) d_L_law_454 ?_
  obtain ⟨k4, h⟩ := h
  refine R_sld (pc := 455) k4 d_L_law_455 ?_
  refine R_if_eq (pc := 456) (tgt := 463) d_L_law_456 (by decide) (fun c => ?_) (fun c => ?_)
  · rw [if_pos c] at h
    refine R_iconst (pc := 463) (v := 0) d_L_law_463 (by decide) ?_
    exact WP_sub (B_L_law_464 Q κ28 hκ28 v1 v2 v3 v4 v5 y2 0 (g.2.2.2.2.2 (Int32.toNatClampNeg (v5 + 1))) v2 M1 h) (by omega) (ls_s (ls_s (ls_s (ls_s (ls_s (ls_s (ls_s (ls_n (ls_n ls_0)))))))))
  · rw [if_neg c] at h
    refine R_iconst (pc := 459) (v := 1) d_L_law_459 (by decide) ?_
    refine R_goto (pc := 460) (tgt := 464) d_L_law_460 (by decide) ?_
    exact WP_sub (B_L_law_464 Q κ28 hκ28 v1 v2 v3 v4 v5 y2 1 (g.2.2.2.2.2 (Int32.toNatClampNeg (v5 + 1))) v2 M1 h) (by omega) (ls_s (ls_s (ls_s (ls_s (ls_s (ls_s (ls_s (ls_n (ls_n ls_0)))))))))
def T_L_law_416 (κ28 : Nat → Nat → Nat → Nat → Int32 → Mem → Prop) (Q : Int32 → Mem → Prop) (sl : Nat) (xs : Nat → Int32) (v1 : Nat) (v2 : Nat) (v3 : Nat) (v4 : Nat) (v5 : Int32) (M : Mem) : Prop := (vp_in (v5 + 1) sl) ∧ (vp_in (v5 + 2) sl) ∧ if (xs (Int32.toNatClampNeg (v5 + 2))) = 0 then (T_L_law_437 κ28 Q sl xs v1 v2 v3 v4 v5 0 (xs (Int32.toNatClampNeg (v5 + 1))) v1 M) else (T_L_law_437 κ28 Q sl xs v1 v2 v3 v4 v5 1 (xs (Int32.toNatClampNeg (v5 + 1))) v1 M)
set_option maxRecDepth 100000 in
set_option maxHeartbeats 4000000 in
theorem B_L_law_416 {g : GG} {kr : Nat} (Q : Int32 → Mem → Prop) (κ28 : Nat → Nat → Nat → Nat → Int32 → Mem → Prop) (hκ28 : ∀ (v1 : Nat) (v2 : Nat) (v3 : Nat) (v4 : Nat) (v5 : Int32) (M : Mem), κ28 v1 v2 v3 v4 v5 M → WP g 20 mL_law 28 [some (.ref g.2.2.2.1), some (.ref (g.1 + v1)), some (.ref (g.1 + v2)), some (.ref (g.1 + v3)), some (.ref (g.1 + v4)), some (.int v5), none, none, none] [] M kr (oZ Q noX)) (v1 : Nat) (v2 : Nat) (v3 : Nat) (v4 : Nat) (v5 : Int32) (M : Mem) (h : T_L_law_416 κ28 Q g.2.2.2.2.1 g.2.2.2.2.2 v1 v2 v3 v4 v5 M) : WP g 20 mL_law 416 [some (.ref g.2.2.2.1), some (.ref (g.1 + v1)), some (.ref (g.1 + v2)), some (.ref (g.1 + v3)), some (.ref (g.1 + v4)), some (.int v5), none, none, none] [] M (kr + 2) (oZ Q noX) := by
  unfold T_L_law_416 at h
  refine R_aload_n (pc := 416) d_L_law_416 rfl rfl ?_
  refine R_aload_n (pc := 417) d_L_law_417 rfl rfl ?_
  refine R_iload (pc := 418) d_L_law_418 rfl ?_
  refine R_iconst (pc := 420) (v := 1) d_L_law_420 (by decide) ?_
  refine R_iadd (pc := 421) d_L_law_421 ?_
  obtain ⟨k1, h⟩ := h
  refine R_sld (pc := 422) k1 d_L_law_422 ?_
  refine R_aload_n (pc := 423) d_L_law_423 rfl rfl ?_
  refine R_iload (pc := 424) d_L_law_424 rfl ?_
  refine R_iconst (pc := 426) (v := 2) d_L_law_426 (by decide) ?_
  refine R_iadd (pc := 427) d_L_law_427 ?_
  obtain ⟨k2, h⟩ := h
  refine R_sld (pc := 428) k2 d_L_law_428 ?_
  refine R_if_eq (pc := 429) (tgt := 436) d_L_law_429 (by decide) (fun c => ?_) (fun c => ?_)
  · rw [if_pos c] at h
    refine R_iconst (pc := 436) (v := 0) d_L_law_436 (by decide) ?_
    exact WP_sub (B_L_law_437 Q κ28 hκ28 v1 v2 v3 v4 v5 0 (g.2.2.2.2.2 (Int32.toNatClampNeg (v5 + 1))) v1 M h) (by omega) (ls_s (ls_s (ls_s (ls_s (ls_s (ls_s (ls_n (ls_n (ls_n ls_0)))))))))
  · rw [if_neg c] at h
    refine R_iconst (pc := 432) (v := 1) d_L_law_432 (by decide) ?_
    refine R_goto (pc := 433) (tgt := 437) d_L_law_433 (by decide) ?_
    exact WP_sub (B_L_law_437 Q κ28 hκ28 v1 v2 v3 v4 v5 1 (g.2.2.2.2.2 (Int32.toNatClampNeg (v5 + 1))) v1 M h) (by omega) (ls_s (ls_s (ls_s (ls_s (ls_s (ls_s (ls_n (ls_n (ls_n ls_0)))))))))
def T_L_law_413 (κ28 : Nat → Nat → Nat → Nat → Int32 → Mem → Prop) (Q : Int32 → Mem → Prop) (sl : Nat) (xs : Nat → Int32) (v1 : Nat) (v2 : Nat) (v3 : Nat) (v4 : Nat) (v5 : Int32) (M : Mem) : Prop := T_L_law_2534 κ28 Q sl xs v1 v2 v3 v4 v5 M
set_option maxRecDepth 100000 in
set_option maxHeartbeats 4000000 in
theorem B_L_law_413 {g : GG} {kr : Nat} (Q : Int32 → Mem → Prop) (κ28 : Nat → Nat → Nat → Nat → Int32 → Mem → Prop) (hκ28 : ∀ (v1 : Nat) (v2 : Nat) (v3 : Nat) (v4 : Nat) (v5 : Int32) (M : Mem), κ28 v1 v2 v3 v4 v5 M → WP g 20 mL_law 28 [some (.ref g.2.2.2.1), some (.ref (g.1 + v1)), some (.ref (g.1 + v2)), some (.ref (g.1 + v3)), some (.ref (g.1 + v4)), some (.int v5), none, none, none] [] M kr (oZ Q noX)) (v1 : Nat) (v2 : Nat) (v3 : Nat) (v4 : Nat) (v5 : Int32) (M : Mem) (h : T_L_law_413 κ28 Q g.2.2.2.2.1 g.2.2.2.2.2 v1 v2 v3 v4 v5 M) : WP g 20 mL_law 413 [some (.ref g.2.2.2.1), some (.ref (g.1 + v1)), some (.ref (g.1 + v2)), some (.ref (g.1 + v3)), some (.ref (g.1 + v4)), some (.int v5), none, none, none] [] M (kr + 1) (oZ Q noX) := by
  unfold T_L_law_413 at h
  refine R_goto (pc := 413) (tgt := 2534) d_L_law_413 (by decide) ?_
  exact WP_sub (B_L_law_2534 Q κ28 hκ28 v1 v2 v3 v4 v5 M h) (by omega) (ls_s (ls_s (ls_s (ls_s (ls_s (ls_s (ls_n (ls_n (ls_n ls_0)))))))))
def T_L_law_380 (κ28 : Nat → Nat → Nat → Nat → Int32 → Mem → Prop) (Q : Int32 → Mem → Prop) (sl : Nat) (xs : Nat → Int32) (v1 : Nat) (v2 : Nat) (v3 : Nat) (v4 : Nat) (v5 : Int32) (v6 : Int32) (s0 : Int32) (s1 : Int32) (s2 : Int32) (s3 : Nat) (M : Mem) : Prop := (kd s3 = 7) ∧ T_X7_addRoom (fun y3 M2 => (kd v2 = 7) ∧ T_X7_thrown (fun y6 M5 => if y6 = v6 then (if v6 = 0 then ((kd v3 = 12) ∧ (vp_in 0 (ln v3)) ∧ if (lg_cmp (M5.2.1 (Int32.toNatClampNeg 0)) (Int32.toInt64 y3)) = 0 then (T_L_law_413 κ28 Q sl xs v1 v2 v3 v4 v5 M5) else (((0 : Int32) = 0 ∨ (0 : Int32) = 1) ∧ Q 0 M5)) else (T_L_law_413 κ28 Q sl xs v1 v2 v3 v4 v5 M5)) else (((0 : Int32) = 0 ∨ (0 : Int32) = 1) ∧ Q 0 M5))  v2 M2)  s3 s2 s1 s0 M
set_option maxRecDepth 100000 in
set_option maxHeartbeats 4000000 in
theorem B_L_law_380 {g : GG} {kr : Nat} (Q : Int32 → Mem → Prop) (κ28 : Nat → Nat → Nat → Nat → Int32 → Mem → Prop) (hκ28 : ∀ (v1 : Nat) (v2 : Nat) (v3 : Nat) (v4 : Nat) (v5 : Int32) (M : Mem), κ28 v1 v2 v3 v4 v5 M → WP g 20 mL_law 28 [some (.ref g.2.2.2.1), some (.ref (g.1 + v1)), some (.ref (g.1 + v2)), some (.ref (g.1 + v3)), some (.ref (g.1 + v4)), some (.int v5), none, none, none] [] M kr (oZ Q noX)) (v1 : Nat) (v2 : Nat) (v3 : Nat) (v4 : Nat) (v5 : Int32) (v6 : Int32) (s0 : Int32) (s1 : Int32) (s2 : Int32) (s3 : Nat) (M : Mem) (h : T_L_law_380 κ28 Q g.2.2.2.2.1 g.2.2.2.2.2 v1 v2 v3 v4 v5 v6 s0 s1 s2 s3 M) : WP g 20 mL_law 380 [some (.ref g.2.2.2.1), some (.ref (g.1 + v1)), some (.ref (g.1 + v2)), some (.ref (g.1 + v3)), some (.ref (g.1 + v4)), some (.int v5), some (.int v6), none, none] [.int s0, .int s1, .int s2, .ref (g.1 + s3)] M (kr + 1) (oZ Q noX) := by
  unfold T_L_law_380 at h
  obtain ⟨k1, h⟩ := h
  refine R_callV (pc := 380) (As := [.int s2, .int s1, .int s0]) (rest := []) (c_X7_addRoom (g := g) s3 s2 s1 s0 M _ h) rfl rfl cal_RL_150 ins_X7_addRoom sel_X7_addRoom (cls_at k1 clsOK7) (by decide) (by omega) rfl rfl (Nat.le_of_ble_eq_true rfl) d_L_law_380 (k_I (fun y3 M2 h => ?_)) (fun _ _ h9 => False.elim h9)
  try dsimp only at h
  refine R_istore (pc := 383) (L' := [some (.ref g.2.2.2.1), some (.ref (g.1 + v1)), some (.ref (g.1 + v2)), some (.ref (g.1 + v3)), some (.ref (g.1 + v4)), some (.int v5), some (.int v6), some (.int y3), none]) d_L_law_383 (by decide) rfl ?_
  refine R_aload_n (pc := 385) d_L_law_385 rfl rfl ?_
  obtain ⟨k4, h⟩ := h
  refine R_callV (pc := 386) (As := []) (rest := []) (c_X7_thrown (g := g) v2 M2 _ h) rfl rfl cal_RL_140 ins_X7_thrown sel_X7_thrown (cls_at k4 clsOK7) (by decide) (by omega) rfl rfl (Nat.le_of_ble_eq_true rfl) d_L_law_386 (k_I (fun y6 M5 h => ?_)) (fun _ _ h9 => False.elim h9)
  try dsimp only at h
  refine R_iload (pc := 389) d_L_law_389 rfl ?_
  refine R_icmp_eq (pc := 391) (tgt := 396) d_L_law_391 (by decide) (fun c => ?_) (fun c => ?_)
  · rw [if_pos c] at h
    refine R_iload (pc := 396) d_L_law_396 rfl ?_
    refine R_if_ne (pc := 398) (tgt := 413) d_L_law_398 (by decide) (fun c => ?_) (fun c => ?_)
    · rw [if_neg c] at h
      exact WP_sub (B_L_law_413 Q κ28 hκ28 v1 v2 v3 v4 v5 M5 h) (by omega) (ls_s (ls_s (ls_s (ls_s (ls_s (ls_s (ls_n (ls_n (ls_n ls_0)))))))))
    · rw [if_pos c] at h
      refine R_aload_n (pc := 401) d_L_law_401 rfl rfl ?_
      refine R_iconst (pc := 402) (v := 0) d_L_law_402 (by decide) ?_
      obtain ⟨k7, h⟩ := h
      obtain ⟨k8, h⟩ := h
      refine R_lald (pc := 403) k7 k8 d_L_law_403 ?_
      refine R_iload (pc := 404) d_L_law_404 rfl ?_
      refine R_i2l (pc := 406) d_L_law_406 ?_
      refine R_lcmp (pc := 407) d_L_law_407 ?_
      refine R_if_eq (pc := 408) (tgt := 413) d_L_law_408 (by decide) (fun c => ?_) (fun c => ?_)
      · rw [if_pos c] at h
        exact WP_sub (B_L_law_413 Q κ28 hκ28 v1 v2 v3 v4 v5 M5 h) (by omega) (ls_s (ls_s (ls_s (ls_s (ls_s (ls_s (ls_n (ls_n (ls_n ls_0)))))))))
      · rw [if_neg c] at h
        refine R_iconst (pc := 411) (v := 0) d_L_law_411 (by decide) ?_
        exact R_retv (pc := 412) d_L_law_412 h
  · rw [if_neg c] at h
    refine R_iconst (pc := 394) (v := 0) d_L_law_394 (by decide) ?_
    exact R_retv (pc := 395) d_L_law_395 h
def T_L_law_347 (κ28 : Nat → Nat → Nat → Nat → Int32 → Mem → Prop) (Q : Int32 → Mem → Prop) (sl : Nat) (xs : Nat → Int32) (v1 : Nat) (v2 : Nat) (v3 : Nat) (v4 : Nat) (v5 : Int32) (s0 : Int32) (s1 : Int32) (s2 : Int32) (s3 : Nat) (M : Mem) : Prop := T_L_addRoom (fun y2 M1 => (vp_in (v5 + 1) sl) ∧ (vp_in (v5 + 2) sl) ∧ (vp_in (v5 + 3) sl) ∧ if (xs (Int32.toNatClampNeg (v5 + 3))) = 0 then (T_L_law_380 κ28 Q sl xs v1 v2 v3 v4 v5 y2 0 (xs (Int32.toNatClampNeg (v5 + 2))) (xs (Int32.toNatClampNeg (v5 + 1))) v2 M1) else (T_L_law_380 κ28 Q sl xs v1 v2 v3 v4 v5 y2 1 (xs (Int32.toNatClampNeg (v5 + 2))) (xs (Int32.toNatClampNeg (v5 + 1))) v2 M1))  s3 s2 s1 s0 v3 M
set_option maxRecDepth 100000 in
set_option maxHeartbeats 4000000 in
theorem B_L_law_347 {g : GG} {kr : Nat} (Q : Int32 → Mem → Prop) (κ28 : Nat → Nat → Nat → Nat → Int32 → Mem → Prop) (hκ28 : ∀ (v1 : Nat) (v2 : Nat) (v3 : Nat) (v4 : Nat) (v5 : Int32) (M : Mem), κ28 v1 v2 v3 v4 v5 M → WP g 20 mL_law 28 [some (.ref g.2.2.2.1), some (.ref (g.1 + v1)), some (.ref (g.1 + v2)), some (.ref (g.1 + v3)), some (.ref (g.1 + v4)), some (.int v5), none, none, none] [] M kr (oZ Q noX)) (v1 : Nat) (v2 : Nat) (v3 : Nat) (v4 : Nat) (v5 : Int32) (s0 : Int32) (s1 : Int32) (s2 : Int32) (s3 : Nat) (M : Mem) (h : T_L_law_347 κ28 Q g.2.2.2.2.1 g.2.2.2.2.2 v1 v2 v3 v4 v5 s0 s1 s2 s3 M) : WP g 20 mL_law 347 [some (.ref g.2.2.2.1), some (.ref (g.1 + v1)), some (.ref (g.1 + v2)), some (.ref (g.1 + v3)), some (.ref (g.1 + v4)), some (.int v5), none, none, none] [.int s0, .int s1, .int s2, .ref (g.1 + s3)] M (kr + 2) (oZ Q noX) := by
  unfold T_L_law_347 at h
  refine R_aload_n (pc := 347) d_L_law_347 rfl rfl ?_
  refine R_callSW (pc := 348) (As := [.ref (g.1 + s3), .int s2, .int s1, .int s0, .ref (g.1 + v3)]) (rest := []) (c_L_addRoom (g := g) s3 s2 s1 s0 v3 M _ h) rfl rfl cal_RL_147 sta_L_addRoom (by decide) (by omega) rfl rfl (Nat.le_of_ble_eq_true rfl) d_L_law_348 (k_I (fun y2 M1 h => ?_)) (fun _ _ h9 => False.elim h9)
  try dsimp only at h
  refine R_istore (pc := 351) (L' := [some (.ref g.2.2.2.1), some (.ref (g.1 + v1)), some (.ref (g.1 + v2)), some (.ref (g.1 + v3)), some (.ref (g.1 + v4)), some (.int v5), some (.int y2), none, none]) d_L_law_351 (by decide) rfl ?_
  refine R_aload_n (pc := 353) d_L_law_353 rfl rfl ?_
  refine R_aload_n (pc := 354) d_L_law_354 rfl rfl ?_
  refine R_iload (pc := 355) d_L_law_355 rfl ?_
  refine R_iconst (pc := 357) (v := 1) d_L_law_357 (by decide) ?_
  refine R_iadd (pc := 358) d_L_law_358 ?_
  obtain ⟨k3, h⟩ := h
  refine R_sld (pc := 359) k3 d_L_law_359 ?_
  refine R_aload_n (pc := 360) d_L_law_360 rfl rfl ?_
  refine R_iload (pc := 361) d_L_law_361 rfl ?_
  refine R_iconst (pc := 363) (v := 2) d_L_law_363 (by decide) ?_
  refine R_iadd (pc := 364) d_L_law_364 ?_
  obtain ⟨k4, h⟩ := h
  refine R_sld (pc := 365) k4 d_L_law_365 ?_
  refine R_aload_n (pc := 366) d_L_law_366 rfl rfl ?_
  refine R_iload (pc := 367) d_L_law_367 rfl ?_
  refine R_iconst (pc := 369) (v := 3) d_L_law_369 (by decide) ?_
  refine R_iadd (pc := 370) d_L_law_370 ?_
  obtain ⟨k5, h⟩ := h
  refine R_sld (pc := 371) k5 d_L_law_371 ?_
  refine R_if_eq (pc := 372) (tgt := 379) d_L_law_372 (by decide) (fun c => ?_) (fun c => ?_)
  · rw [if_pos c] at h
    refine R_iconst (pc := 379) (v := 0) d_L_law_379 (by decide) ?_
    exact WP_sub (B_L_law_380 Q κ28 hκ28 v1 v2 v3 v4 v5 y2 0 (g.2.2.2.2.2 (Int32.toNatClampNeg (v5 + 2))) (g.2.2.2.2.2 (Int32.toNatClampNeg (v5 + 1))) v2 M1 h) (by omega) (ls_s (ls_s (ls_s (ls_s (ls_s (ls_s (ls_s (ls_n (ls_n ls_0)))))))))
  · rw [if_neg c] at h
    refine R_iconst (pc := 375) (v := 1) d_L_law_375 (by decide) ?_
    refine R_goto (pc := 376) (tgt := 380) d_L_law_376 (by decide) ?_
    exact WP_sub (B_L_law_380 Q κ28 hκ28 v1 v2 v3 v4 v5 y2 1 (g.2.2.2.2.2 (Int32.toNatClampNeg (v5 + 2))) (g.2.2.2.2.2 (Int32.toNatClampNeg (v5 + 1))) v2 M1 h) (by omega) (ls_s (ls_s (ls_s (ls_s (ls_s (ls_s (ls_s (ls_n (ls_n ls_0)))))))))
def T_L_law_320 (κ28 : Nat → Nat → Nat → Nat → Int32 → Mem → Prop) (Q : Int32 → Mem → Prop) (sl : Nat) (xs : Nat → Int32) (v1 : Nat) (v2 : Nat) (v3 : Nat) (v4 : Nat) (v5 : Int32) (M : Mem) : Prop := (vp_in (v5 + 1) sl) ∧ (vp_in (v5 + 2) sl) ∧ (vp_in (v5 + 3) sl) ∧ if (xs (Int32.toNatClampNeg (v5 + 3))) = 0 then (T_L_law_347 κ28 Q sl xs v1 v2 v3 v4 v5 0 (xs (Int32.toNatClampNeg (v5 + 2))) (xs (Int32.toNatClampNeg (v5 + 1))) v1 M) else (T_L_law_347 κ28 Q sl xs v1 v2 v3 v4 v5 1 (xs (Int32.toNatClampNeg (v5 + 2))) (xs (Int32.toNatClampNeg (v5 + 1))) v1 M)
set_option maxRecDepth 100000 in
set_option maxHeartbeats 4000000 in
theorem B_L_law_320 {g : GG} {kr : Nat} (Q : Int32 → Mem → Prop) (κ28 : Nat → Nat → Nat → Nat → Int32 → Mem → Prop) (hκ28 : ∀ (v1 : Nat) (v2 : Nat) (v3 : Nat) (v4 : Nat) (v5 : Int32) (M : Mem), κ28 v1 v2 v3 v4 v5 M → WP g 20 mL_law 28 [some (.ref g.2.2.2.1), some (.ref (g.1 + v1)), some (.ref (g.1 + v2)), some (.ref (g.1 + v3)), some (.ref (g.1 + v4)), some (.int v5), none, none, none] [] M kr (oZ Q noX)) (v1 : Nat) (v2 : Nat) (v3 : Nat) (v4 : Nat) (v5 : Int32) (M : Mem) (h : T_L_law_320 κ28 Q g.2.2.2.2.1 g.2.2.2.2.2 v1 v2 v3 v4 v5 M) : WP g 20 mL_law 320 [some (.ref g.2.2.2.1), some (.ref (g.1 + v1)), some (.ref (g.1 + v2)), some (.ref (g.1 + v3)), some (.ref (g.1 + v4)), some (.int v5), none, none, none] [] M (kr + 2) (oZ Q noX) := by
  unfold T_L_law_320 at h
  refine R_aload_n (pc := 320) d_L_law_320 rfl rfl ?_
  refine R_aload_n (pc := 321) d_L_law_321 rfl rfl ?_
  refine R_iload (pc := 322) d_L_law_322 rfl ?_
  refine R_iconst (pc := 324) (v := 1) d_L_law_324 (by decide) ?_
  refine R_iadd (pc := 325) d_L_law_325 ?_
  obtain ⟨k1, h⟩ := h
  refine R_sld (pc := 326) k1 d_L_law_326 ?_
  refine R_aload_n (pc := 327) d_L_law_327 rfl rfl ?_
  refine R_iload (pc := 328) d_L_law_328 rfl ?_
  refine R_iconst (pc := 330) (v := 2) d_L_law_330 (by decide) ?_
  refine R_iadd (pc := 331) d_L_law_331 ?_
  obtain ⟨k2, h⟩ := h
  refine R_sld (pc := 332) k2 d_L_law_332 ?_
  refine R_aload_n (pc := 333) d_L_law_333 rfl rfl ?_
  refine R_iload (pc := 334) d_L_law_334 rfl ?_
  refine R_iconst (pc := 336) (v := 3) d_L_law_336 (by decide) ?_
  refine R_iadd (pc := 337) d_L_law_337 ?_
  obtain ⟨k3, h⟩ := h
  refine R_sld (pc := 338) k3 d_L_law_338 ?_
  refine R_if_eq (pc := 339) (tgt := 346) d_L_law_339 (by decide) (fun c => ?_) (fun c => ?_)
  · rw [if_pos c] at h
    refine R_iconst (pc := 346) (v := 0) d_L_law_346 (by decide) ?_
    exact WP_sub (B_L_law_347 Q κ28 hκ28 v1 v2 v3 v4 v5 0 (g.2.2.2.2.2 (Int32.toNatClampNeg (v5 + 2))) (g.2.2.2.2.2 (Int32.toNatClampNeg (v5 + 1))) v1 M h) (by omega) (ls_s (ls_s (ls_s (ls_s (ls_s (ls_s (ls_n (ls_n (ls_n ls_0)))))))))
  · rw [if_neg c] at h
    refine R_iconst (pc := 342) (v := 1) d_L_law_342 (by decide) ?_
    refine R_goto (pc := 343) (tgt := 347) d_L_law_343 (by decide) ?_
    exact WP_sub (B_L_law_347 Q κ28 hκ28 v1 v2 v3 v4 v5 1 (g.2.2.2.2.2 (Int32.toNatClampNeg (v5 + 2))) (g.2.2.2.2.2 (Int32.toNatClampNeg (v5 + 1))) v1 M h) (by omega) (ls_s (ls_s (ls_s (ls_s (ls_s (ls_s (ls_n (ls_n (ls_n ls_0)))))))))
def T_L_law_317 (κ28 : Nat → Nat → Nat → Nat → Int32 → Mem → Prop) (Q : Int32 → Mem → Prop) (sl : Nat) (xs : Nat → Int32) (v1 : Nat) (v2 : Nat) (v3 : Nat) (v4 : Nat) (v5 : Int32) (M : Mem) : Prop := T_L_law_2534 κ28 Q sl xs v1 v2 v3 v4 v5 M
set_option maxRecDepth 100000 in
set_option maxHeartbeats 4000000 in
theorem B_L_law_317 {g : GG} {kr : Nat} (Q : Int32 → Mem → Prop) (κ28 : Nat → Nat → Nat → Nat → Int32 → Mem → Prop) (hκ28 : ∀ (v1 : Nat) (v2 : Nat) (v3 : Nat) (v4 : Nat) (v5 : Int32) (M : Mem), κ28 v1 v2 v3 v4 v5 M → WP g 20 mL_law 28 [some (.ref g.2.2.2.1), some (.ref (g.1 + v1)), some (.ref (g.1 + v2)), some (.ref (g.1 + v3)), some (.ref (g.1 + v4)), some (.int v5), none, none, none] [] M kr (oZ Q noX)) (v1 : Nat) (v2 : Nat) (v3 : Nat) (v4 : Nat) (v5 : Int32) (M : Mem) (h : T_L_law_317 κ28 Q g.2.2.2.2.1 g.2.2.2.2.2 v1 v2 v3 v4 v5 M) : WP g 20 mL_law 317 [some (.ref g.2.2.2.1), some (.ref (g.1 + v1)), some (.ref (g.1 + v2)), some (.ref (g.1 + v3)), some (.ref (g.1 + v4)), some (.int v5), none, none, none] [] M (kr + 1) (oZ Q noX) := by
  unfold T_L_law_317 at h
  refine R_goto (pc := 317) (tgt := 2534) d_L_law_317 (by decide) ?_
  exact WP_sub (B_L_law_2534 Q κ28 hκ28 v1 v2 v3 v4 v5 M h) (by omega) (ls_s (ls_s (ls_s (ls_s (ls_s (ls_s (ls_n (ls_n (ls_n ls_0)))))))))
def T_L_law_264 (κ28 : Nat → Nat → Nat → Nat → Int32 → Mem → Prop) (Q : Int32 → Mem → Prop) (sl : Nat) (xs : Nat → Int32) (v1 : Nat) (v2 : Nat) (v3 : Nat) (v4 : Nat) (v5 : Int32) (M : Mem) : Prop := (vp_in (v5 + 1) sl) ∧ T_L_addVisitor (fun y3 M2 => (kd v2 = 7) ∧ T_X7_addVisitor (fun y6 M5 => T_X7_thrown (fun y8 M7 => if y8 = y3 then (if y3 = 0 then ((kd v3 = 12) ∧ (vp_in 0 (ln v3)) ∧ if (lg_cmp (M7.2.1 (Int32.toNatClampNeg 0)) (Int32.toInt64 y6)) = 0 then (T_L_law_317 κ28 Q sl xs v1 v2 v3 v4 v5 M7) else (((0 : Int32) = 0 ∨ (0 : Int32) = 1) ∧ Q 0 M7)) else (T_L_law_317 κ28 Q sl xs v1 v2 v3 v4 v5 M7)) else (((0 : Int32) = 0 ∨ (0 : Int32) = 1) ∧ Q 0 M7))  v2 M5)  v2 (xs (Int32.toNatClampNeg (v5 + 1))) M2)  v1 (xs (Int32.toNatClampNeg (v5 + 1))) v3 M
set_option maxRecDepth 100000 in
set_option maxHeartbeats 4000000 in
theorem B_L_law_264 {g : GG} {kr : Nat} (Q : Int32 → Mem → Prop) (κ28 : Nat → Nat → Nat → Nat → Int32 → Mem → Prop) (hκ28 : ∀ (v1 : Nat) (v2 : Nat) (v3 : Nat) (v4 : Nat) (v5 : Int32) (M : Mem), κ28 v1 v2 v3 v4 v5 M → WP g 20 mL_law 28 [some (.ref g.2.2.2.1), some (.ref (g.1 + v1)), some (.ref (g.1 + v2)), some (.ref (g.1 + v3)), some (.ref (g.1 + v4)), some (.int v5), none, none, none] [] M kr (oZ Q noX)) (v1 : Nat) (v2 : Nat) (v3 : Nat) (v4 : Nat) (v5 : Int32) (M : Mem) (h : T_L_law_264 κ28 Q g.2.2.2.2.1 g.2.2.2.2.2 v1 v2 v3 v4 v5 M) : WP g 20 mL_law 264 [some (.ref g.2.2.2.1), some (.ref (g.1 + v1)), some (.ref (g.1 + v2)), some (.ref (g.1 + v3)), some (.ref (g.1 + v4)), some (.int v5), none, none, none] [] M (kr + 2) (oZ Q noX) := by
  unfold T_L_law_264 at h
  refine R_aload_n (pc := 264) d_L_law_264 rfl rfl ?_
  refine R_aload_n (pc := 265) d_L_law_265 rfl rfl ?_
  refine R_iload (pc := 266) d_L_law_266 rfl ?_
  refine R_iconst (pc := 268) (v := 1) d_L_law_268 (by decide) ?_
  refine R_iadd (pc := 269) d_L_law_269 ?_
  obtain ⟨k1, h⟩ := h
  refine R_sld (pc := 270) k1 d_L_law_270 ?_
  refine R_aload_n (pc := 271) d_L_law_271 rfl rfl ?_
  refine R_callSW (pc := 272) (As := [.ref (g.1 + v1), .int (g.2.2.2.2.2 (Int32.toNatClampNeg (v5 + 1))), .ref (g.1 + v3)]) (rest := []) (c_L_addVisitor (g := g) v1 (g.2.2.2.2.2 (Int32.toNatClampNeg (v5 + 1))) v3 M _ h) rfl rfl cal_RL_143 sta_L_addVisitor (by decide) (by omega) rfl rfl (Nat.le_of_ble_eq_true rfl) d_L_law_272 (k_I (fun y3 M2 h => ?_)) (fun _ _ h9 => False.elim h9)
  try dsimp only at h
  refine R_istore (pc := 275) (L' := [some (.ref g.2.2.2.1), some (.ref (g.1 + v1)), some (.ref (g.1 + v2)), some (.ref (g.1 + v3)), some (.ref (g.1 + v4)), some (.int v5), some (.int y3), none, none]) d_L_law_275 (by decide) rfl ?_
  refine R_aload_n (pc := 277) d_L_law_277 rfl rfl ?_
  refine R_aload_n (pc := 278) d_L_law_278 rfl rfl ?_
  refine R_iload (pc := 279) d_L_law_279 rfl ?_
  refine R_iconst (pc := 281) (v := 1) d_L_law_281 (by decide) ?_
  refine R_iadd (pc := 282) d_L_law_282 ?_
  refine R_sld (pc := 283) k1 d_L_law_283 ?_
  obtain ⟨k4, h⟩ := h
  refine R_callV (pc := 284) (As := [.int (g.2.2.2.2.2 (Int32.toNatClampNeg (v5 + 1)))]) (rest := []) (c_X7_addVisitor (g := g) v2 (g.2.2.2.2.2 (Int32.toNatClampNeg (v5 + 1))) M2 _ h) rfl rfl cal_RL_146 ins_X7_addVisitor sel_X7_addVisitor (cls_at k4 clsOK7) (by decide) (by omega) rfl rfl (Nat.le_of_ble_eq_true rfl) d_L_law_284 (k_I (fun y6 M5 h => ?_)) (fun _ _ h9 => False.elim h9)
  try dsimp only at h
  refine R_istore (pc := 287) (L' := [some (.ref g.2.2.2.1), some (.ref (g.1 + v1)), some (.ref (g.1 + v2)), some (.ref (g.1 + v3)), some (.ref (g.1 + v4)), some (.int v5), some (.int y3), some (.int y6), none]) d_L_law_287 (by decide) rfl ?_
  refine R_aload_n (pc := 289) d_L_law_289 rfl rfl ?_
  refine R_callV (pc := 290) (As := []) (rest := []) (c_X7_thrown (g := g) v2 M5 _ h) rfl rfl cal_RL_140 ins_X7_thrown sel_X7_thrown (cls_at k4 clsOK7) (by decide) (by omega) rfl rfl (Nat.le_of_ble_eq_true rfl) d_L_law_290 (k_I (fun y8 M7 h => ?_)) (fun _ _ h9 => False.elim h9)
  try dsimp only at h
  refine R_iload (pc := 293) d_L_law_293 rfl ?_
  refine R_icmp_eq (pc := 295) (tgt := 300) d_L_law_295 (by decide) (fun c => ?_) (fun c => ?_)
  · rw [if_pos c] at h
    refine R_iload (pc := 300) d_L_law_300 rfl ?_
    refine R_if_ne (pc := 302) (tgt := 317) d_L_law_302 (by decide) (fun c => ?_) (fun c => ?_)
    · rw [if_neg c] at h
      exact WP_sub (B_L_law_317 Q κ28 hκ28 v1 v2 v3 v4 v5 M7 h) (by omega) (ls_s (ls_s (ls_s (ls_s (ls_s (ls_s (ls_n (ls_n (ls_n ls_0)))))))))
    · rw [if_pos c] at h
      refine R_aload_n (pc := 305) d_L_law_305 rfl rfl ?_
      refine R_iconst (pc := 306) (v := 0) d_L_law_306 (by decide) ?_
      obtain ⟨k9, h⟩ := h
      obtain ⟨k10, h⟩ := h
      refine R_lald (pc := 307) k9 k10 d_L_law_307 ?_
      refine R_iload (pc := 308) d_L_law_308 rfl ?_
      refine R_i2l (pc := 310) d_L_law_310 ?_
      refine R_lcmp (pc := 311) d_L_law_311 ?_
      refine R_if_eq (pc := 312) (tgt := 317) d_L_law_312 (by decide) (fun c => ?_) (fun c => ?_)
      · rw [if_pos c] at h
        exact WP_sub (B_L_law_317 Q κ28 hκ28 v1 v2 v3 v4 v5 M7 h) (by omega) (ls_s (ls_s (ls_s (ls_s (ls_s (ls_s (ls_n (ls_n (ls_n ls_0)))))))))
      · rw [if_neg c] at h
        refine R_iconst (pc := 315) (v := 0) d_L_law_315 (by decide) ?_
        exact R_retv (pc := 316) d_L_law_316 h
  · rw [if_neg c] at h
    refine R_iconst (pc := 298) (v := 0) d_L_law_298 (by decide) ?_
    exact R_retv (pc := 299) d_L_law_299 h
def T_L_law_261 (κ28 : Nat → Nat → Nat → Nat → Int32 → Mem → Prop) (Q : Int32 → Mem → Prop) (sl : Nat) (xs : Nat → Int32) (v1 : Nat) (v2 : Nat) (v3 : Nat) (v4 : Nat) (v5 : Int32) (M : Mem) : Prop := T_L_law_2534 κ28 Q sl xs v1 v2 v3 v4 v5 M
set_option maxRecDepth 100000 in
set_option maxHeartbeats 4000000 in
theorem B_L_law_261 {g : GG} {kr : Nat} (Q : Int32 → Mem → Prop) (κ28 : Nat → Nat → Nat → Nat → Int32 → Mem → Prop) (hκ28 : ∀ (v1 : Nat) (v2 : Nat) (v3 : Nat) (v4 : Nat) (v5 : Int32) (M : Mem), κ28 v1 v2 v3 v4 v5 M → WP g 20 mL_law 28 [some (.ref g.2.2.2.1), some (.ref (g.1 + v1)), some (.ref (g.1 + v2)), some (.ref (g.1 + v3)), some (.ref (g.1 + v4)), some (.int v5), none, none, none] [] M kr (oZ Q noX)) (v1 : Nat) (v2 : Nat) (v3 : Nat) (v4 : Nat) (v5 : Int32) (M : Mem) (h : T_L_law_261 κ28 Q g.2.2.2.2.1 g.2.2.2.2.2 v1 v2 v3 v4 v5 M) : WP g 20 mL_law 261 [some (.ref g.2.2.2.1), some (.ref (g.1 + v1)), some (.ref (g.1 + v2)), some (.ref (g.1 + v3)), some (.ref (g.1 + v4)), some (.int v5), none, none, none] [] M (kr + 1) (oZ Q noX) := by
  unfold T_L_law_261 at h
  refine R_goto (pc := 261) (tgt := 2534) d_L_law_261 (by decide) ?_
  exact WP_sub (B_L_law_2534 Q κ28 hκ28 v1 v2 v3 v4 v5 M h) (by omega) (ls_s (ls_s (ls_s (ls_s (ls_s (ls_s (ls_n (ls_n (ls_n ls_0)))))))))
def T_L_law_196 (κ28 : Nat → Nat → Nat → Nat → Int32 → Mem → Prop) (Q : Int32 → Mem → Prop) (sl : Nat) (xs : Nat → Int32) (v1 : Nat) (v2 : Nat) (v3 : Nat) (v4 : Nat) (v5 : Int32) (M : Mem) : Prop := (vp_in (v5 + 1) sl) ∧ (vp_in (v5 + 2) sl) ∧ T_L_addInmate (fun y4 M3 => (kd v2 = 7) ∧ T_X7_addInmate (fun y7 M6 => T_X7_thrown (fun y9 M8 => if y9 = y4 then (if y4 = 0 then ((kd v3 = 12) ∧ (vp_in 0 (ln v3)) ∧ if (lg_cmp (M8.2.1 (Int32.toNatClampNeg 0)) (Int32.toInt64 y7)) = 0 then (T_L_law_261 κ28 Q sl xs v1 v2 v3 v4 v5 M8) else (((0 : Int32) = 0 ∨ (0 : Int32) = 1) ∧ Q 0 M8)) else (T_L_law_261 κ28 Q sl xs v1 v2 v3 v4 v5 M8)) else (((0 : Int32) = 0 ∨ (0 : Int32) = 1) ∧ Q 0 M8))  v2 M6)  v2 (xs (Int32.toNatClampNeg (v5 + 1))) (xs (Int32.toNatClampNeg (v5 + 2))) M3)  v1 (xs (Int32.toNatClampNeg (v5 + 1))) (xs (Int32.toNatClampNeg (v5 + 2))) v3 M
set_option maxRecDepth 100000 in
set_option maxHeartbeats 4000000 in
theorem B_L_law_196 {g : GG} {kr : Nat} (Q : Int32 → Mem → Prop) (κ28 : Nat → Nat → Nat → Nat → Int32 → Mem → Prop) (hκ28 : ∀ (v1 : Nat) (v2 : Nat) (v3 : Nat) (v4 : Nat) (v5 : Int32) (M : Mem), κ28 v1 v2 v3 v4 v5 M → WP g 20 mL_law 28 [some (.ref g.2.2.2.1), some (.ref (g.1 + v1)), some (.ref (g.1 + v2)), some (.ref (g.1 + v3)), some (.ref (g.1 + v4)), some (.int v5), none, none, none] [] M kr (oZ Q noX)) (v1 : Nat) (v2 : Nat) (v3 : Nat) (v4 : Nat) (v5 : Int32) (M : Mem) (h : T_L_law_196 κ28 Q g.2.2.2.2.1 g.2.2.2.2.2 v1 v2 v3 v4 v5 M) : WP g 20 mL_law 196 [some (.ref g.2.2.2.1), some (.ref (g.1 + v1)), some (.ref (g.1 + v2)), some (.ref (g.1 + v3)), some (.ref (g.1 + v4)), some (.int v5), none, none, none] [] M (kr + 2) (oZ Q noX) := by
  unfold T_L_law_196 at h
  refine R_aload_n (pc := 196) d_L_law_196 rfl rfl ?_
  refine R_aload_n (pc := 197) d_L_law_197 rfl rfl ?_
  refine R_iload (pc := 198) d_L_law_198 rfl ?_
  refine R_iconst (pc := 200) (v := 1) d_L_law_200 (by decide) ?_
  refine R_iadd (pc := 201) d_L_law_201 ?_
  obtain ⟨k1, h⟩ := h
  refine R_sld (pc := 202) k1 d_L_law_202 ?_
  refine R_aload_n (pc := 203) d_L_law_203 rfl rfl ?_
  refine R_iload (pc := 204) d_L_law_204 rfl ?_
  refine R_iconst (pc := 206) (v := 2) d_L_law_206 (by decide) ?_
  refine R_iadd (pc := 207) d_L_law_207 ?_
  obtain ⟨k2, h⟩ := h
  refine R_sld (pc := 208) k2 d_L_law_208 ?_
  refine R_aload_n (pc := 209) d_L_law_209 rfl rfl ?_
  refine R_callSW (pc := 210) (As := [.ref (g.1 + v1), .int (g.2.2.2.2.2 (Int32.toNatClampNeg (v5 + 1))), .int (g.2.2.2.2.2 (Int32.toNatClampNeg (v5 + 2))), .ref (g.1 + v3)]) (rest := []) (c_L_addInmate (g := g) v1 (g.2.2.2.2.2 (Int32.toNatClampNeg (v5 + 1))) (g.2.2.2.2.2 (Int32.toNatClampNeg (v5 + 2))) v3 M _ h) rfl rfl cal_RL_134 sta_L_addInmate (by decide) (by omega) rfl rfl (Nat.le_of_ble_eq_true rfl) d_L_law_210 (k_I (fun y4 M3 h => ?_)) (fun _ _ h9 => False.elim h9)
  try dsimp only at h
  refine R_istore (pc := 213) (L' := [some (.ref g.2.2.2.1), some (.ref (g.1 + v1)), some (.ref (g.1 + v2)), some (.ref (g.1 + v3)), some (.ref (g.1 + v4)), some (.int v5), some (.int y4), none, none]) d_L_law_213 (by decide) rfl ?_
  refine R_aload_n (pc := 215) d_L_law_215 rfl rfl ?_
  refine R_aload_n (pc := 216) d_L_law_216 rfl rfl ?_
  refine R_iload (pc := 217) d_L_law_217 rfl ?_
  refine R_iconst (pc := 219) (v := 1) d_L_law_219 (by decide) ?_
  refine R_iadd (pc := 220) d_L_law_220 ?_
  refine R_sld (pc := 221) k1 d_L_law_221 ?_
  refine R_aload_n (pc := 222) d_L_law_222 rfl rfl ?_
  refine R_iload (pc := 223) d_L_law_223 rfl ?_
  refine R_iconst (pc := 225) (v := 2) d_L_law_225 (by decide) ?_
  refine R_iadd (pc := 226) d_L_law_226 ?_
  refine R_sld (pc := 227) k2 d_L_law_227 ?_
  obtain ⟨k5, h⟩ := h
  refine R_callV (pc := 228) (As := [.int (g.2.2.2.2.2 (Int32.toNatClampNeg (v5 + 1))), .int (g.2.2.2.2.2 (Int32.toNatClampNeg (v5 + 2)))]) (rest := []) (c_X7_addInmate (g := g) v2 (g.2.2.2.2.2 (Int32.toNatClampNeg (v5 + 1))) (g.2.2.2.2.2 (Int32.toNatClampNeg (v5 + 2))) M3 _ h) rfl rfl cal_RL_139 ins_X7_addInmate sel_X7_addInmate (cls_at k5 clsOK7) (by decide) (by omega) rfl rfl (Nat.le_of_ble_eq_true rfl) d_L_law_228 (k_I (fun y7 M6 h => ?_)) (fun _ _ h9 => False.elim h9)
  try dsimp only at h
  refine R_istore (pc := 231) (L' := [some (.ref g.2.2.2.1), some (.ref (g.1 + v1)), some (.ref (g.1 + v2)), some (.ref (g.1 + v3)), some (.ref (g.1 + v4)), some (.int v5), some (.int y4), some (.int y7), none]) d_L_law_231 (by decide) rfl ?_
  refine R_aload_n (pc := 233) d_L_law_233 rfl rfl ?_
  refine R_callV (pc := 234) (As := []) (rest := []) (c_X7_thrown (g := g) v2 M6 _ h) rfl rfl cal_RL_140 ins_X7_thrown sel_X7_thrown (cls_at k5 clsOK7) (by decide) (by omega) rfl rfl (Nat.le_of_ble_eq_true rfl) d_L_law_234 (k_I (fun y9 M8 h => ?_)) (fun _ _ h9 => False.elim h9)
  try dsimp only at h
  refine R_iload (pc := 237) d_L_law_237 rfl ?_
  refine R_icmp_eq (pc := 239) (tgt := 244) d_L_law_239 (by decide) (fun c => ?_) (fun c => ?_)
  · rw [if_pos c] at h
    refine R_iload (pc := 244) d_L_law_244 rfl ?_
    refine R_if_ne (pc := 246) (tgt := 261) d_L_law_246 (by decide) (fun c => ?_) (fun c => ?_)
    · rw [if_neg c] at h
      exact WP_sub (B_L_law_261 Q κ28 hκ28 v1 v2 v3 v4 v5 M8 h) (by omega) (ls_s (ls_s (ls_s (ls_s (ls_s (ls_s (ls_n (ls_n (ls_n ls_0)))))))))
    · rw [if_pos c] at h
      refine R_aload_n (pc := 249) d_L_law_249 rfl rfl ?_
      refine R_iconst (pc := 250) (v := 0) d_L_law_250 (by decide) ?_
      obtain ⟨k10, h⟩ := h
      obtain ⟨k11, h⟩ := h
      refine R_lald (pc := 251) k10 k11 d_L_law_251 ?_
      refine R_iload (pc := 252) d_L_law_252 rfl ?_
      refine R_i2l (pc := 254) d_L_law_254 ?_
      refine R_lcmp (pc := 255) d_L_law_255 ?_
      refine R_if_eq (pc := 256) (tgt := 261) d_L_law_256 (by decide) (fun c => ?_) (fun c => ?_)
      · rw [if_pos c] at h
        exact WP_sub (B_L_law_261 Q κ28 hκ28 v1 v2 v3 v4 v5 M8 h) (by omega) (ls_s (ls_s (ls_s (ls_s (ls_s (ls_s (ls_n (ls_n (ls_n ls_0)))))))))
      · rw [if_neg c] at h
        refine R_iconst (pc := 259) (v := 0) d_L_law_259 (by decide) ?_
        exact R_retv (pc := 260) d_L_law_260 h
  · rw [if_neg c] at h
    refine R_iconst (pc := 242) (v := 0) d_L_law_242 (by decide) ?_
    exact R_retv (pc := 243) d_L_law_243 h
