def T_L_law_28 (κ28 : Nat → Nat → Nat → Nat → Int32 → Mem → Prop) (Q : Int32 → Mem → Prop) (sl : Nat) (xs : Nat → Int32) (v1 : Nat) (v2 : Nat) (v3 : Nat) (v4 : Nat) (v5 : Int32) (M : Mem) : Prop := if ((Int32.ofNat sl) - 6) < v5 then (((1 : Int32) = 0 ∨ (1 : Int32) = 1) ∧ Q 1 M) else ((vp_in v5 sl) ∧ ∀ x2 : Int32, x2 = (xs (Int32.toNatClampNeg v5)) &&& 63 → if x2 = 0 then (T_L_law_196 κ28 Q sl xs v1 v2 v3 v4 v5 M) else if x2 = 1 then (T_L_law_264 κ28 Q sl xs v1 v2 v3 v4 v5 M) else if x2 = 2 then (T_L_law_320 κ28 Q sl xs v1 v2 v3 v4 v5 M) else if x2 = 3 then (T_L_law_416 κ28 Q sl xs v1 v2 v3 v4 v5 M) else if x2 = 4 then (T_L_law_500 κ28 Q sl xs v1 v2 v3 v4 v5 M) else if x2 = 5 then (T_L_law_568 κ28 Q sl xs v1 v2 v3 v4 v5 M) else if x2 = 6 then (T_L_law_636 κ28 Q sl xs v1 v2 v3 v4 v5 M) else if x2 = 7 then (T_L_law_720 κ28 Q sl xs v1 v2 v3 v4 v5 M) else if x2 = 8 then (T_L_law_788 κ28 Q sl xs v1 v2 v3 v4 v5 M) else if x2 = 9 then (T_L_law_856 κ28 Q sl xs v1 v2 v3 v4 v5 M) else if x2 = 10 then (T_L_law_924 κ28 Q sl xs v1 v2 v3 v4 v5 M) else if x2 = 11 then (T_L_law_992 κ28 Q sl xs v1 v2 v3 v4 v5 M) else if x2 = 12 then (T_L_law_1084 κ28 Q sl xs v1 v2 v3 v4 v5 M) else if x2 = 13 then (T_L_law_1140 κ28 Q sl xs v1 v2 v3 v4 v5 M) else if x2 = 14 then (T_L_law_1232 κ28 Q sl xs v1 v2 v3 v4 v5 M) else if x2 = 15 then (T_L_law_1300 κ28 Q sl xs v1 v2 v3 v4 v5 M) else if x2 = 16 then (T_L_law_1368 κ28 Q sl xs v1 v2 v3 v4 v5 M) else if x2 = 17 then (T_L_law_1424 κ28 Q sl xs v1 v2 v3 v4 v5 M) else if x2 = 18 then (T_L_law_1520 κ28 Q sl xs v1 v2 v3 v4 v5 M) else if x2 = 19 then (T_L_law_1576 κ28 Q sl xs v1 v2 v3 v4 v5 M) else if x2 = 20 then (T_L_law_1680 κ28 Q sl xs v1 v2 v3 v4 v5 M) else if x2 = 21 then (T_L_law_1736 κ28 Q sl xs v1 v2 v3 v4 v5 M) else if x2 = 22 then (T_L_law_1804 κ28 Q sl xs v1 v2 v3 v4 v5 M) else if x2 = 23 then (T_L_law_1896 κ28 Q sl xs v1 v2 v3 v4 v5 M) else if x2 = 24 then (T_L_law_1964 κ28 Q sl xs v1 v2 v3 v4 v5 M) else if x2 = 25 then (T_L_law_2048 κ28 Q sl xs v1 v2 v3 v4 v5 M) else if x2 = 26 then (T_L_law_2132 κ28 Q sl xs v1 v2 v3 v4 v5 M) else if x2 = 27 then (T_L_law_2188 κ28 Q sl xs v1 v2 v3 v4 v5 M) else if x2 = 28 then (T_L_law_2253 κ28 Q sl xs v1 v2 v3 v4 v5 M) else if x2 = 29 then (T_L_law_2331 κ28 Q sl xs v1 v2 v3 v4 v5 M) else if x2 = 30 then (T_L_law_2389 κ28 Q sl xs v1 v2 v3 v4 v5 M) else if x2 = 31 then (T_L_law_2433 κ28 Q sl xs v1 v2 v3 v4 v5 M) else if x2 = 32 then (T_L_law_2477 κ28 Q sl xs v1 v2 v3 v4 v5 M) else if x2 = 33 then (T_L_law_2490 κ28 Q sl xs v1 v2 v3 v4 v5 M) else (T_L_law_2534 κ28 Q sl xs v1 v2 v3 v4 v5 M))
set_option maxRecDepth 100000 in
set_option maxHeartbeats 4000000 in
theorem B_L_law_28 {g : GG} {kr : Nat} (Q : Int32 → Mem → Prop) (κ28 : Nat → Nat → Nat → Nat → Int32 → Mem → Prop) (hκ28 : ∀ (v1 : Nat) (v2 : Nat) (v3 : Nat) (v4 : Nat) (v5 : Int32) (M : Mem), κ28 v1 v2 v3 v4 v5 M → WP g 20 mL_law 28 [some (.ref g.2.2.2.1), some (.ref (g.1 + v1)), some (.ref (g.1 + v2)), some (.ref (g.1 + v3)), some (.ref (g.1 + v4)), some (.int v5), none, none, none] [] M kr (oZ Q noX)) (v1 : Nat) (v2 : Nat) (v3 : Nat) (v4 : Nat) (v5 : Int32) (M : Mem) (h : T_L_law_28 κ28 Q g.2.2.2.2.1 g.2.2.2.2.2 v1 v2 v3 v4 v5 M) : WP g 20 mL_law 28 [some (.ref g.2.2.2.1), some (.ref (g.1 + v1)), some (.ref (g.1 + v2)), some (.ref (g.1 + v3)), some (.ref (g.1 + v4)), some (.int v5), none, none, none] [] M (kr + 2) (oZ Q noX) := by
  unfold T_L_law_28 at h
  refine R_iload (pc := 28) d_L_law_28 rfl ?_
  refine R_aload_n (pc := 30) d_L_law_30 rfl rfl ?_
  refine R_slen (pc := 31) d_L_law_31 ?_
  refine R_bipush (pc := 32) (v := 6) d_L_law_32 (by decide) ?_
  refine R_isub (pc := 34) d_L_law_34 ?_
  refine R_icmp_gt (pc := 35) (tgt := 2540) d_L_law_35 (by decide) (fun c => ?_) (fun c => ?_)
  · rw [if_pos c] at h
    refine R_iconst (pc := 2540) (v := 1) d_L_law_2540 (by decide) ?_
    exact R_retv (pc := 2541) d_L_law_2541 h
  · rw [if_neg c] at h
    refine R_aload_n (pc := 38) d_L_law_38 rfl rfl ?_
    refine R_iload (pc := 39) d_L_law_39 rfl ?_
    obtain ⟨k1, h⟩ := h
    refine R_sld (pc := 41) k1 d_L_law_41 ?_
    refine R_bipush (pc := 42) (v := 63) d_L_law_42 (by decide) ?_
    refine R_iand (pc := 44) d_L_law_44 ?_
    refine N_i (fun x2 ex2 => ?_)
    have h := h x2 ex2
    by_cases c0 : x2 = 0
    · rw [if_pos c0] at h
      rw [c0]
      refine R_tsIn (pc := 45) (off := 151) (tgt := 196) d_L_law_45 (by decide) (by decide) (by decide) (by decide) ?_
      exact WP_sub (B_L_law_196 Q κ28 hκ28 v1 v2 v3 v4 v5 M h) (by omega) (ls_s (ls_s (ls_s (ls_s (ls_s (ls_s (ls_n (ls_n (ls_n ls_0)))))))))
    rw [if_neg c0] at h
    by_cases c1 : x2 = 1
    · rw [if_pos c1] at h
      rw [c1]
      refine R_tsIn (pc := 45) (off := 219) (tgt := 264) d_L_law_45 (by decide) (by decide) (by decide) (by decide) ?_
      exact WP_sub (B_L_law_264 Q κ28 hκ28 v1 v2 v3 v4 v5 M h) (by omega) (ls_s (ls_s (ls_s (ls_s (ls_s (ls_s (ls_n (ls_n (ls_n ls_0)))))))))
    rw [if_neg c1] at h
    by_cases c2 : x2 = 2
    · rw [if_pos c2] at h
      rw [c2]
      refine R_tsIn (pc := 45) (off := 275) (tgt := 320) d_L_law_45 (by decide) (by decide) (by decide) (by decide) ?_
      exact WP_sub (B_L_law_320 Q κ28 hκ28 v1 v2 v3 v4 v5 M h) (by omega) (ls_s (ls_s (ls_s (ls_s (ls_s (ls_s (ls_n (ls_n (ls_n ls_0)))))))))
    rw [if_neg c2] at h
    by_cases c3 : x2 = 3
    · rw [if_pos c3] at h
      rw [c3]
      refine R_tsIn (pc := 45) (off := 371) (tgt := 416) d_L_law_45 (by decide) (by decide) (by decide) (by decide) ?_
      exact WP_sub (B_L_law_416 Q κ28 hκ28 v1 v2 v3 v4 v5 M h) (by omega) (ls_s (ls_s (ls_s (ls_s (ls_s (ls_s (ls_n (ls_n (ls_n ls_0)))))))))
    rw [if_neg c3] at h
    by_cases c4 : x2 = 4
    · rw [if_pos c4] at h
      rw [c4]
      refine R_tsIn (pc := 45) (off := 455) (tgt := 500) d_L_law_45 (by decide) (by decide) (by decide) (by decide) ?_
      exact WP_sub (B_L_law_500 Q κ28 hκ28 v1 v2 v3 v4 v5 M h) (by omega) (ls_s (ls_s (ls_s (ls_s (ls_s (ls_s (ls_n (ls_n (ls_n ls_0)))))))))
    rw [if_neg c4] at h
    by_cases c5 : x2 = 5
    · rw [if_pos c5] at h
      rw [c5]
      refine R_tsIn (pc := 45) (off := 523) (tgt := 568) d_L_law_45 (by decide) (by decide) (by decide) (by decide) ?_
      exact WP_sub (B_L_law_568 Q κ28 hκ28 v1 v2 v3 v4 v5 M h) (by omega) (ls_s (ls_s (ls_s (ls_s (ls_s (ls_s (ls_n (ls_n (ls_n ls_0)))))))))
    rw [if_neg c5] at h
    by_cases c6 : x2 = 6
    · rw [if_pos c6] at h
      rw [c6]
      refine R_tsIn (pc := 45) (off := 591) (tgt := 636) d_L_law_45 (by decide) (by decide) (by decide) (by decide) ?_
      exact WP_sub (B_L_law_636 Q κ28 hκ28 v1 v2 v3 v4 v5 M h) (by omega) (ls_s (ls_s (ls_s (ls_s (ls_s (ls_s (ls_n (ls_n (ls_n ls_0)))))))))
    rw [if_neg c6] at h
    by_cases c7 : x2 = 7
    · rw [if_pos c7] at h
      rw [c7]
      refine R_tsIn (pc := 45) (off := 675) (tgt := 720) d_L_law_45 (by decide) (by decide) (by decide) (by decide) ?_
      exact WP_sub (B_L_law_720 Q κ28 hκ28 v1 v2 v3 v4 v5 M h) (by omega) (ls_s (ls_s (ls_s (ls_s (ls_s (ls_s (ls_n (ls_n (ls_n ls_0)))))))))
    rw [if_neg c7] at h
    by_cases c8 : x2 = 8
    · rw [if_pos c8] at h
      rw [c8]
      refine R_tsIn (pc := 45) (off := 743) (tgt := 788) d_L_law_45 (by decide) (by decide) (by decide) (by decide) ?_
      exact WP_sub (B_L_law_788 Q κ28 hκ28 v1 v2 v3 v4 v5 M h) (by omega) (ls_s (ls_s (ls_s (ls_s (ls_s (ls_s (ls_n (ls_n (ls_n ls_0)))))))))
    rw [if_neg c8] at h
    by_cases c9 : x2 = 9
    · rw [if_pos c9] at h
      rw [c9]
      refine R_tsIn (pc := 45) (off := 811) (tgt := 856) d_L_law_45 (by decide) (by decide) (by decide) (by decide) ?_
      exact WP_sub (B_L_law_856 Q κ28 hκ28 v1 v2 v3 v4 v5 M h) (by omega) (ls_s (ls_s (ls_s (ls_s (ls_s (ls_s (ls_n (ls_n (ls_n ls_0)))))))))
    rw [if_neg c9] at h
    by_cases c10 : x2 = 10
    · rw [if_pos c10] at h
      rw [c10]
      refine R_tsIn (pc := 45) (off := 879) (tgt := 924) d_L_law_45 (by decide) (by decide) (by decide) (by decide) ?_
      exact WP_sub (B_L_law_924 Q κ28 hκ28 v1 v2 v3 v4 v5 M h) (by omega) (ls_s (ls_s (ls_s (ls_s (ls_s (ls_s (ls_n (ls_n (ls_n ls_0)))))))))
    rw [if_neg c10] at h
    by_cases c11 : x2 = 11
    · rw [if_pos c11] at h
      rw [c11]
      refine R_tsIn (pc := 45) (off := 947) (tgt := 992) d_L_law_45 (by decide) (by decide) (by decide) (by decide) ?_
      exact WP_sub (B_L_law_992 Q κ28 hκ28 v1 v2 v3 v4 v5 M h) (by omega) (ls_s (ls_s (ls_s (ls_s (ls_s (ls_s (ls_n (ls_n (ls_n ls_0)))))))))
    rw [if_neg c11] at h
    by_cases c12 : x2 = 12
    · rw [if_pos c12] at h
      rw [c12]
      refine R_tsIn (pc := 45) (off := 1039) (tgt := 1084) d_L_law_45 (by decide) (by decide) (by decide) (by decide) ?_
      exact WP_sub (B_L_law_1084 Q κ28 hκ28 v1 v2 v3 v4 v5 M h) (by omega) (ls_s (ls_s (ls_s (ls_s (ls_s (ls_s (ls_n (ls_n (ls_n ls_0)))))))))
    rw [if_neg c12] at h
    by_cases c13 : x2 = 13
    · rw [if_pos c13] at h
      rw [c13]
      refine R_tsIn (pc := 45) (off := 1095) (tgt := 1140) d_L_law_45 (by decide) (by decide) (by decide) (by decide) ?_
      exact WP_sub (B_L_law_1140 Q κ28 hκ28 v1 v2 v3 v4 v5 M h) (by omega) (ls_s (ls_s (ls_s (ls_s (ls_s (ls_s (ls_n (ls_n (ls_n ls_0)))))))))
    rw [if_neg c13] at h
    by_cases c14 : x2 = 14
    · rw [if_pos c14] at h
      rw [c14]
      refine R_tsIn (pc := 45) (off := 1187) (tgt := 1232) d_L_law_45 (by decide) (by decide) (by decide) (by decide) ?_
      exact WP_sub (B_L_law_1232 Q κ28 hκ28 v1 v2 v3 v4 v5 M h) (by omega) (ls_s (ls_s (ls_s (ls_s (ls_s (ls_s (ls_n (ls_n (ls_n ls_0)))))))))
    rw [if_neg c14] at h
    by_cases c15 : x2 = 15
    · rw [if_pos c15] at h
      rw [c15]
      refine R_tsIn (pc := 45) (off := 1255) (tgt := 1300) d_L_law_45 (by decide) (by decide) (by decide) (by decide) ?_
      exact WP_sub (B_L_law_1300 Q κ28 hκ28 v1 v2 v3 v4 v5 M h) (by omega) (ls_s (ls_s (ls_s (ls_s (ls_s (ls_s (ls_n (ls_n (ls_n ls_0)))))))))
    rw [if_neg c15] at h
    by_cases c16 : x2 = 16
    · rw [if_pos c16] at h
      rw [c16]
      refine R_tsIn (pc := 45) (off := 1323) (tgt := 1368) d_L_law_45 (by decide) (by decide) (by decide) (by decide) ?_
      exact WP_sub (B_L_law_1368 Q κ28 hκ28 v1 v2 v3 v4 v5 M h) (by omega) (ls_s (ls_s (ls_s (ls_s (ls_s (ls_s (ls_n (ls_n (ls_n ls_0)))))))))
    rw [if_neg c16] at h
    by_cases c17 : x2 = 17
    · rw [if_pos c17] at h
      rw [c17]
      refine R_tsIn (pc := 45) (off := 1379) (tgt := 1424) d_L_law_45 (by decide) (by decide) (by decide) (by decide) ?_
      exact WP_sub (B_L_law_1424 Q κ28 hκ28 v1 v2 v3 v4 v5 M h) (by omega) (ls_s (ls_s (ls_s (ls_s (ls_s (ls_s (ls_n (ls_n (ls_n ls_0)))))))))
    rw [if_neg c17] at h
    by_cases c18 : x2 = 18
    · rw [if_pos c18] at h
      rw [c18]
      refine R_tsIn (pc := 45) (off := 1475) (tgt := 1520) d_L_law_45 (by decide) (by decide) (by decide) (by decide) ?_
      exact WP_sub (B_L_law_1520 Q κ28 hκ28 v1 v2 v3 v4 v5 M h) (by omega) (ls_s (ls_s (ls_s (ls_s (ls_s (ls_s (ls_n (ls_n (ls_n ls_0)))))))))
    rw [if_neg c18] at h
    by_cases c19 : x2 = 19
    · rw [if_pos c19] at h
      rw [c19]
      refine R_tsIn (pc := 45) (off := 1531) (tgt := 1576) d_L_law_45 (by decide) (by decide) (by decide) (by decide) ?_
      exact WP_sub (B_L_law_1576 Q κ28 hκ28 v1 v2 v3 v4 v5 M h) (by omega) (ls_s (ls_s (ls_s (ls_s (ls_s (ls_s (ls_n (ls_n (ls_n ls_0)))))))))
    rw [if_neg c19] at h
    by_cases c20 : x2 = 20
    · rw [if_pos c20] at h
      rw [c20]
      refine R_tsIn (pc := 45) (off := 1635) (tgt := 1680) d_L_law_45 (by decide) (by decide) (by decide) (by decide) ?_
      exact WP_sub (B_L_law_1680 Q κ28 hκ28 v1 v2 v3 v4 v5 M h) (by omega) (ls_s (ls_s (ls_s (ls_s (ls_s (ls_s (ls_n (ls_n (ls_n ls_0)))))))))
    rw [if_neg c20] at h
    by_cases c21 : x2 = 21
    · rw [if_pos c21] at h
      rw [c21]
      refine R_tsIn (pc := 45) (off := 1691) (tgt := 1736) d_L_law_45 (by decide) (by decide) (by decide) (by decide) ?_
      exact WP_sub (B_L_law_1736 Q κ28 hκ28 v1 v2 v3 v4 v5 M h) (by omega) (ls_s (ls_s (ls_s (ls_s (ls_s (ls_s (ls_n (ls_n (ls_n ls_0)))))))))
    rw [if_neg c21] at h
    by_cases c22 : x2 = 22
    · rw [if_pos c22] at h
      rw [c22]
      refine R_tsIn (pc := 45) (off := 1759) (tgt := 1804) d_L_law_45 (by decide) (by decide) (by decide) (by decide) ?_
      exact WP_sub (B_L_law_1804 Q κ28 hκ28 v1 v2 v3 v4 v5 M h) (by omega) (ls_s (ls_s (ls_s (ls_s (ls_s (ls_s (ls_n (ls_n (ls_n ls_0)))))))))
    rw [if_neg c22] at h
    by_cases c23 : x2 = 23
    · rw [if_pos c23] at h
      rw [c23]
      refine R_tsIn (pc := 45) (off := 1851) (tgt := 1896) d_L_law_45 (by decide) (by decide) (by decide) (by decide) ?_
      exact WP_sub (B_L_law_1896 Q κ28 hκ28 v1 v2 v3 v4 v5 M h) (by omega) (ls_s (ls_s (ls_s (ls_s (ls_s (ls_s (ls_n (ls_n (ls_n ls_0)))))))))
    rw [if_neg c23] at h
    by_cases c24 : x2 = 24
    · rw [if_pos c24] at h
      rw [c24]
      refine R_tsIn (pc := 45) (off := 1919) (tgt := 1964) d_L_law_45 (by decide) (by decide) (by decide) (by decide) ?_
      exact WP_sub (B_L_law_1964 Q κ28 hκ28 v1 v2 v3 v4 v5 M h) (by omega) (ls_s (ls_s (ls_s (ls_s (ls_s (ls_s (ls_n (ls_n (ls_n ls_0)))))))))
    rw [if_neg c24] at h
    by_cases c25 : x2 = 25
    · rw [if_pos c25] at h
      rw [c25]
      refine R_tsIn (pc := 45) (off := 2003) (tgt := 2048) d_L_law_45 (by decide) (by decide) (by decide) (by decide) ?_
      exact WP_sub (B_L_law_2048 Q κ28 hκ28 v1 v2 v3 v4 v5 M h) (by omega) (ls_s (ls_s (ls_s (ls_s (ls_s (ls_s (ls_n (ls_n (ls_n ls_0)))))))))
    rw [if_neg c25] at h
    by_cases c26 : x2 = 26
    · rw [if_pos c26] at h
      rw [c26]
      refine R_tsIn (pc := 45) (off := 2087) (tgt := 2132) d_L_law_45 (by decide) (by decide) (by decide) (by decide) ?_
      exact WP_sub (B_L_law_2132 Q κ28 hκ28 v1 v2 v3 v4 v5 M h) (by omega) (ls_s (ls_s (ls_s (ls_s (ls_s (ls_s (ls_n (ls_n (ls_n ls_0)))))))))
    rw [if_neg c26] at h
    by_cases c27 : x2 = 27
    · rw [if_pos c27] at h
      rw [c27]
      refine R_tsIn (pc := 45) (off := 2143) (tgt := 2188) d_L_law_45 (by decide) (by decide) (by decide) (by decide) ?_
      exact WP_sub (B_L_law_2188 Q κ28 hκ28 v1 v2 v3 v4 v5 M h) (by omega) (ls_s (ls_s (ls_s (ls_s (ls_s (ls_s (ls_n (ls_n (ls_n ls_0)))))))))
    rw [if_neg c27] at h
    by_cases c28 : x2 = 28
    · rw [if_pos c28] at h
      rw [c28]
      refine R_tsIn (pc := 45) (off := 2208) (tgt := 2253) d_L_law_45 (by decide) (by decide) (by decide) (by decide) ?_
      exact WP_sub (B_L_law_2253 Q κ28 hκ28 v1 v2 v3 v4 v5 M h) (by omega) (ls_s (ls_s (ls_s (ls_s (ls_s (ls_s (ls_n (ls_n (ls_n ls_0)))))))))
    rw [if_neg c28] at h
    by_cases c29 : x2 = 29
    · rw [if_pos c29] at h
      rw [c29]
      refine R_tsIn (pc := 45) (off := 2286) (tgt := 2331) d_L_law_45 (by decide) (by decide) (by decide) (by decide) ?_
      exact WP_sub (B_L_law_2331 Q κ28 hκ28 v1 v2 v3 v4 v5 M h) (by omega) (ls_s (ls_s (ls_s (ls_s (ls_s (ls_s (ls_n (ls_n (ls_n ls_0)))))))))
    rw [if_neg c29] at h
    by_cases c30 : x2 = 30
    · rw [if_pos c30] at h
      rw [c30]
      refine R_tsIn (pc := 45) (off := 2344) (tgt := 2389) d_L_law_45 (by decide) (by decide) (by decide) (by decide) ?_
      exact WP_sub (B_L_law_2389 Q κ28 hκ28 v1 v2 v3 v4 v5 M h) (by omega) (ls_s (ls_s (ls_s (ls_s (ls_s (ls_s (ls_n (ls_n (ls_n ls_0)))))))))
    rw [if_neg c30] at h
    by_cases c31 : x2 = 31
    · rw [if_pos c31] at h
      rw [c31]
      refine R_tsIn (pc := 45) (off := 2388) (tgt := 2433) d_L_law_45 (by decide) (by decide) (by decide) (by decide) ?_
      exact WP_sub (B_L_law_2433 Q κ28 hκ28 v1 v2 v3 v4 v5 M h) (by omega) (ls_s (ls_s (ls_s (ls_s (ls_s (ls_s (ls_n (ls_n (ls_n ls_0)))))))))
    rw [if_neg c31] at h
    by_cases c32 : x2 = 32
    · rw [if_pos c32] at h
      rw [c32]
      refine R_tsIn (pc := 45) (off := 2432) (tgt := 2477) d_L_law_45 (by decide) (by decide) (by decide) (by decide) ?_
      exact WP_sub (B_L_law_2477 Q κ28 hκ28 v1 v2 v3 v4 v5 M h) (by omega) (ls_s (ls_s (ls_s (ls_s (ls_s (ls_s (ls_n (ls_n (ls_n ls_0)))))))))
    rw [if_neg c32] at h
    by_cases c33 : x2 = 33
    · rw [if_pos c33] at h
      rw [c33]
      refine R_tsIn (pc := 45) (off := 2445) (tgt := 2490) d_L_law_45 (by decide) (by decide) (by decide) (by decide) ?_
      exact WP_sub (B_L_law_2490 Q κ28 hκ28 v1 v2 v3 v4 v5 M h) (by omega) (ls_s (ls_s (ls_s (ls_s (ls_s (ls_s (ls_n (ls_n (ls_n ls_0)))))))))
    rw [if_neg c33] at h
    have o9 : x2.toInt < 0 ∨ 33 < x2.toInt := by
      rcases lw_34 x2 with hh | hh | hh | hh | hh | hh | hh | hh | hh | hh | hh | hh | hh | hh | hh | hh | hh | hh | hh | hh | hh | hh | hh | hh | hh | hh | hh | hh | hh | hh | hh | hh | hh | hh | hh
      · exact hh
      · exact absurd hh c0
      · exact absurd hh c1
      · exact absurd hh c2
      · exact absurd hh c3
      · exact absurd hh c4
      · exact absurd hh c5
      · exact absurd hh c6
      · exact absurd hh c7
      · exact absurd hh c8
      · exact absurd hh c9
      · exact absurd hh c10
      · exact absurd hh c11
      · exact absurd hh c12
      · exact absurd hh c13
      · exact absurd hh c14
      · exact absurd hh c15
      · exact absurd hh c16
      · exact absurd hh c17
      · exact absurd hh c18
      · exact absurd hh c19
      · exact absurd hh c20
      · exact absurd hh c21
      · exact absurd hh c22
      · exact absurd hh c23
      · exact absurd hh c24
      · exact absurd hh c25
      · exact absurd hh c26
      · exact absurd hh c27
      · exact absurd hh c28
      · exact absurd hh c29
      · exact absurd hh c30
      · exact absurd hh c31
      · exact absurd hh c32
      · exact absurd hh c33
    refine R_tsOut (pc := 45) (tgt := 2534) d_L_law_45 o9 (by decide) ?_
    exact WP_sub (B_L_law_2534 Q κ28 hκ28 v1 v2 v3 v4 v5 M h) (by omega) (ls_s (ls_s (ls_s (ls_s (ls_s (ls_s (ls_n (ls_n (ls_n ls_0)))))))))
