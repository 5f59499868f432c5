/-! ===== A STEP OF THE LAW: reads and changes ===== -/
section Lw1
variable {κ : Nat → Nat → Nat → Nat → Int32 → Mem → Prop} {Q : Int32 → Mem → Prop} {sl i : Nat} {xs : Nat → Int32} {M : Mem}
theorem ite_pr' {c : Prop} [Decidable c] {A B : Prop} (hA : c → A) (hB : ¬ c → B) : if c then A else B := by
  by_cases q : c
  · rw [if_pos q]; exact hA q
  · rw [if_neg q]; exact hB q
theorem rs0 {n : Nat} (h : n < 100) (e : I n = 0) : n = 0 := (I_eq (show n < 2147483648 by omega) (show 0 < 2147483648 by decide)).mp (e.trans I_0)
theorem v_1 (hL : sl ≤ 3072) (hx : i + 6 ≤ sl) : vp_in (I i + 1) sl := by rw [I_1, I_add, vp_I (by omega)]; omega
theorem v_2 (hL : sl ≤ 3072) (hx : i + 6 ≤ sl) : vp_in (I i + 2) sl := by rw [I_2, I_add, vp_I (by omega)]; omega
theorem v_3 (hL : sl ≤ 3072) (hx : i + 6 ≤ sl) : vp_in (I i + 3) sl := by rw [I_3, I_add, vp_I (by omega)]; omega
theorem v_4 (hL : sl ≤ 3072) (hx : i + 6 ≤ sl) : vp_in (I i + 4) sl := by rw [I_4, I_add, vp_I (by omega)]; omega
theorem v_5 (hL : sl ≤ 3072) (hx : i + 6 ≤ sl) : vp_in (I i + 5) sl := by rw [show (5 : Int32) = I 5 from rfl, I_add, vp_I (by omega)]; omega
theorem dn (K : ∀ M', LawInv M' → κ 0 1582 1592 1593 (I (i + 6)) M') (hI : LawInv M) : T_L_law_2534 κ Q sl xs 0 1582 1592 1593 (I i) M := by
  unfold T_L_law_2534
  rintro x1 rfl
  rw [show (6 : Int32) = I 6 from rfl, I_add]
  exact K M hI
theorem Lw_788 (hI : LawInv M) (hL : sl ≤ 3072) (hx : i + 6 ≤ sl) (K : ∀ M', LawInv M' → κ 0 1582 1592 1593 (I (i + 6)) M') : T_L_law_788 κ Q sl xs 0 1582 1592 1593 (I i) M := by
  obtain ⟨a, kp, h, o, hG, hC, hR⟩ := hI
  have hk8 : kp ≤ 8 := hR.2.1.1
  unfold T_L_law_788
  refine ⟨v_1 hL hx, v_2 hL hx, ?_⟩
  refine L_inmate hG hC (fun M1 c1 f1 e1 => ?_)
  refine ⟨by decide, R_inmate hG (hR.frc f1) (fun M2 c2 f2 e2 => ?_)⟩
  exact fin_ok (A := fun M9 => T_L_law_853 κ Q sl xs 0 1582 1592 1593 (I i) M9) e2 (fun z => by rw [f2.1]; exact e1 (rs0 (Nat.lt_of_lt_of_le rs_inmate_lt (by decide)) z)) (by unfold T_L_law_853; exact dn K ⟨a, kp, h, o, hG, CI.frr hG c1 f2, c2⟩)
theorem Lw_856 (hI : LawInv M) (hL : sl ≤ 3072) (hx : i + 6 ≤ sl) (K : ∀ M', LawInv M' → κ 0 1582 1592 1593 (I (i + 6)) M') : T_L_law_856 κ Q sl xs 0 1582 1592 1593 (I i) M := by
  obtain ⟨a, kp, h, o, hG, hC, hR⟩ := hI
  have hk8 : kp ≤ 8 := hR.2.1.1
  unfold T_L_law_856
  refine ⟨v_1 hL hx, v_2 hL hx, ?_⟩
  refine L_room hG hC (fun M1 c1 f1 e1 => ?_)
  refine ⟨by decide, R_room hG (hR.frc f1) (fun M2 c2 f2 e2 => ?_)⟩
  exact fin_ok (A := fun M9 => T_L_law_921 κ Q sl xs 0 1582 1592 1593 (I i) M9) e2 (fun z => by rw [f2.1]; exact e1 (rs0 (Nat.lt_of_lt_of_le rs_room_lt (by decide)) z)) (by unfold T_L_law_921; exact dn K ⟨a, kp, h, o, hG, CI.frr hG c1 f2, c2⟩)
theorem Lw_924 (hI : LawInv M) (hL : sl ≤ 3072) (hx : i + 6 ≤ sl) (K : ∀ M', LawInv M' → κ 0 1582 1592 1593 (I (i + 6)) M') : T_L_law_924 κ Q sl xs 0 1582 1592 1593 (I i) M := by
  obtain ⟨a, kp, h, o, hG, hC, hR⟩ := hI
  have hk8 : kp ≤ 8 := hR.2.1.1
  unfold T_L_law_924
  refine ⟨v_1 hL hx, v_2 hL hx, ?_⟩
  refine L_ordered hG hC (fun M1 c1 f1 e1 => ?_)
  refine ⟨by decide, R_ordered hG (hR.frc f1) (fun M2 c2 f2 e2 => ?_)⟩
  exact fin_ok (A := fun M9 => T_L_law_989 κ Q sl xs 0 1582 1592 1593 (I i) M9) e2 (fun z => by rw [f2.1]; exact e1 (rs0 (Nat.lt_of_lt_of_le rs_ordered_lt (by decide)) z)) (by unfold T_L_law_989; exact dn K ⟨a, kp, h, o, hG, CI.frr hG c1 f2, c2⟩)
theorem Lw_1140 (hI : LawInv M) (hL : sl ≤ 3072) (hx : i + 6 ≤ sl) (K : ∀ M', LawInv M' → κ 0 1582 1592 1593 (I (i + 6)) M') : T_L_law_1140 κ Q sl xs 0 1582 1592 1593 (I i) M := by
  obtain ⟨a, kp, h, o, hG, hC, hR⟩ := hI
  have hk8 : kp ≤ 8 := hR.2.1.1
  unfold T_L_law_1140
  refine ⟨v_1 hL hx, v_2 hL hx, v_3 hL hx, v_4 hL hx, ?_⟩
  refine L_refusal hG hC (fun M1 c1 f1 e1 => ?_)
  refine ⟨by decide, R_refusal hG (hR.frc f1) (fun M2 c2 f2 e2 => ?_)⟩
  exact fin_ok (A := fun M9 => T_L_law_1229 κ Q sl xs 0 1582 1592 1593 (I i) M9) e2 (fun z => by rw [f2.1]; exact e1 (rs0 (Nat.lt_of_lt_of_le rs_refusal_lt (by decide)) z)) (by unfold T_L_law_1229; exact dn K ⟨a, kp, h, o, hG, CI.frr hG c1 f2, c2⟩)
theorem Lw_1232 (hI : LawInv M) (hL : sl ≤ 3072) (hx : i + 6 ≤ sl) (K : ∀ M', LawInv M' → κ 0 1582 1592 1593 (I (i + 6)) M') : T_L_law_1232 κ Q sl xs 0 1582 1592 1593 (I i) M := by
  obtain ⟨a, kp, h, o, hG, hC, hR⟩ := hI
  have hk8 : kp ≤ 8 := hR.2.1.1
  unfold T_L_law_1232
  refine ⟨v_1 hL hx, v_2 hL hx, ?_⟩
  refine L_firstFree hG hC (fun M1 c1 f1 e1 => ?_)
  refine ⟨by decide, R_firstFree hG (hR.frc f1) (fun M2 c2 f2 e2 => ?_)⟩
  exact fin_ok (A := fun M9 => T_L_law_1297 κ Q sl xs 0 1582 1592 1593 (I i) M9) e2 (fun z => by rw [f2.1]; exact e1 (rs0 (Nat.lt_of_lt_of_le rs_ff_lt (by decide)) z)) (by unfold T_L_law_1297; exact dn K ⟨a, kp, h, o, hG, CI.frr hG c1 f2, c2⟩)
theorem Lw_1300 (hI : LawInv M) (hL : sl ≤ 3072) (hx : i + 6 ≤ sl) (K : ∀ M', LawInv M' → κ 0 1582 1592 1593 (I (i + 6)) M') : T_L_law_1300 κ Q sl xs 0 1582 1592 1593 (I i) M := by
  obtain ⟨a, kp, h, o, hG, hC, hR⟩ := hI
  have hk8 : kp ≤ 8 := hR.2.1.1
  unfold T_L_law_1300
  refine ⟨v_1 hL hx, v_2 hL hx, ?_⟩
  refine L_visit hG hC (fun M1 c1 f1 e1 => ?_)
  refine ⟨by decide, R_visit hG (hR.frc f1) (fun M2 c2 f2 e2 => ?_)⟩
  exact fin_ok (A := fun M9 => T_L_law_1365 κ Q sl xs 0 1582 1592 1593 (I i) M9) e2 (fun z => by rw [f2.1]; exact e1 (rs0 (Nat.lt_of_lt_of_le rs_visit_lt (by decide)) z)) (by unfold T_L_law_1365; exact dn K ⟨a, kp, h, o, hG, CI.frr hG c1 f2, c2⟩)
theorem Lw_1368 (hI : LawInv M) (hL : sl ≤ 3072) (hx : i + 6 ≤ sl) (K : ∀ M', LawInv M' → κ 0 1582 1592 1593 (I (i + 6)) M') : T_L_law_1368 κ Q sl xs 0 1582 1592 1593 (I i) M := by
  obtain ⟨a, kp, h, o, hG, hC, hR⟩ := hI
  have hk8 : kp ≤ 8 := hR.2.1.1
  unfold T_L_law_1368
  refine ⟨v_1 hL hx, ?_⟩
  refine L_next hG hC (fun M1 c1 f1 e1 => ?_)
  refine ⟨by decide, R_next hG (hR.frc f1) (fun M2 c2 f2 e2 => ?_)⟩
  exact fin_ok (A := fun M9 => T_L_law_1421 κ Q sl xs 0 1582 1592 1593 (I i) M9) e2 (fun z => by rw [f2.1]; exact e1 (rs0 (Nat.lt_of_lt_of_le rs_next_lt (by decide)) z)) (by unfold T_L_law_1421; exact dn K ⟨a, kp, h, o, hG, CI.frr hG c1 f2, c2⟩)
theorem Lw_1736 (hI : LawInv M) (hL : sl ≤ 3072) (hx : i + 6 ≤ sl) (K : ∀ M', LawInv M' → κ 0 1582 1592 1593 (I (i + 6)) M') : T_L_law_1736 κ Q sl xs 0 1582 1592 1593 (I i) M := by
  obtain ⟨a, kp, h, o, hG, hC, hR⟩ := hI
  have hk8 : kp ≤ 8 := hR.2.1.1
  unfold T_L_law_1736
  refine ⟨v_1 hL hx, v_2 hL hx, ?_⟩
  refine L_banned hG hC (fun M1 c1 f1 e1 => ?_)
  refine ⟨by decide, R_banned hG (hR.frc f1) (fun M2 c2 f2 e2 => ?_)⟩
  exact fin_ok (A := fun M9 => T_L_law_1801 κ Q sl xs 0 1582 1592 1593 (I i) M9) e2 (fun z => by rw [f2.1]; exact e1 (rs0 (Nat.lt_of_lt_of_le rs_banned_lt (by decide)) z)) (by unfold T_L_law_1801; exact dn K ⟨a, kp, h, o, hG, CI.frr hG c1 f2, c2⟩)
theorem Lw_1896 (hI : LawInv M) (hL : sl ≤ 3072) (hx : i + 6 ≤ sl) (K : ∀ M', LawInv M' → κ 0 1582 1592 1593 (I (i + 6)) M') : T_L_law_1896 κ Q sl xs 0 1582 1592 1593 (I i) M := by
  obtain ⟨a, kp, h, o, hG, hC, hR⟩ := hI
  have hk8 : kp ≤ 8 := hR.2.1.1
  unfold T_L_law_1896
  refine ⟨v_1 hL hx, v_2 hL hx, ?_⟩
  refine L_wished hG hC (fun M1 c1 f1 e1 => ?_)
  refine ⟨by decide, R_wished hG (hR.frc f1) (fun M2 c2 f2 e2 => ?_)⟩
  exact fin_ok (A := fun M9 => T_L_law_1961 κ Q sl xs 0 1582 1592 1593 (I i) M9) e2 (fun z => by rw [f2.1]; exact e1 (rs0 (Nat.lt_of_lt_of_le rs_wished_lt (by decide)) z)) (by unfold T_L_law_1961; exact dn K ⟨a, kp, h, o, hG, CI.frr hG c1 f2, c2⟩)
theorem Lw_2132 (hI : LawInv M) (hL : sl ≤ 3072) (hx : i + 6 ≤ sl) (K : ∀ M', LawInv M' → κ 0 1582 1592 1593 (I (i + 6)) M') : T_L_law_2132 κ Q sl xs 0 1582 1592 1593 (I i) M := by
  obtain ⟨a, kp, h, o, hG, hC, hR⟩ := hI
  have hk8 : kp ≤ 8 := hR.2.1.1
  unfold T_L_law_2132
  refine ⟨v_1 hL hx, ?_⟩
  refine L_account hG hC (fun M1 c1 f1 e1 => ?_)
  refine ⟨by decide, R_account hG (hR.frc f1) (fun M2 c2 f2 e2 => ?_)⟩
  exact fin_ok (A := fun M9 => T_L_law_2185 κ Q sl xs 0 1582 1592 1593 (I i) M9) e2 (fun z => by rw [f2.1]; exact e1 (rs0 (Nat.lt_of_lt_of_le rs_account_lt (by decide)) z)) (by unfold T_L_law_2185; exact dn K ⟨a, kp, h, o, hG, CI.frr hG c1 f2, c2⟩)
theorem Lw_196 (hI : LawInv M) (hL : sl ≤ 3072) (hx : i + 6 ≤ sl) (K : ∀ M', LawInv M' → κ 0 1582 1592 1593 (I (i + 6)) M') : T_L_law_196 κ Q sl xs 0 1582 1592 1593 (I i) M := by
  obtain ⟨a, kp, h, o, hG, hC, hR⟩ := hI
  have hk8 : kp ≤ 8 := hR.2.1.1
  unfold T_L_law_196
  refine ⟨v_1 hL hx, v_2 hL hx, ?_⟩
  refine L_addInmate hG hC (fun z M1 c1 f1 e1 => ?_) (fun z M1 c1 f1 => ?_)
  · refine ⟨by decide, R_addInmate hG (hR.frc f1) (fun z2 M2 c2 f2 e2 => ?_) (fun z2 => absurd z z2)⟩
    have hG2 := hG.push hk8 (rc_inm_GS hG.1 z)
    exact fin_ok (A := fun M9 => T_L_law_261 κ Q sl xs 0 1582 1592 1593 (I i) M9) (y := I 0) e2 (fun _ => by rw [f2.1]; exact e1) (by unfold T_L_law_261; exact dn K ⟨_, _, _, o, hG2, CI.frr hG2 c1 f2, c2⟩)
  · refine ⟨by decide, R_addInmate hG (hR.frc f1) (fun z2 => absurd z2 z) (fun z2 M2 c2 f2 e2 => ?_)⟩
    exact fin_ok (A := fun M9 => T_L_law_261 κ Q sl xs 0 1582 1592 1593 (I i) M9) e2 (fun z3 => absurd (rs0 (Nat.lt_of_lt_of_le rc_inm_lt (by decide)) z3) z) (by unfold T_L_law_261; exact dn K ⟨a, kp, h, o, hG, CI.frr hG c1 f2, c2⟩)
theorem Lw_264 (hI : LawInv M) (hL : sl ≤ 3072) (hx : i + 6 ≤ sl) (K : ∀ M', LawInv M' → κ 0 1582 1592 1593 (I (i + 6)) M') : T_L_law_264 κ Q sl xs 0 1582 1592 1593 (I i) M := by
  obtain ⟨a, kp, h, o, hG, hC, hR⟩ := hI
  have hk8 : kp ≤ 8 := hR.2.1.1
  unfold T_L_law_264
  refine ⟨v_1 hL hx, ?_⟩
  refine L_addVisitor hG hC (fun z M1 c1 f1 e1 => ?_) (fun z M1 c1 f1 => ?_)
  · refine ⟨by decide, R_addVisitor hG (hR.frc f1) (fun z2 M2 c2 f2 e2 => ?_) (fun z2 => absurd z z2)⟩
    have hG2 := hG.push hk8 (rc_vis_GS hG.1 z)
    exact fin_ok (A := fun M9 => T_L_law_317 κ Q sl xs 0 1582 1592 1593 (I i) M9) (y := I 0) e2 (fun _ => by rw [f2.1]; exact e1) (by unfold T_L_law_317; exact dn K ⟨_, _, _, o, hG2, CI.frr hG2 c1 f2, c2⟩)
  · refine ⟨by decide, R_addVisitor hG (hR.frc f1) (fun z2 => absurd z2 z) (fun z2 M2 c2 f2 e2 => ?_)⟩
    exact fin_ok (A := fun M9 => T_L_law_317 κ Q sl xs 0 1582 1592 1593 (I i) M9) e2 (fun z3 => absurd (rs0 (Nat.lt_of_lt_of_le rc_vis_lt (by decide)) z3) z) (by unfold T_L_law_317; exact dn K ⟨a, kp, h, o, hG, CI.frr hG c1 f2, c2⟩)
theorem Lw_500 (hI : LawInv M) (hL : sl ≤ 3072) (hx : i + 6 ≤ sl) (K : ∀ M', LawInv M' → κ 0 1582 1592 1593 (I (i + 6)) M') : T_L_law_500 κ Q sl xs 0 1582 1592 1593 (I i) M := by
  obtain ⟨a, kp, h, o, hG, hC, hR⟩ := hI
  have hk8 : kp ≤ 8 := hR.2.1.1
  unfold T_L_law_500
  refine ⟨v_1 hL hx, v_2 hL hx, ?_⟩
  refine L_setLevel hG hC (fun z M1 c1 f1 e1 => ?_) (fun z M1 c1 f1 => ?_)
  · refine ⟨by decide, R_setLevel hG (hR.frc f1) (fun z2 M2 c2 f2 e2 => ?_) (fun z2 => absurd z z2)⟩
    have hG2 := hG.push hk8 (rc_lvl_GS hG.1 z)
    exact fin_ok (A := fun M9 => T_L_law_565 κ Q sl xs 0 1582 1592 1593 (I i) M9) (y := I 0) e2 (fun _ => by rw [f2.1]; exact e1) (by unfold T_L_law_565; exact dn K ⟨_, _, _, o, hG2, CI.frr hG2 c1 f2, c2⟩)
  · refine ⟨by decide, R_setLevel hG (hR.frc f1) (fun z2 => absurd z2 z) (fun z2 M2 c2 f2 e2 => ?_)⟩
    exact fin_ok (A := fun M9 => T_L_law_565 κ Q sl xs 0 1582 1592 1593 (I i) M9) e2 (fun z3 => absurd (rs0 (Nat.lt_of_lt_of_le rc_lvl_lt (by decide)) z3) z) (by unfold T_L_law_565; exact dn K ⟨a, kp, h, o, hG, CI.frr hG c1 f2, c2⟩)
theorem Lw_568 (hI : LawInv M) (hL : sl ≤ 3072) (hx : i + 6 ≤ sl) (K : ∀ M', LawInv M' → κ 0 1582 1592 1593 (I (i + 6)) M') : T_L_law_568 κ Q sl xs 0 1582 1592 1593 (I i) M := by
  obtain ⟨a, kp, h, o, hG, hC, hR⟩ := hI
  have hk8 : kp ≤ 8 := hR.2.1.1
  unfold T_L_law_568
  refine ⟨v_1 hL hx, v_2 hL hx, ?_⟩
  refine L_move hG hC (fun z M1 c1 f1 e1 => ?_) (fun z M1 c1 f1 => ?_)
  · refine ⟨by decide, R_move hG (hR.frc f1) (fun z2 M2 c2 f2 e2 => ?_) (fun z2 => absurd z z2)⟩
    have hG2 := hG.push hk8 (rc_move_GS hG.1 z)
    exact fin_ok (A := fun M9 => T_L_law_633 κ Q sl xs 0 1582 1592 1593 (I i) M9) (y := I 0) e2 (fun _ => by rw [f2.1]; exact e1) (by unfold T_L_law_633; exact dn K ⟨_, _, _, o, hG2, CI.frr hG2 c1 f2, c2⟩)
  · refine ⟨by decide, R_move hG (hR.frc f1) (fun z2 => absurd z2 z) (fun z2 M2 c2 f2 e2 => ?_)⟩
    exact fin_ok (A := fun M9 => T_L_law_633 κ Q sl xs 0 1582 1592 1593 (I i) M9) e2 (fun z3 => absurd (rs0 (Nat.lt_of_lt_of_le rc_move_lt (by decide)) z3) z) (by unfold T_L_law_633; exact dn K ⟨a, kp, h, o, hG, CI.frr hG c1 f2, c2⟩)
theorem Lw_720 (hI : LawInv M) (hL : sl ≤ 3072) (hx : i + 6 ≤ sl) (K : ∀ M', LawInv M' → κ 0 1582 1592 1593 (I (i + 6)) M') : T_L_law_720 κ Q sl xs 0 1582 1592 1593 (I i) M := by
  obtain ⟨a, kp, h, o, hG, hC, hR⟩ := hI
  have hk8 : kp ≤ 8 := hR.2.1.1
  unfold T_L_law_720
  refine ⟨v_1 hL hx, v_2 hL hx, ?_⟩
  refine L_set hG hC (fun z M1 c1 f1 e1 => ?_) (fun z M1 c1 f1 => ?_)
  · refine ⟨by decide, R_set hG (hR.frc f1) (fun z2 M2 c2 f2 e2 => ?_) (fun z2 => absurd z z2)⟩
    have hG2 := hG.push hk8 (rc_set_GS hG.1 z)
    exact fin_ok (A := fun M9 => T_L_law_785 κ Q sl xs 0 1582 1592 1593 (I i) M9) (y := I 0) e2 (fun _ => by rw [f2.1]; exact e1) (by unfold T_L_law_785; exact dn K ⟨_, _, _, o, hG2, CI.frr hG2 c1 f2, c2⟩)
  · refine ⟨by decide, R_set hG (hR.frc f1) (fun z2 => absurd z2 z) (fun z2 M2 c2 f2 e2 => ?_)⟩
    exact fin_ok (A := fun M9 => T_L_law_785 κ Q sl xs 0 1582 1592 1593 (I i) M9) e2 (fun z3 => absurd (rs0 (Nat.lt_of_lt_of_le rc_set_lt (by decide)) z3) z) (by unfold T_L_law_785; exact dn K ⟨a, kp, h, o, hG, CI.frr hG c1 f2, c2⟩)
theorem Lw_1084 (hI : LawInv M) (hL : sl ≤ 3072) (hx : i + 6 ≤ sl) (K : ∀ M', LawInv M' → κ 0 1582 1592 1593 (I (i + 6)) M') : T_L_law_1084 κ Q sl xs 0 1582 1592 1593 (I i) M := by
  obtain ⟨a, kp, h, o, hG, hC, hR⟩ := hI
  have hk8 : kp ≤ 8 := hR.2.1.1
  unfold T_L_law_1084
  refine ⟨v_1 hL hx, ?_⟩
  refine L_cancel hG hC (fun z M1 c1 f1 e1 => ?_) (fun z M1 c1 f1 => ?_)
  · refine ⟨by decide, R_cancel hG (hR.frc f1) (fun z2 M2 c2 f2 e2 => ?_) (fun z2 => absurd z z2)⟩
    have hG2 := hG.push hk8 (rc_cancel_GS hG.1 z)
    exact fin_ok (A := fun M9 => T_L_law_1137 κ Q sl xs 0 1582 1592 1593 (I i) M9) (y := I 0) e2 (fun _ => by rw [f2.1]; exact e1) (by unfold T_L_law_1137; exact dn K ⟨_, _, _, o, hG2, CI.frr hG2 c1 f2, c2⟩)
  · refine ⟨by decide, R_cancel hG (hR.frc f1) (fun z2 => absurd z2 z) (fun z2 M2 c2 f2 e2 => ?_)⟩
    exact fin_ok (A := fun M9 => T_L_law_1137 κ Q sl xs 0 1582 1592 1593 (I i) M9) e2 (fun z3 => absurd (rs0 (Nat.lt_of_lt_of_le rc_cancel_lt (by decide)) z3) z) (by unfold T_L_law_1137; exact dn K ⟨a, kp, h, o, hG, CI.frr hG c1 f2, c2⟩)
theorem Lw_1520 (hI : LawInv M) (hL : sl ≤ 3072) (hx : i + 6 ≤ sl) (K : ∀ M', LawInv M' → κ 0 1582 1592 1593 (I (i + 6)) M') : T_L_law_1520 κ Q sl xs 0 1582 1592 1593 (I i) M := by
  obtain ⟨a, kp, h, o, hG, hC, hR⟩ := hI
  have hk8 : kp ≤ 8 := hR.2.1.1
  unfold T_L_law_1520
  refine ⟨v_1 hL hx, ?_⟩
  refine L_pass hG hC (fun z M1 c1 f1 e1 => ?_) (fun z M1 c1 f1 => ?_)
  · refine ⟨by decide, R_pass hG (hR.frc f1) (fun z2 M2 c2 f2 e2 => ?_) (fun z2 => absurd z z2)⟩
    have hG2 := hG.push hk8 (rc_pass_GS hG.1 z)
    exact fin_ok (A := fun M9 => T_L_law_1573 κ Q sl xs 0 1582 1592 1593 (I i) M9) (y := I 0) e2 (fun _ => by rw [f2.1]; exact e1) (by unfold T_L_law_1573; exact dn K ⟨_, _, _, o, hG2, CI.frr hG2 c1 f2, c2⟩)
  · refine ⟨by decide, R_pass hG (hR.frc f1) (fun z2 => absurd z2 z) (fun z2 M2 c2 f2 e2 => ?_)⟩
    exact fin_ok (A := fun M9 => T_L_law_1573 κ Q sl xs 0 1582 1592 1593 (I i) M9) e2 (fun z3 => absurd (rs0 (Nat.lt_of_lt_of_le rc_pass_lt (by decide)) z3) z) (by unfold T_L_law_1573; exact dn K ⟨a, kp, h, o, hG, CI.frr hG c1 f2, c2⟩)
theorem Lw_1576 (hI : LawInv M) (hL : sl ≤ 3072) (hx : i + 6 ≤ sl) (K : ∀ M', LawInv M' → κ 0 1582 1592 1593 (I (i + 6)) M') : T_L_law_1576 κ Q sl xs 0 1582 1592 1593 (I i) M := by
  obtain ⟨a, kp, h, o, hG, hC, hR⟩ := hI
  have hk8 : kp ≤ 8 := hR.2.1.1
  unfold T_L_law_1576
  refine ⟨v_1 hL hx, v_2 hL hx, v_3 hL hx, v_4 hL hx, v_5 hL hx, ?_⟩
  refine L_ban hG hC (fun z M1 c1 f1 e1 => ?_) (fun z M1 c1 f1 => ?_)
  · refine ⟨by decide, R_ban hG (hR.frc f1) (fun z2 M2 c2 f2 e2 => ?_) (fun z2 => absurd z z2)⟩
    have hG2 := hG.push hk8 (rc_ban_GS hG.1 z)
    exact fin_ok (A := fun M9 => T_L_law_1677 κ Q sl xs 0 1582 1592 1593 (I i) M9) (y := I 0) e2 (fun _ => by rw [f2.1]; exact e1) (by unfold T_L_law_1677; exact dn K ⟨_, _, _, o, hG2, CI.frr hG2 c1 f2, c2⟩)
  · refine ⟨by decide, R_ban hG (hR.frc f1) (fun z2 => absurd z2 z) (fun z2 M2 c2 f2 e2 => ?_)⟩
    exact fin_ok (A := fun M9 => T_L_law_1677 κ Q sl xs 0 1582 1592 1593 (I i) M9) e2 (fun z3 => absurd (rs0 (Nat.lt_of_lt_of_le rc_ban_lt (by decide)) z3) z) (by unfold T_L_law_1677; exact dn K ⟨a, kp, h, o, hG, CI.frr hG c1 f2, c2⟩)
theorem Lw_1680 (hI : LawInv M) (hL : sl ≤ 3072) (hx : i + 6 ≤ sl) (K : ∀ M', LawInv M' → κ 0 1582 1592 1593 (I (i + 6)) M') : T_L_law_1680 κ Q sl xs 0 1582 1592 1593 (I i) M := by
  obtain ⟨a, kp, h, o, hG, hC, hR⟩ := hI
  have hk8 : kp ≤ 8 := hR.2.1.1
  unfold T_L_law_1680
  refine ⟨v_1 hL hx, ?_⟩
  refine L_lift hG hC (fun z M1 c1 f1 e1 => ?_) (fun z M1 c1 f1 => ?_)
  · refine ⟨by decide, R_lift hG (hR.frc f1) (fun z2 M2 c2 f2 e2 => ?_) (fun z2 => absurd z z2)⟩
    have hG2 := hG.push hk8 (rc_lift_GS hG.1 z)
    exact fin_ok (A := fun M9 => T_L_law_1733 κ Q sl xs 0 1582 1592 1593 (I i) M9) (y := I 0) e2 (fun _ => by rw [f2.1]; exact e1) (by unfold T_L_law_1733; exact dn K ⟨_, _, _, o, hG2, CI.frr hG2 c1 f2, c2⟩)
  · refine ⟨by decide, R_lift hG (hR.frc f1) (fun z2 => absurd z2 z) (fun z2 M2 c2 f2 e2 => ?_)⟩
    exact fin_ok (A := fun M9 => T_L_law_1733 κ Q sl xs 0 1582 1592 1593 (I i) M9) e2 (fun z3 => absurd (rs0 (Nat.lt_of_lt_of_le rc_lift_lt (by decide)) z3) z) (by unfold T_L_law_1733; exact dn K ⟨a, kp, h, o, hG, CI.frr hG c1 f2, c2⟩)
theorem Lw_1804 (hI : LawInv M) (hL : sl ≤ 3072) (hx : i + 6 ≤ sl) (K : ∀ M', LawInv M' → κ 0 1582 1592 1593 (I (i + 6)) M') : T_L_law_1804 κ Q sl xs 0 1582 1592 1593 (I i) M := by
  obtain ⟨a, kp, h, o, hG, hC, hR⟩ := hI
  have hk8 : kp ≤ 8 := hR.2.1.1
  unfold T_L_law_1804
  refine ⟨v_1 hL hx, v_2 hL hx, v_3 hL hx, v_4 hL hx, ?_⟩
  refine L_wish hG hC (fun z M1 c1 f1 e1 => ?_) (fun z M1 c1 f1 => ?_)
  · refine ⟨by decide, R_wish hG (hR.frc f1) (fun z2 M2 c2 f2 e2 => ?_) (fun z2 => absurd z z2)⟩
    have hG2 := hG.push hk8 (rc_wish_GS hG.1 z)
    exact fin_ok (A := fun M9 => T_L_law_1893 κ Q sl xs 0 1582 1592 1593 (I i) M9) (y := I 0) e2 (fun _ => by rw [f2.1]; exact e1) (by unfold T_L_law_1893; exact dn K ⟨_, _, _, o, hG2, CI.frr hG2 c1 f2, c2⟩)
  · refine ⟨by decide, R_wish hG (hR.frc f1) (fun z2 => absurd z2 z) (fun z2 M2 c2 f2 e2 => ?_)⟩
    exact fin_ok (A := fun M9 => T_L_law_1893 κ Q sl xs 0 1582 1592 1593 (I i) M9) e2 (fun z3 => absurd (rs0 (Nat.lt_of_lt_of_le rc_wish_lt (by decide)) z3) z) (by unfold T_L_law_1893; exact dn K ⟨a, kp, h, o, hG, CI.frr hG c1 f2, c2⟩)
end Lw1

