/-! ===== A STEP OF THE LAW: with a truth value ===== -/
section Lw2
variable {κ : Nat → Nat → Nat → Nat → Int32 → Mem → Prop} {Q : Int32 → Mem → Prop} {sl i : Nat} {xs : Nat → Int32} {M : Mem}
theorem Lw_320 (hI : LawInv M) (hL : sl ≤ 3072) (hx : i + 6 ≤ sl) (K : ∀ M', LawInv M' → κ 0 1582 1592 1593 (I (i + 6)) M') : T_L_law_320 κ Q sl xs 0 1582 1592 1593 (I i) M := by
  obtain ⟨a, kp, h, o, hG, hC, hR⟩ := hI
  have hk8 : kp ≤ 8 := hR.2.1.1
  unfold T_L_law_320
  refine ⟨v_1 hL hx, v_2 hL hx, v_3 hL hx, ?_⟩
  refine ite_pr' (fun c => ?_) (fun c => ?_)
  · unfold T_L_law_347
    refine L_addRoom (b := 0) hG hC (show 0 < 2 by decide) (fun z M1 c1 f1 e1 => ?_) (fun z M1 c1 f1 => ?_)
    · refine ⟨v_1 hL hx, v_2 hL hx, v_3 hL hx, ?_⟩
      refine ite_pr' (fun _ => ?_) (fun c2 => absurd c c2)
      unfold T_L_law_380
      refine ⟨by decide, R_addRoom (b := 0) hG (hR.frc f1) (show 0 < 2 by decide) (fun z2 M2 c2 f2 e2 => ?_) (fun z2 => absurd z z2)⟩
      have hG2 := hG.push hk8 (rc_rom_GS hG.1 (show 0 < 2 by decide) z)
      exact ⟨by decide, fin_ok (A := fun M9 => T_L_law_413 κ Q sl xs 0 1582 1592 1593 (I i) M9) (y := I 0) e2 (fun _ => by rw [f2.1]; exact e1) (by unfold T_L_law_413; exact dn K ⟨_, _, _, o, hG2, CI.frr hG2 c1 f2, c2⟩)⟩
    · refine ⟨v_1 hL hx, v_2 hL hx, v_3 hL hx, ?_⟩
      refine ite_pr' (fun _ => ?_) (fun c2 => absurd c c2)
      unfold T_L_law_380
      refine ⟨by decide, R_addRoom (b := 0) hG (hR.frc f1) (show 0 < 2 by decide) (fun z2 => absurd z2 z) (fun z2 M2 c2 f2 e2 => ?_)⟩
      exact ⟨by decide, fin_ok (A := fun M9 => T_L_law_413 κ Q sl xs 0 1582 1592 1593 (I i) M9) e2 (fun z3 => absurd (rs0 (Nat.lt_of_lt_of_le rc_rom_lt (by decide)) z3) z) (by unfold T_L_law_413; exact dn K ⟨a, kp, h, o, hG, CI.frr hG c1 f2, c2⟩)⟩
  · unfold T_L_law_347
    refine L_addRoom (b := 1) hG hC (show 1 < 2 by decide) (fun z M1 c1 f1 e1 => ?_) (fun z M1 c1 f1 => ?_)
    · refine ⟨v_1 hL hx, v_2 hL hx, v_3 hL hx, ?_⟩
      refine ite_pr' (fun c2 => absurd c2 c) (fun _ => ?_)
      unfold T_L_law_380
      refine ⟨by decide, R_addRoom (b := 1) hG (hR.frc f1) (show 1 < 2 by decide) (fun z2 M2 c2 f2 e2 => ?_) (fun z2 => absurd z z2)⟩
      have hG2 := hG.push hk8 (rc_rom_GS hG.1 (show 1 < 2 by decide) z)
      exact ⟨by decide, fin_ok (A := fun M9 => T_L_law_413 κ Q sl xs 0 1582 1592 1593 (I i) M9) (y := I 0) e2 (fun _ => by rw [f2.1]; exact e1) (by unfold T_L_law_413; exact dn K ⟨_, _, _, o, hG2, CI.frr hG2 c1 f2, c2⟩)⟩
    · refine ⟨v_1 hL hx, v_2 hL hx, v_3 hL hx, ?_⟩
      refine ite_pr' (fun c2 => absurd c2 c) (fun _ => ?_)
      unfold T_L_law_380
      refine ⟨by decide, R_addRoom (b := 1) hG (hR.frc f1) (show 1 < 2 by decide) (fun z2 => absurd z2 z) (fun z2 M2 c2 f2 e2 => ?_)⟩
      exact ⟨by decide, fin_ok (A := fun M9 => T_L_law_413 κ Q sl xs 0 1582 1592 1593 (I i) M9) e2 (fun z3 => absurd (rs0 (Nat.lt_of_lt_of_le rc_rom_lt (by decide)) z3) z) (by unfold T_L_law_413; exact dn K ⟨a, kp, h, o, hG, CI.frr hG c1 f2, c2⟩)⟩
theorem Lw_416 (hI : LawInv M) (hL : sl ≤ 3072) (hx : i + 6 ≤ sl) (K : ∀ M', LawInv M' → κ 0 1582 1592 1593 (I (i + 6)) M') : T_L_law_416 κ Q sl xs 0 1582 1592 1593 (I i) M := by
  obtain ⟨a, kp, h, o, hG, hC, hR⟩ := hI
  have hk8 : kp ≤ 8 := hR.2.1.1
  unfold T_L_law_416
  refine ⟨v_1 hL hx, v_2 hL hx, ?_⟩
  refine ite_pr' (fun c => ?_) (fun c => ?_)
  · unfold T_L_law_437
    refine L_setOpen (b := 0) hG hC (show 0 < 2 by decide) (fun z M1 c1 f1 e1 => ?_) (fun z M1 c1 f1 => ?_)
    · refine ⟨v_1 hL hx, v_2 hL hx, ?_⟩
      refine ite_pr' (fun _ => ?_) (fun c2 => absurd c c2)
      unfold T_L_law_464
      refine ⟨by decide, R_setOpen (b := 0) hG (hR.frc f1) (show 0 < 2 by decide) (fun z2 M2 c2 f2 e2 => ?_) (fun z2 => absurd z z2)⟩
      have hG2 := hG.push hk8 (rc_open_GS hG.1 (show 0 < 2 by decide) z)
      exact ⟨by decide, fin_ok (A := fun M9 => T_L_law_497 κ Q sl xs 0 1582 1592 1593 (I i) M9) (y := I 0) e2 (fun _ => by rw [f2.1]; exact e1) (by unfold T_L_law_497; exact dn K ⟨_, _, _, o, hG2, CI.frr hG2 c1 f2, c2⟩)⟩
    · refine ⟨v_1 hL hx, v_2 hL hx, ?_⟩
      refine ite_pr' (fun _ => ?_) (fun c2 => absurd c c2)
      unfold T_L_law_464
      refine ⟨by decide, R_setOpen (b := 0) hG (hR.frc f1) (show 0 < 2 by decide) (fun z2 => absurd z2 z) (fun z2 M2 c2 f2 e2 => ?_)⟩
      exact ⟨by decide, fin_ok (A := fun M9 => T_L_law_497 κ Q sl xs 0 1582 1592 1593 (I i) M9) e2 (fun z3 => absurd (rs0 (Nat.lt_of_lt_of_le rc_open_lt (by decide)) z3) z) (by unfold T_L_law_497; exact dn K ⟨a, kp, h, o, hG, CI.frr hG c1 f2, c2⟩)⟩
  · unfold T_L_law_437
    refine L_setOpen (b := 1) hG hC (show 1 < 2 by decide) (fun z M1 c1 f1 e1 => ?_) (fun z M1 c1 f1 => ?_)
    · refine ⟨v_1 hL hx, v_2 hL hx, ?_⟩
      refine ite_pr' (fun c2 => absurd c2 c) (fun _ => ?_)
      unfold T_L_law_464
      refine ⟨by decide, R_setOpen (b := 1) hG (hR.frc f1) (show 1 < 2 by decide) (fun z2 M2 c2 f2 e2 => ?_) (fun z2 => absurd z z2)⟩
      have hG2 := hG.push hk8 (rc_open_GS hG.1 (show 1 < 2 by decide) z)
      exact ⟨by decide, fin_ok (A := fun M9 => T_L_law_497 κ Q sl xs 0 1582 1592 1593 (I i) M9) (y := I 0) e2 (fun _ => by rw [f2.1]; exact e1) (by unfold T_L_law_497; exact dn K ⟨_, _, _, o, hG2, CI.frr hG2 c1 f2, c2⟩)⟩
    · refine ⟨v_1 hL hx, v_2 hL hx, ?_⟩
      refine ite_pr' (fun c2 => absurd c2 c) (fun _ => ?_)
      unfold T_L_law_464
      refine ⟨by decide, R_setOpen (b := 1) hG (hR.frc f1) (show 1 < 2 by decide) (fun z2 => absurd z2 z) (fun z2 M2 c2 f2 e2 => ?_)⟩
      exact ⟨by decide, fin_ok (A := fun M9 => T_L_law_497 κ Q sl xs 0 1582 1592 1593 (I i) M9) e2 (fun z3 => absurd (rs0 (Nat.lt_of_lt_of_le rc_open_lt (by decide)) z3) z) (by unfold T_L_law_497; exact dn K ⟨a, kp, h, o, hG, CI.frr hG c1 f2, c2⟩)⟩
theorem Lw_636 (hI : LawInv M) (hL : sl ≤ 3072) (hx : i + 6 ≤ sl) (K : ∀ M', LawInv M' → κ 0 1582 1592 1593 (I (i + 6)) M') : T_L_law_636 κ Q sl xs 0 1582 1592 1593 (I i) M := by
  obtain ⟨a, kp, h, o, hG, hC, hR⟩ := hI
  have hk8 : kp ≤ 8 := hR.2.1.1
  unfold T_L_law_636
  refine ⟨v_1 hL hx, v_2 hL hx, ?_⟩
  refine ite_pr' (fun c => ?_) (fun c => ?_)
  · unfold T_L_law_657
    refine L_confine (b := 0) hG hC (show 0 < 2 by decide) (fun z M1 c1 f1 e1 => ?_) (fun z M1 c1 f1 => ?_)
    · refine ⟨v_1 hL hx, v_2 hL hx, ?_⟩
      refine ite_pr' (fun _ => ?_) (fun c2 => absurd c c2)
      unfold T_L_law_684
      refine ⟨by decide, R_confine (b := 0) hG (hR.frc f1) (show 0 < 2 by decide) (fun z2 M2 c2 f2 e2 => ?_) (fun z2 => absurd z z2)⟩
      have hG2 := hG.push hk8 (rc_conf_GS hG.1 (show 0 < 2 by decide) z)
      exact ⟨by decide, fin_ok (A := fun M9 => T_L_law_717 κ Q sl xs 0 1582 1592 1593 (I i) M9) (y := I 0) e2 (fun _ => by rw [f2.1]; exact e1) (by unfold T_L_law_717; exact dn K ⟨_, _, _, o, hG2, CI.frr hG2 c1 f2, c2⟩)⟩
    · refine ⟨v_1 hL hx, v_2 hL hx, ?_⟩
      refine ite_pr' (fun _ => ?_) (fun c2 => absurd c c2)
      unfold T_L_law_684
      refine ⟨by decide, R_confine (b := 0) hG (hR.frc f1) (show 0 < 2 by decide) (fun z2 => absurd z2 z) (fun z2 M2 c2 f2 e2 => ?_)⟩
      exact ⟨by decide, fin_ok (A := fun M9 => T_L_law_717 κ Q sl xs 0 1582 1592 1593 (I i) M9) e2 (fun z3 => absurd (rs0 (Nat.lt_of_lt_of_le rc_conf_lt (by decide)) z3) z) (by unfold T_L_law_717; exact dn K ⟨a, kp, h, o, hG, CI.frr hG c1 f2, c2⟩)⟩
  · unfold T_L_law_657
    refine L_confine (b := 1) hG hC (show 1 < 2 by decide) (fun z M1 c1 f1 e1 => ?_) (fun z M1 c1 f1 => ?_)
    · refine ⟨v_1 hL hx, v_2 hL hx, ?_⟩
      refine ite_pr' (fun c2 => absurd c2 c) (fun _ => ?_)
      unfold T_L_law_684
      refine ⟨by decide, R_confine (b := 1) hG (hR.frc f1) (show 1 < 2 by decide) (fun z2 M2 c2 f2 e2 => ?_) (fun z2 => absurd z z2)⟩
      have hG2 := hG.push hk8 (rc_conf_GS hG.1 (show 1 < 2 by decide) z)
      exact ⟨by decide, fin_ok (A := fun M9 => T_L_law_717 κ Q sl xs 0 1582 1592 1593 (I i) M9) (y := I 0) e2 (fun _ => by rw [f2.1]; exact e1) (by unfold T_L_law_717; exact dn K ⟨_, _, _, o, hG2, CI.frr hG2 c1 f2, c2⟩)⟩
    · refine ⟨v_1 hL hx, v_2 hL hx, ?_⟩
      refine ite_pr' (fun c2 => absurd c2 c) (fun _ => ?_)
      unfold T_L_law_684
      refine ⟨by decide, R_confine (b := 1) hG (hR.frc f1) (show 1 < 2 by decide) (fun z2 => absurd z2 z) (fun z2 M2 c2 f2 e2 => ?_)⟩
      exact ⟨by decide, fin_ok (A := fun M9 => T_L_law_717 κ Q sl xs 0 1582 1592 1593 (I i) M9) e2 (fun z3 => absurd (rs0 (Nat.lt_of_lt_of_le rc_conf_lt (by decide)) z3) z) (by unfold T_L_law_717; exact dn K ⟨a, kp, h, o, hG, CI.frr hG c1 f2, c2⟩)⟩
theorem Lw_1424 (hI : LawInv M) (hL : sl ≤ 3072) (hx : i + 6 ≤ sl) (K : ∀ M', LawInv M' → κ 0 1582 1592 1593 (I (i + 6)) M') : T_L_law_1424 κ Q sl xs 0 1582 1592 1593 (I i) M := by
  obtain ⟨a, kp, h, o, hG, hC, hR⟩ := hI
  have hk8 : kp ≤ 8 := hR.2.1.1
  unfold T_L_law_1424
  refine ⟨v_1 hL hx, v_2 hL hx, v_3 hL hx, ?_⟩
  refine ite_pr' (fun c => ?_) (fun c => ?_)
  · unfold T_L_law_1451
    refine L_slot (b := I 0) hG hC  (fun M1 c1 f1 e1 => ?_)
    refine ⟨v_1 hL hx, v_2 hL hx, v_3 hL hx, ?_⟩
    refine ite_pr' (fun _ => ?_) (fun c2 => absurd c c2)
    unfold T_L_law_1484
    refine ⟨by decide, R_slot (b := I 0) hG (hR.frc f1)  (fun M2 c2 f2 e2 => ?_)⟩
    exact ⟨by decide, fin_ok (A := fun M9 => T_L_law_1517 κ Q sl xs 0 1582 1592 1593 (I i) M9) e2 (fun z => by rw [f2.1]; exact e1 (rs0 (Nat.lt_of_lt_of_le rs_slot_lt (by decide)) z)) (by unfold T_L_law_1517; exact dn K ⟨a, kp, h, o, hG, CI.frr hG c1 f2, c2⟩)⟩
  · unfold T_L_law_1451
    refine L_slot (b := I 1) hG hC  (fun M1 c1 f1 e1 => ?_)
    refine ⟨v_1 hL hx, v_2 hL hx, v_3 hL hx, ?_⟩
    refine ite_pr' (fun c2 => absurd c2 c) (fun _ => ?_)
    unfold T_L_law_1484
    refine ⟨by decide, R_slot (b := I 1) hG (hR.frc f1)  (fun M2 c2 f2 e2 => ?_)⟩
    exact ⟨by decide, fin_ok (A := fun M9 => T_L_law_1517 κ Q sl xs 0 1582 1592 1593 (I i) M9) e2 (fun z => by rw [f2.1]; exact e1 (rs0 (Nat.lt_of_lt_of_le rs_slot_lt (by decide)) z)) (by unfold T_L_law_1517; exact dn K ⟨a, kp, h, o, hG, CI.frr hG c1 f2, c2⟩)⟩
theorem Lw_1964 (hI : LawInv M) (hL : sl ≤ 3072) (hx : i + 6 ≤ sl) (K : ∀ M', LawInv M' → κ 0 1582 1592 1593 (I (i + 6)) M') : T_L_law_1964 κ Q sl xs 0 1582 1592 1593 (I i) M := by
  obtain ⟨a, kp, h, o, hG, hC, hR⟩ := hI
  have hk8 : kp ≤ 8 := hR.2.1.1
  unfold T_L_law_1964
  refine ⟨v_1 hL hx, v_2 hL hx, ?_⟩
  refine ite_pr' (fun c => ?_) (fun c => ?_)
  · unfold T_L_law_1985
    refine L_notice (b := 0) hG hC (show 0 < 2 by decide) (fun M1 c1 f1 e1 => ?_)
    refine ⟨v_1 hL hx, v_2 hL hx, ?_⟩
    refine ite_pr' (fun _ => ?_) (fun c2 => absurd c c2)
    unfold T_L_law_2012
    refine ⟨by decide, R_notice (b := 0) hG (hR.frc f1) (show 0 < 2 by decide) (fun M2 c2 f2 e2 => ?_)⟩
    exact ⟨by decide, fin_ok (A := fun M9 => T_L_law_2045 κ Q sl xs 0 1582 1592 1593 (I i) M9) e2 (fun z => by rw [f2.1]; exact e1 (rs0 (Nat.lt_of_lt_of_le rs_notice_lt (by decide)) z)) (by unfold T_L_law_2045; exact dn K ⟨a, kp, h, o, hG, CI.frr hG c1 f2, c2⟩)⟩
  · unfold T_L_law_1985
    refine L_notice (b := 1) hG hC (show 1 < 2 by decide) (fun M1 c1 f1 e1 => ?_)
    refine ⟨v_1 hL hx, v_2 hL hx, ?_⟩
    refine ite_pr' (fun c2 => absurd c2 c) (fun _ => ?_)
    unfold T_L_law_2012
    refine ⟨by decide, R_notice (b := 1) hG (hR.frc f1) (show 1 < 2 by decide) (fun M2 c2 f2 e2 => ?_)⟩
    exact ⟨by decide, fin_ok (A := fun M9 => T_L_law_2045 κ Q sl xs 0 1582 1592 1593 (I i) M9) e2 (fun z => by rw [f2.1]; exact e1 (rs0 (Nat.lt_of_lt_of_le rs_notice_lt (by decide)) z)) (by unfold T_L_law_2045; exact dn K ⟨a, kp, h, o, hG, CI.frr hG c1 f2, c2⟩)⟩
theorem Lw_2048 (hI : LawInv M) (hL : sl ≤ 3072) (hx : i + 6 ≤ sl) (K : ∀ M', LawInv M' → κ 0 1582 1592 1593 (I (i + 6)) M') : T_L_law_2048 κ Q sl xs 0 1582 1592 1593 (I i) M := by
  obtain ⟨a, kp, h, o, hG, hC, hR⟩ := hI
  have hk8 : kp ≤ 8 := hR.2.1.1
  unfold T_L_law_2048
  refine ⟨v_1 hL hx, v_2 hL hx, ?_⟩
  refine ite_pr' (fun c => ?_) (fun c => ?_)
  · unfold T_L_law_2069
    refine L_report (b := 0) hG hC (show 0 < 2 by decide) (fun M1 c1 f1 e1 => ?_)
    refine ⟨v_1 hL hx, v_2 hL hx, ?_⟩
    refine ite_pr' (fun _ => ?_) (fun c2 => absurd c c2)
    unfold T_L_law_2096
    refine ⟨by decide, R_report (b := 0) hG (hR.frc f1) (show 0 < 2 by decide) (fun M2 c2 f2 e2 => ?_)⟩
    exact ⟨by decide, fin_ok (A := fun M9 => T_L_law_2129 κ Q sl xs 0 1582 1592 1593 (I i) M9) e2 (fun z => by rw [f2.1]; exact e1 (rs0 (Nat.lt_of_lt_of_le rs_report_lt (by decide)) z)) (by unfold T_L_law_2129; exact dn K ⟨a, kp, h, o, hG, CI.frr hG c1 f2, c2⟩)⟩
  · unfold T_L_law_2069
    refine L_report (b := 1) hG hC (show 1 < 2 by decide) (fun M1 c1 f1 e1 => ?_)
    refine ⟨v_1 hL hx, v_2 hL hx, ?_⟩
    refine ite_pr' (fun c2 => absurd c2 c) (fun _ => ?_)
    unfold T_L_law_2096
    refine ⟨by decide, R_report (b := 1) hG (hR.frc f1) (show 1 < 2 by decide) (fun M2 c2 f2 e2 => ?_)⟩
    exact ⟨by decide, fin_ok (A := fun M9 => T_L_law_2129 κ Q sl xs 0 1582 1592 1593 (I i) M9) e2 (fun z => by rw [f2.1]; exact e1 (rs0 (Nat.lt_of_lt_of_le rs_report_lt (by decide)) z)) (by unfold T_L_law_2129; exact dn K ⟨a, kp, h, o, hG, CI.frr hG c1 f2, c2⟩)⟩
end Lw2

