/-! ===== A STEP OF THE LAW: book, means, text, save ===== -/
section Lw3
variable {κ : Nat → Nat → Nat → Nat → Int32 → Mem → Prop} {Q : Int32 → Mem → Prop} {sl i : Nat} {xs : Nat → Int32} {M : Mem}
theorem fob_lt {a : Nat → Nat} {p s d t : Int32} : fob a p s d t < 100 := by
  have := fob_c (a := a) (p := p) (s := s) (d := d) (t := t)
  omega
theorem Lw_992 (hI : LawInv M) (hL : sl ≤ 3072) (hx : i + 6 ≤ sl) (K : ∀ M', LawInv M' → κ 0 1582 1592 1593 (I (i + 6)) M') : T_L_law_992 κ Q sl xs 0 1582 1592 1593 (I i) M := by
  obtain ⟨a, kp, h, o, hG, hC, hR⟩ := hI
  have hk8 : kp ≤ 8 := hR.2.1.1
  unfold T_L_law_992
  refine ⟨v_1 hL hx, v_2 hL hx, v_3 hL hx, v_4 hL hx, ?_⟩
  refine L_book hG hC (fun z M1 c1 f1 => ?_) (fun z zr M1 c1 f1 => ?_) (fun z zr M1 c1 f1 e1 => ?_)
  · refine ⟨by decide, R_book hG (hR.frc f1) (fun z2 M2 c2 f2 e2 => ?_) (fun z2 => absurd z2 z) (fun z2 => absurd z2 z)⟩
    exact fin_ok (A := fun M9 => T_L_law_1081 κ Q sl xs 0 1582 1592 1593 (I i) M9) e2 (fun z3 => absurd (rs0 (fob_lt) z3) z) (by unfold T_L_law_1081; exact dn K ⟨a, kp, h, o, hG, CI.frr hG c1 f2, c2⟩)
  · refine ⟨by decide, R_book hG (hR.frc f1) (fun z2 => absurd z z2) (fun _ z4 M2 c2 f2 e2 => ?_) (fun _ z4 => absurd z4 zr)⟩
    have hG2 : GI a kp h (o.1, o.2.1, rpB none a (xs (Int32.toNatClampNeg (I i + 1))) (xs (Int32.toNatClampNeg (I i + 2))) (xs (Int32.toNatClampNeg (I i + 3))) (xs (Int32.toNatClampNeg (I i + 4)))) := ⟨hG.1, hG.2.1, hG.2.2.1, hG.2.2.2.1, rpt_le⟩
    exact fin_ok (A := fun M9 => T_L_law_1081 κ Q sl xs 0 1582 1592 1593 (I i) M9) (y := I 3) e2 (fun z3 => absurd z3 (by decide)) (by unfold T_L_law_1081; exact dn K ⟨a, kp, h, _, hG2, CI.frr hG2 c1 f2, c2⟩)
  · refine ⟨by decide, R_book hG (hR.frc f1) (fun z2 => absurd z z2) (fun _ z4 => absurd zr z4) (fun _ z4 M2 c2 f2 e2 => ?_)⟩
    have hG2 := hG.push hk8 (adB_GS hG.1 z zr)
    exact fin_ok (A := fun M9 => T_L_law_1081 κ Q sl xs 0 1582 1592 1593 (I i) M9) (y := I 0) e2 (fun _ => by rw [f2.1]; exact e1) (by unfold T_L_law_1081; exact dn K ⟨_, _, _, o, hG2, CI.frr hG2 c1 f2, c2⟩)
theorem Lw_2188 (hI : LawInv M) (hL : sl ≤ 3072) (hx : i + 6 ≤ sl) (K : ∀ M', LawInv M' → κ 0 1582 1592 1593 (I (i + 6)) M') : T_L_law_2188 κ Q sl xs 0 1582 1592 1593 (I i) M := by
  obtain ⟨a, kp, h, o, hG, hC, hR⟩ := hI
  have hk8 : kp ≤ 8 := hR.2.1.1
  unfold T_L_law_2188
  have hs := inS_le hG.1.1 0
  refine L_mean hG hC (fun z M1 c1 f1 => ?_) (fun z M1 c1 f1 e1 => ?_)
  · refine ⟨by decide, R_mean hG (hR.frc f1) (fun _ M2 c2 f2 e2 => ?_) (fun z2 => absurd z z2)⟩
    unfold T_X7_thrown
    exact ⟨by decide, ite_pr' (fun _ => ite_pr' (fun c => absurd c (by decide)) (fun _ => (by unfold T_L_law_2250; exact dn K ⟨a, kp, h, o, hG, CI.frr hG c1 f2, c2⟩))) (fun c => absurd e2 c)⟩
  · refine ⟨by decide, R_mean hG (hR.frc f1) (fun z2 => absurd z2 z) (fun _ M2 c2 f2 e2 => ?_)⟩
    unfold T_X7_thrown
    have ev : Op.cmpValue (FP.dcmp (M2.2.2 (Int32.toNatClampNeg 0)) (fmean a)) .l = 0 := by
      have e3 : M2.2.2 0 = fmean a := by rw [f2.1]; exact e1
      rw [show Int32.toNatClampNeg 0 = 0 by decide, e3]
      exact fl_c (fl_d (I_nz (show inS a 0 < 2147483648 by omega) z))
    exact ⟨by decide, ite_pr' (fun _ => ite_pr' (fun _ => ⟨by decide, vp_1593, ite_pr' (fun _ => (by unfold T_L_law_2250; exact dn K ⟨a, kp, h, o, hG, CI.frr hG c1 f2, c2⟩)) (fun c => absurd ev c)⟩) (fun c => absurd rfl c)) (fun c => absurd e2 c)⟩
theorem Lw_2253 (hI : LawInv M) (hL : sl ≤ 3072) (hx : i + 6 ≤ sl) (K : ∀ M', LawInv M' → κ 0 1582 1592 1593 (I (i + 6)) M') : T_L_law_2253 κ Q sl xs 0 1582 1592 1593 (I i) M := by
  obtain ⟨a, kp, h, o, hG, hC, hR⟩ := hI
  have hk8 : kp ≤ 8 := hR.2.1.1
  unfold T_L_law_2253
  have hq := qsm_b hG.1.1 (n := a 1) hG.1.1.2.1.2.1
  refine ⟨v_1 hL hx, ?_⟩
  refine L_use hG hC (fun z M1 c1 f1 => ?_) (fun z zr M1 c1 f1 => ?_) (fun z zr M1 c1 f1 e1 => ?_)
  · refine ⟨by decide, R_use hG (hR.frc f1) (fun _ M2 c2 f2 e2 => ?_) (fun z2 => absurd z2 z) (fun z2 => absurd z2 z)⟩
    unfold T_X7_thrown
    exact ⟨by decide, ite_pr' (fun _ => ite_pr' (fun c => absurd c (by decide)) (fun _ => (by unfold T_L_law_2328; exact dn K ⟨a, kp, h, o, hG, CI.frr hG c1 f2, c2⟩))) (fun c => absurd e2 c)⟩
  · refine ⟨by decide, R_use hG (hR.frc f1) (fun z2 => absurd z z2) (fun _ _ M2 c2 f2 e2 => ?_) (fun _ z4 => absurd zr z4)⟩
    unfold T_X7_thrown
    exact ⟨by decide, ite_pr' (fun _ => ite_pr' (fun c => absurd c (by decide)) (fun _ => (by unfold T_L_law_2328; exact dn K ⟨a, kp, h, o, hG, CI.frr hG c1 f2, c2⟩))) (fun c => absurd e2 c)⟩
  · refine ⟨by decide, R_use hG (hR.frc f1) (fun z2 => absurd z z2) (fun _ z4 => absurd z4 zr) (fun _ _ M2 c2 f2 e2 => ?_)⟩
    unfold T_X7_thrown
    have nn := fl_w (fl_f (n := I (csm a (Int32.toNatClampNeg (xs (Int32.toNatClampNeg (I i + 1)))))) (I_nz (show qsm a < 2147483648 by unfold qsm; omega) zr))
    have ev : Op.cmpValue (FP.dcmp (M2.2.2 (Int32.toNatClampNeg 0)) (FP.f2d (fuse a (xs (Int32.toNatClampNeg (I i + 1)))))) .l = 0 := by
      have e3 : M2.2.2 0 = FP.f2d (fuse a (xs (Int32.toNatClampNeg (I i + 1)))) := by rw [f2.1]; exact e1
      rw [show Int32.toNatClampNeg 0 = 0 by decide, e3]
      exact fl_c nn
    exact ⟨by decide, ite_pr' (fun _ => ite_pr' (fun _ => ⟨by decide, vp_1593, nn64 nn, ite_pr' (fun _ => (by unfold T_L_law_2328; exact dn K ⟨a, kp, h, o, hG, CI.frr hG c1 f2, c2⟩)) (fun c => absurd ev c)⟩) (fun c => absurd rfl c)) (fun c => absurd e2 c)⟩
theorem Lw_2331 (hI : LawInv M) (hL : sl ≤ 3072) (hx : i + 6 ≤ sl) (K : ∀ M', LawInv M' → κ 0 1582 1592 1593 (I (i + 6)) M') : T_L_law_2331 κ Q sl xs 0 1582 1592 1593 (I i) M := by
  obtain ⟨a, kp, h, o, hG, hC, hR⟩ := hI
  have hk8 : kp ≤ 8 := hR.2.1.1
  unfold T_L_law_2331
  refine ⟨v_1 hL hx, ?_⟩
  obtain ⟨u, hu, eu⟩ := ch_el (xs (Int32.toNatClampNeg (I i + 1)))
  rw [eu]
  refine L_feed hG hC hu (fun z M1 c1 f1 => ?_) (fun z M1 c1 f1 e1 => ?_)
  · refine ⟨by decide, R_feed hG (hR.frc f1) hu (fun _ M2 c2 f2 e2 => ?_) (fun z2 => absurd z z2)⟩
    exact fin_ok (A := fun M9 => T_L_law_2386 κ Q sl xs 0 1582 1592 1593 (I i) M9) (y := I 1) e2 (fun z3 => absurd z3 (by decide)) (by unfold T_L_law_2386; exact dn K ⟨a, kp, h, o, hG, CI.frr hG c1 f2, c2⟩)
  · refine ⟨by decide, R_feed hG (hR.frc f1) hu (fun z2 => absurd z2 z) (fun _ M2 c2 f2 e2 => ?_)⟩
    have hG2 := GI_fed hG hu z
    exact fin_ok (A := fun M9 => T_L_law_2386 κ Q sl xs 0 1582 1592 1593 (I i) M9) (y := I 0) e2 (fun _ => by rw [f2.1]; exact e1) (by unfold T_L_law_2386; exact dn K ⟨a, kp, h, fed o u, hG2, CI.frr hG2 c1 f2, c2⟩)
theorem Lw_2389 (hI : LawInv M) (hL : sl ≤ 3072) (hx : i + 6 ≤ sl) (K : ∀ M', LawInv M' → κ 0 1582 1592 1593 (I (i + 6)) M') : T_L_law_2389 κ Q sl xs 0 1582 1592 1593 (I i) M := by
  obtain ⟨a, kp, h, o, hG, hC, hR⟩ := hI
  have hk8 : kp ≤ 8 := hR.2.1.1
  unfold T_L_law_2389
  have hGe := GI_emp hG
  have hGc : GS (ctn 552 a (pfo a o).2.1) := GS_cut hG.1 (pfo_GS hG)
  refine L_perform hG hC (fun z M1 c1 f1 e1 => ?_) (fun z zr M1 c1 f1 e1 => ?_) (fun z zr M1 c1 f1 => ?_) (fun z zr M1 c1 f1 => ?_)
  · refine ⟨by decide, R_perform hG (hR.frc f1) (fun _ M2 c2 f2 e2 => ?_) (fun z2 => absurd (z2.symm.trans z) (by decide)) (fun z2 => absurd (z2.symm.trans z) (by decide)) (fun z2 => absurd (z2.symm.trans z) (by decide))⟩
    exact fin_ok (A := fun M9 => T_L_law_2430 κ Q sl xs 0 1582 1592 1593 (I i) M9) (y := I 0) e2 (fun _ => by rw [f2.1]; exact e1) (by unfold T_L_law_2430; exact dn K ⟨a, kp, h, emp o, hGe, CI.frr hGe c1 f2, c2⟩)
  · refine ⟨by decide, R_perform hG (hR.frc f1) (fun z2 => absurd (z2.symm.trans z) (by decide)) (fun _ _ M2 c2 f2 e2 => ?_) (fun _ z4 => absurd (z4.symm.trans zr) (by decide)) (fun _ z4 => absurd (z4.symm.trans zr) (by decide))⟩
    have hG2 := hGe.push hk8 (pfo_GS hG)
    exact fin_ok (A := fun M9 => T_L_law_2430 κ Q sl xs 0 1582 1592 1593 (I i) M9) (y := I 0) e2 (fun _ => by rw [f2.1]; exact e1) (by unfold T_L_law_2430; exact dn K ⟨_, _, _, emp o, hG2, CI.frr hG2 c1 f2, c2⟩)
  · refine ⟨by decide, R_perform hG (hR.frc f1) (fun z2 => absurd (z2.symm.trans z) (by decide)) (fun _ z4 => absurd (z4.symm.trans zr) (by decide)) (fun _ _ M2 c2 f2 e2 => ?_) (fun _ z4 => absurd (z4.symm.trans zr) (by decide))⟩
    have hG2 : GI (ctn 552 a (pfo a o).2.1) kp h (emp o) := ⟨hGc, hGe.2⟩
    exact fin_ok (A := fun M9 => T_L_law_2430 κ Q sl xs 0 1582 1592 1593 (I i) M9) (y := I 1) e2 (fun z3 => absurd z3 (by decide)) (by unfold T_L_law_2430; exact dn K ⟨_, kp, h, emp o, hG2, CI.frr hG2 c1 f2, c2⟩)
  · refine ⟨by decide, R_perform hG (hR.frc f1) (fun z2 => absurd (z2.symm.trans z) (by decide)) (fun _ z4 => absurd (z4.symm.trans zr) (by decide)) (fun _ z4 => absurd (z4.symm.trans zr) (by decide)) (fun _ _ M2 c2 f2 e2 => ?_)⟩
    have hG2 : GI (ctn 552 a (pfo a o).2.1) kp h (o.1, (0, o.2.1.2), rpo a o) := ⟨hGc, hGe.2.1, hGe.2.2.1, hGe.2.2.2.1, rpt_le⟩
    exact fin_ok (A := fun M9 => T_L_law_2430 κ Q sl xs 0 1582 1592 1593 (I i) M9) (y := I 1) e2 (fun z3 => absurd z3 (by decide)) (by unfold T_L_law_2430; exact dn K ⟨_, kp, h, _, hG2, CI.frr hG2 c1 f2, c2⟩)
theorem Lw_2433 (hI : LawInv M) (hL : sl ≤ 3072) (hx : i + 6 ≤ sl) (K : ∀ M', LawInv M' → κ 0 1582 1592 1593 (I (i + 6)) M') : T_L_law_2433 κ Q sl xs 0 1582 1592 1593 (I i) M := by
  obtain ⟨a, kp, h, o, hG, hC, hR⟩ := hI
  have hk8 : kp ≤ 8 := hR.2.1.1
  unfold T_L_law_2433
  refine L_undo hG hC (fun z M1 c1 f1 => ?_) (fun z M1 c1 f1 e1 => ?_)
  · refine ⟨by decide, R_undo (hR.frc f1) (fun _ M2 c2 f2 e2 => ?_) (fun z2 => absurd z z2)⟩
    exact fin_ok (A := fun M9 => T_L_law_2474 κ Q sl xs 0 1582 1592 1593 (I i) M9) (y := I 1) e2 (fun z3 => absurd z3 (by decide)) (by unfold T_L_law_2474; exact dn K ⟨a, kp, h, o, hG, CI.frr hG c1 f2, c2⟩)
  · refine ⟨by decide, R_undo (hR.frc f1) (fun z2 => absurd z2 z) (fun _ M2 c2 f2 e2 => ?_)⟩
    have hG2 : GI (ctn 552 (h (kp - 1)) a) (kp - 1) h o := ⟨GS_cut (hG.2.1 (kp - 1) (by omega)) hG.1, fun j hj => hG.2.1 j (by omega), hG.2.2⟩
    exact fin_ok (A := fun M9 => T_L_law_2474 κ Q sl xs 0 1582 1592 1593 (I i) M9) (y := I 0) e2 (fun _ => by rw [f2.1]; exact e1) (by unfold T_L_law_2474; exact dn K ⟨_, _, h, o, hG2, CI.frr hG2 c1 f2, c2⟩)
theorem Lw_2477 (hI : LawInv M) (hL : sl ≤ 3072) (hx : i + 6 ≤ sl) (K : ∀ M', LawInv M' → κ 0 1582 1592 1593 (I (i + 6)) M') : T_L_law_2477 κ Q sl xs 0 1582 1592 1593 (I i) M := by
  obtain ⟨a, kp, h, o, hG, hC, hR⟩ := hI
  have hk8 : kp ≤ 8 := hR.2.1.1
  unfold T_L_law_2477
  refine ⟨kn_0, K_save hG hC (fun M1 c1 f1 => ?_)⟩
  refine ⟨by decide, R_save hG (hR.frc f1) (fun M2 c2 f2 => ?_)⟩
  have hG2 : GI a kp h (some a, o.2) := ⟨hG.1, hG.2.1, fun s hs => by cases hs; exact hG.1, hG.2.2.2⟩
  exact ite_pr' (fun _ => dn K ⟨a, kp, h, (some a, o.2), hG2, CI.frr hG2 c1 f2, c2⟩) (fun c => absurd rfl c)
theorem Lw_2490 (hI : LawInv M) (hL : sl ≤ 3072) (hx : i + 6 ≤ sl) (K : ∀ M', LawInv M' → κ 0 1582 1592 1593 (I (i + 6)) M') : T_L_law_2490 κ Q sl xs 0 1582 1592 1593 (I i) M := by
  obtain ⟨a, kp, h, o, hG, hC, hR⟩ := hI
  have hk8 : kp ≤ 8 := hR.2.1.1
  unfold T_L_law_2490
  refine L_restore hG hC (fun z M1 c1 f1 => ?_) (fun s z M1 c1 f1 e1 => ?_)
  · refine ⟨by decide, R_restore hG (hR.frc f1) (fun _ M2 c2 f2 e2 => ?_) (fun s z2 => by rw [z] at z2; cases z2)⟩
    exact fin_ok (A := fun M9 => T_L_law_2531 κ Q sl xs 0 1582 1592 1593 (I i) M9) (y := I 1) e2 (fun z3 => absurd z3 (by decide)) (by unfold T_L_law_2531; exact dn K ⟨a, kp, h, o, hG, CI.frr hG c1 f2, c2⟩)
  · refine ⟨by decide, R_restore hG (hR.frc f1) (fun z2 => by rw [z] at z2; cases z2) (fun s' z2 M2 c2 f2 e2 => ?_)⟩
    have es : s' = s := Option.some.inj (z2.symm.trans z)
    subst es
    have hG2 : GI (ctn 552 s' a) 0 h o := ⟨GS_cut (hG.2.2.1 s' z) hG.1, fun j hj => absurd hj (Nat.not_lt_zero _), hG.2.2⟩
    exact fin_ok (A := fun M9 => T_L_law_2531 κ Q sl xs 0 1582 1592 1593 (I i) M9) (y := I 0) e2 (fun _ => by rw [f2.1]; exact e1) (by unfold T_L_law_2531; exact dn K ⟨_, 0, h, o, hG2, CI.frr hG2 c1 f2, c2⟩)
end Lw3

