/-! ===== BOOK, SAVE, UNDO, RESTORE, FEED over what holds between calls ===== -/
section La2
variable {M M' M1 : Mem} {a a' : Nat → Nat} {f f' : Nat → Int32} {kp : Nat} {h : Nat → Nat → Nat} {o : Oth} {Q : Int32 → Mem → Prop} {X : String → Mem → Prop}
/-- what the law does with an answer of the class -/
abbrev LK (Q : Int32 → Mem → Prop) : Int32 → Mem → Prop := fun y3 M2 => (kd 1592 = 12) ∧ (vp_in 0 (ln 1592)) ∧ ∀ M6, M6 = (M2.1, vp_updL M2.2.1 (Int32.toNatClampNeg 0) (Int32.toInt64 y3), M2.2.2) → Q 0 M6
theorem LK_ok {v : Int32} (hq : Q 0 (OL M v)) : LK Q v M := ⟨by decide, vp_1592, fun M6 e => by rw [e]; exact hq⟩
theorem K_book (hG : GI a kp h o) (hC : CI a kp h o M) {p s d t : Int32} (h1 : fob a p s d t = 1 → X EI M) (h2 : fob a p s d t = 2 → X EA M)
    (h3 : fob a p s d t = 0 → (rsB a p s d t).1 ≠ 0 → ∀ M', CI a kp h (o.1, o.2.1, rpB none a p s d t) M' → FrC M M' → X EU M')
    (h0 : fob a p s d t = 0 → (rsB a p s d t).1 = 0 → ∀ M', CI (adB a p s d t) (pkn kp) (phh kp h a) o M' → FrC M M' → Q (I (a 4)) M') : T_X6_book Q X 0 p s d t M := by
  have hV := hG.1.1
  have hb := hV.1
  have hS := hC.1.1
  have ha1 := hV.2.1.2.1
  have h2p := two_le hV.2.1.2.2.1
  unfold T_X6_book
  refine ⟨kn_0, k_fob hV hS ?_⟩
  have hc := fob_c (a := a) (p := p) (s := s) (d := d) (t := t)
  refine k_throw (by omega) (fun c => ?_) h1 h2 (fun c => by omega)
  obtain ⟨i, z, x, y, ep, es, ed, et, hi, hz, hx, hy⟩ := fob_0 hV c
  have er : rsB a p s d t = rsn a i z x y := by unfold rsB tn; rw [ep, es, ed, et, tn_I (by omega), tn_I (by omega), tn_I (by omega), tn_I (by omega)]
  have erp : rpB none a p s d t = rpt none i (4 * x + y) (I (rsn a i z x y).1) (rsn a i z x y).2 := by unfold rpB; rw [er]; unfold tn; rw [ep, ed, et, tn_I (by omega), tn_I (by omega), tn_I (by omega)]
  have ea : adB a p s d t = adv a i z x y (brm a i z x y) := by unfold adB tn; rw [ep, es, ed, et, tn_I (by omega), tn_I (by omega), tn_I (by omega), tn_I (by omega)]
  have h3' := h3 c
  have h0' := h0 c
  rw [er, erp] at h3'
  rw [er, ea] at h0'
  clear h1 h2 h3 h0
  subst ep es ed et
  simp (disch := first | exact lt4 (hb _) | exact hb _ | omega) only [I_0, I_1, I_2, I_3, I_4, I_5, I_6, I_7, I_8, I_9, I_10, I_11, I_12, I_20, I_22, I_27, I_31, I_32, I_38, I_42, I_48, I_54, I_55, I_56, I_57, I_60, I_66, I_72, I_78, I_80, I_97, I_98, I_99, I_100, I_108, I_109, I_116, I_120, I_438, I_488, I_512, I_552, I_3864, oN_s, oN_n, bI_t, bI_f, Nat.add_zero, I_bt1, I_bt0, Nat.reduceLT, Nat.reduceLeDiff, Nat.reduceEqDiff, Nat.reduceAdd, Nat.reduceMul, Nat.reduceSub, tn_I, I_add, I_mul, I_div, vp_I, I_eq, I_le, I_lt, I_no, no_I, negI1, true_and, and_true, false_and, and_false, if_true, if_false, ite_true, ite_false, forall_eq, true_or, or_true, kn_0, kn_1, kn_2, kn_3, kn_4, kn_15, kn_16, kn_29, kn_30, kn_37, kn_38, kn_99, kn_100, kn_111, kn_112, kn_119, kn_120, kn_281, kn_282, kn_1543, kn_1544, kn_1545, kn_1546, kn_1547, kn_1551, kn_1552, kn_1553, kn_1554, lnn_2, lnn_4, lnn_16, lnn_30, lnn_38, lnn_100, lnn_112, lnn_120, lnn_282, lnn_1544, lnn_1547, lnn_1552, lnn_1554, rn_1_1, rn_1_2, rn_1_3, rn_1_4, rn_1_5, rn_1_6, rn_1_7, rn_1_8, rn_3_0, rn_15_0, rn_29_0, rn_37_0, rn_99_0, rn_111_0, rn_119_0, rn_1543_0, rn_1543_1, rn_1545_0, rn_1545_1, rn_0_0, rn_0_1, rn_0_3, rn_0_4, rn_0_5, rn_0_6, rn_0_7, rn_1546_0, rn_1551_0, rn_1551_3, rn_1553_0, rn_281_0, rr_4, rr_16, rr_30, rr_38, rr_100, rr_112, rr_120, rr_1547, rr_1554, kr_4, kr_16, kr_30, kr_38, kr_100, kr_112, kr_120, kr_1547, kr_1554, lr_4, lr_16, lr_30, lr_38, lr_100, lr_112, lr_120, lr_1547, lr_1554]
  rw [show x * 4 + y = 4 * x + y by omega]
  rw [show M = jm M (M.1 1543) (M.1 1544) from jm_self.symm]
  refine k_rsn hV hS hG.1.2.1 hG.1.2.2.1 hi hz.2 (by omega) (by omega) (fun g w q0 q1 => ?_)
  have hC2 : CI a kp h o (jm M g w) := hC.ot hG (hC.1.jm hV) Ot.jm
  have hF2 : FrC M (jm M g w) := Ot.jm.frc
  have hlt : (rsn a i z x y).1 < 4096 := rsn_l _ _ _ _ _
  by_cases cr : (rsn a i z x y).1 = 0
  · obtain ⟨r, e1, e2, e3, -, -⟩ := rsn_0 hV cr
    have erm : brm a i z x y = r := by unfold brm; rw [e2]; rfl
    have h0'' := h0' cr
    rw [erm] at h0''
    simp (disch := first | exact lt4 (hb _) | exact hb _ | omega) only [I_0, I_1, I_2, I_3, I_4, I_5, I_6, I_7, I_8, I_9, I_10, I_11, I_12, I_20, I_22, I_27, I_31, I_32, I_38, I_42, I_48, I_54, I_55, I_56, I_57, I_60, I_66, I_72, I_78, I_80, I_97, I_98, I_99, I_100, I_108, I_109, I_116, I_120, I_438, I_488, I_512, I_552, I_3864, oN_s, oN_n, bI_t, bI_f, Nat.add_zero, I_bt1, I_bt0, Nat.reduceLT, Nat.reduceLeDiff, Nat.reduceEqDiff, Nat.reduceAdd, Nat.reduceMul, Nat.reduceSub, tn_I, I_add, I_mul, I_div, vp_I, I_eq, I_le, I_lt, I_no, no_I, negI1, true_and, and_true, false_and, and_false, if_true, if_false, ite_true, ite_false, forall_eq, true_or, or_true, kn_0, kn_1, kn_2, kn_3, kn_4, kn_15, kn_16, kn_29, kn_30, kn_37, kn_38, kn_99, kn_100, kn_111, kn_112, kn_119, kn_120, kn_281, kn_282, kn_1543, kn_1544, kn_1545, kn_1546, kn_1547, kn_1551, kn_1552, kn_1553, kn_1554, lnn_2, lnn_4, lnn_16, lnn_30, lnn_38, lnn_100, lnn_112, lnn_120, lnn_282, lnn_1544, lnn_1547, lnn_1552, lnn_1554, rn_1_1, rn_1_2, rn_1_3, rn_1_4, rn_1_5, rn_1_6, rn_1_7, rn_1_8, rn_3_0, rn_15_0, rn_29_0, rn_37_0, rn_99_0, rn_111_0, rn_119_0, rn_1543_0, rn_1543_1, rn_1545_0, rn_1545_1, rn_0_0, rn_0_1, rn_0_3, rn_0_4, rn_0_5, rn_0_6, rn_0_7, rn_1546_0, rn_1551_0, rn_1551_3, rn_1553_0, rn_281_0, rr_4, rr_16, rr_30, rr_38, rr_100, rr_112, rr_120, rr_1547, rr_1554, kr_4, kr_16, kr_30, kr_38, kr_100, kr_112, kr_120, kr_1547, kr_1554, lr_4, lr_16, lr_30, lr_38, lr_100, lr_112, lr_120, lr_1547, lr_1554, cr]
    refine K_keep hG hC2 (fun M3 hC3 hF3 hG3 e43 => ?_)
    refine k_enter hV hC3.1 e3 (by omega) hy (by rw [e43, jm_g, q0 cr, e1]) (fun M4 hC4 hO4 => ?_)
    exact h0'' M4 (hC3.ot hG3 hC4 hO4) (hF2.trans (hF3.trans hO4.frc))
  · simp (disch := first | exact lt4 (hb _) | exact hb _ | omega) only [I_0, I_1, I_2, I_3, I_4, I_5, I_6, I_7, I_8, I_9, I_10, I_11, I_12, I_20, I_22, I_27, I_31, I_32, I_38, I_42, I_48, I_54, I_55, I_56, I_57, I_60, I_66, I_72, I_78, I_80, I_97, I_98, I_99, I_100, I_108, I_109, I_116, I_120, I_438, I_488, I_512, I_552, I_3864, oN_s, oN_n, bI_t, bI_f, Nat.add_zero, I_bt1, I_bt0, Nat.reduceLT, Nat.reduceLeDiff, Nat.reduceEqDiff, Nat.reduceAdd, Nat.reduceMul, Nat.reduceSub, tn_I, I_add, I_mul, I_div, vp_I, I_eq, I_le, I_lt, I_no, no_I, negI1, true_and, and_true, false_and, and_false, if_true, if_false, ite_true, ite_false, forall_eq, true_or, or_true, kn_0, kn_1, kn_2, kn_3, kn_4, kn_15, kn_16, kn_29, kn_30, kn_37, kn_38, kn_99, kn_100, kn_111, kn_112, kn_119, kn_120, kn_281, kn_282, kn_1543, kn_1544, kn_1545, kn_1546, kn_1547, kn_1551, kn_1552, kn_1553, kn_1554, lnn_2, lnn_4, lnn_16, lnn_30, lnn_38, lnn_100, lnn_112, lnn_120, lnn_282, lnn_1544, lnn_1547, lnn_1552, lnn_1554, rn_1_1, rn_1_2, rn_1_3, rn_1_4, rn_1_5, rn_1_6, rn_1_7, rn_1_8, rn_3_0, rn_15_0, rn_29_0, rn_37_0, rn_99_0, rn_111_0, rn_119_0, rn_1543_0, rn_1543_1, rn_1545_0, rn_1545_1, rn_0_0, rn_0_1, rn_0_3, rn_0_4, rn_0_5, rn_0_6, rn_0_7, rn_1546_0, rn_1551_0, rn_1551_3, rn_1553_0, rn_281_0, rr_4, rr_16, rr_30, rr_38, rr_100, rr_112, rr_120, rr_1547, rr_1554, kr_4, kr_16, kr_30, kr_38, kr_100, kr_112, kr_120, kr_1547, kr_1554, lr_4, lr_16, lr_30, lr_38, lr_100, lr_112, lr_120, lr_1547, lr_1554, cr]
    refine k_clear ?_
    refine k_wr (c0 := 0) (by decide) (by rw [mset_v, if_pos rfl]) (fun M5 g1 g2 _ g3 g4 => ?_)
    have hrp : Rp (jm M g w) M5 := (Rp.set (by decide)).trans g1
    have g5 : (mset (jm M g w) 1546 2 (I 0)).1 1543 5 = (rsn a i z x y).2 := by rw [mset_ne (by decide), jm_g, q1 cr]
    refine h3' cr M5 (hC2.rep hG hrp g2 (fun k hk => ?_)) (hF2.trans (fun j hj => hrp.2 j (by omega)))
    have hk2 : k < 2 := hk
    have : k = 0 ∨ k = 1 := by omega
    rcases this with rfl | rfl
    · exact g3
    · exact ⟨g4.1, g4.2.trans g5⟩
theorem L_book (hG : GI a kp h o) (hC : CI a kp h o M) {p s d t : Int32} (h1 : fob a p s d t ≠ 0 → ∀ M', CI a kp h o M' → FrC M M' → Q (I (fob a p s d t)) M')
    (h3 : fob a p s d t = 0 → (rsB a p s d t).1 ≠ 0 → ∀ M', CI a kp h (o.1, o.2.1, rpB none a p s d t) M' → FrC M M' → Q (I 3) M')
    (h0 : fob a p s d t = 0 → (rsB a p s d t).1 = 0 → ∀ M', CI (adB a p s d t) (pkn kp) (phh kp h a) o M' → FrC M M' → M'.2.1 0 = Int32.toInt64 (I (a 4)) → Q (I 0) M') : T_L_book Q 0 p s d t 1592 M := by
  unfold T_L_book
  refine ⟨kn_0, K_book hG hC (fun e => ?_) (fun e => ?_) (fun e e2 M2 c2 f2 => ?_) (fun e e2 M2 c2 f2 => ?_)⟩
  · have := h1 (by omega) M hC (fun _ _ => rfl)
    rw [e] at this
    exact Or.inr (Or.inl ⟨rfl, this⟩)
  · have := h1 (by omega) M hC (fun _ _ => rfl)
    rw [e] at this
    exact Or.inl ⟨rfl, this⟩
  · exact Or.inr (Or.inr ⟨rfl, h3 e e2 M2 c2 f2⟩)
  · exact LK_ok (h0 e e2 (OL M2 _) c2 f2 OL_v)
/-! save, undo, restore -/
theorem K_save (hG : GI a kp h o) (hC : CI a kp h o M) (hq : ∀ M', CI a kp h (some a, o.2) M' → FrC M M' → Q (I (inS a 0)) M') : T_X6_save Q 0 M := by
  have hV := hG.1.1
  obtain ⟨c1, ⟨sp, c2⟩, c3⟩ := hC
  unfold T_X6_save
  refine ⟨kn_0, by decide, ?_⟩
  rw [rn_0_0, rn_0_1]
  refine X3_copy (Or.inr (Or.inl rfl)) (Or.inl rfl) (Or.inr (by decide)) hV c1.1 c3.1.1 (fun M2 q1 q2 q3 q4 => ?_)
  refine ⟨Or.inr rfl, ?_⟩
  rintro M5 rfl
  have hCz : Cz a (mset M2 0 2 1) := c1.fr hV (fun i i1 i2 => by rw [mset_ne (by omega), q1 i (by omega)])
  refine ⟨kn_1, ?_⟩
  rw [I_0, I_1]
  refine k_inS (x := 0) hV hCz.1 (by decide) (hq _ ⟨hCz, ⟨sp, c2.fr (fun j hj => (hG.2.1 j hj).1) (fun i i1 i2 => by rw [mset_ne (by omega), q1 i (by omega)])⟩, ?_⟩ (fun i hi => by rw [mset_ne (by omega), q1 i (by omega)]))
  refine ⟨⟨q4.fr (fun i i1 i2 => by rw [mset_ne (by omega)]), ⟨by rw [mset_v, if_pos rfl]; rfl, q3.fr (fun i i1 i2 => mset_ne (by omega)) hV⟩⟩, ⟨?_, fun k hk => ?_⟩, ⟨?_, fun k hk => ?_⟩⟩
  · rw [mset_ne (by omega), q1 1551 (by omega)]; exact c3.2.1.1
  · rw [mset_ne (by omega), q1 1552 (by omega)]; exact c3.2.1.2 k hk
  · rw [mset_ne (by omega), q1 1546 (by omega)]; exact c3.2.2.1
  · have hk3 := hG.2.2.2.2
    have hkk : k < o.2.2.1 := hk
    rw [mset_ne (by omega), q1 (1548 + k) (by omega)]; exact c3.2.2.2 k hk
theorem R_save (hG : GI a kp h o) (hR : RI a kp h o M) (hq : ∀ M', RI a kp h (some a, o.2) M' → FrR M M' → Q (I (inS a 0)) M') : T_X7_save Q 1582 M := by
  rw [RI_mm hR]
  refine m_save hG.1.1 (fun M2 f2 hR2 hv e0 e6 ej => hq _ ⟨rfl, hR.2.1.fr (by rw [o_1586, hR2.2 1586 (by decide)]) (ej 5 (by decide) (by decide)), ?_⟩ ⟨hR2.1, fun i hi => (mm_o (by omega) (by omega)).trans (hR2.2 i (by omega))⟩)
  have x := hR.2.2
  refine ⟨⟨e6, fun k hk => by rw [o_1584]; exact hv k hk⟩, ⟨(ej 8 (by decide) (by decide)).trans x.2.1.1, fun k hk => by rw [o_1587, hR2.2 1587 (by decide)]; exact x.2.1.2 k hk⟩, ⟨(ej 11 (by decide) (by decide)).trans x.2.2.1, fun k hk => by rw [o_1588, o_1589, hR2.2 1588 (by decide), hR2.2 1589 (by decide)]; exact x.2.2.2 k hk⟩⟩
theorem L_undo (hG : GI a kp h o) (hC : CI a kp h o M) (h1 : kp = 0 → ∀ M', CI a kp h o M' → FrC M M' → Q (I 1) M')
    (h0 : kp ≠ 0 → ∀ M', CI (ctn 552 (h (kp - 1)) a) (kp - 1) h o M' → FrC M M' → M'.2.1 0 = Int32.toInt64 (I (kp - 1)) → Q (I 0) M') : T_L_undo Q 0 1592 M := by
  have hC0 := hC
  obtain ⟨c1, ⟨sp, c2⟩, c3⟩ := hC
  have hk := c2.1
  unfold T_L_undo
  refine ⟨kn_0, ?_⟩
  unfold T_X6_undo
  refine ⟨kn_0, by decide, ?_⟩
  rw [rn_0_3, rn_0_0, c2.2.2.1]
  by_cases c : kp = 0
  · rw [if_pos (by rw [I_0, c])]
    exact ⟨rfl, h1 c M hC0 (fun _ _ => rfl)⟩
  · rw [if_neg (by rw [I_0, I_eq (by omega) (by decide)]; exact c)]
    refine k_takeBack c1.2 c2 (fun j hj => (hG.2.1 j hj).1) c (fun M2 q1 q2 q3 => ?_)
    have hk1 := hG.2.1 (kp - 1) (by omega)
    rw [q3.2.2.1]
    refine LK_ok (h0 c (OL M2 _) ⟨Cz_cg q2 hk1.1 (fun k hk => ctn_lt hk), ⟨_, q3⟩, ?_⟩ (fun i hi => q1.2 i (by omega) (by omega)) OL_v)
    exact c3.fr (fun s hs => (hG.2.2.1 s hs).1) hG.2.2.2.2 (q1.2 0 (by omega) (by omega)) (fun i i1 i2 => q1.2 i (by omega) (by omega)) (fun i i1 i2 => q1.2 i (by omega) (by omega))
theorem R_undo (hR : RI a kp h o M) (h1 : kp = 0 → ∀ M', RI a kp h o M' → FrR M M' → M'.1 1582 0 = I 1 → Q (I 0) M')
    (h0 : kp ≠ 0 → ∀ M', RI (ctn 552 (h (kp - 1)) a) (kp - 1) h o M' → FrR M M' → M'.1 1582 0 = I 0 → Q (I (kp - 1)) M') : T_X7_undo Q 1582 M := by
  rw [RI_mm hR]
  refine m_undo hR.2.1 (fun c f2 e0 ej => h1 c _ (hR.fld (fun j j0 _ _ _ _ _ => ej j j0)) FrR_mm e0) (fun c f2 e0 e5 ej => h0 c _ ⟨rfl, ⟨by have := hR.2.1.1; omega, e5, fun j hj k hk => by rw [o_1586]; exact hR.2.1.2.2 j (by omega) k hk⟩, hR.2.2.fr o_1584 o_1587 o_1588 o_1589 (ej 6 (by decide) (by decide)) (ej 8 (by decide) (by decide)) (ej 11 (by decide) (by decide))⟩ FrR_mm e0)
theorem L_restore (hG : GI a kp h o) (hC : CI a kp h o M) (h1 : o.1 = none → ∀ M', CI a kp h o M' → FrC M M' → Q (I 1) M')
    (h0 : ∀ s, o.1 = some s → ∀ M', CI (ctn 552 s a) 0 h o M' → FrC M M' → M'.2.1 0 = Int32.toInt64 (I (inS (ctn 552 s a) 0)) → Q (I 0) M') : T_L_restore Q 0 1592 M := by
  have hC0 := hC
  obtain ⟨c1, ⟨sp, c2⟩, c3⟩ := hC
  unfold T_L_restore
  refine ⟨kn_0, ?_⟩
  unfold T_X6_restore
  refine ⟨kn_0, ?_⟩
  have c31 := c3.1.2
  cases hz : o.1 with
  | none =>
    rw [hz] at c31
    rw [show M.1 0 2 = I 0 from c31, if_pos I_0.symm]
    exact ⟨rfl, h1 hz M hC0 (fun _ _ => rfl)⟩
  | some s =>
    rw [hz] at c31
    rw [c31.1, if_neg (by decide)]
    have hGs := hG.2.2.1 s hz
    refine ⟨by rw [rn_0_0]; exact kn_1, ?_⟩
    rw [rn_0_0, rn_0_1, rn_0_3]
    refine X3_copy (Or.inl rfl) (Or.inr (Or.inl rfl)) (Or.inl (by decide)) hGs.1 c31.2 c1.2 (fun M2 q1 q2 q3 q4 => ?_)
    refine ⟨by decide, k_forget ?_⟩
    have hGc := GS_cut hGs hG.1
    have hCz : Cz (ctn 552 s a) (mset M2 281 2 (I 0)) := (Cz_cg ⟨q3, q4⟩ hGs.1 (fun k hk => ctn_lt hk)).fr hGc.1 (fun i i1 i2 => mset_ne (by omega))
    rw [I_0]
    refine k_inS (x := 0) hGc.1 hCz.1 (by decide) (LK_ok (h0 s hz (OL _ _) ⟨hCz, ⟨sp, ?_⟩, ?_⟩ (fun i hi => ?_) OL_v))
    · exact ⟨by decide, c2.2.1, by show (mset M2 281 2 (I 0)).1 281 2 = _; rw [mset_v, if_pos rfl], by show (mset M2 281 2 (I 0)).1 281 1 = _; rw [mset_v, if_neg (by decide), q1 281 (by omega)]; exact c2.2.2.2.1, fun p hp => (c2.2.2.2.2.1 p hp).fr (fun i i1 i2 => by show (mset M2 281 2 (I 0)).1 i 1 = _; rw [mset_ne (by omega), q1 i (by omega)]), fun j hj => by omega⟩
    · exact c3.fr (fun s hs => (hG.2.2.1 s hs).1) hG.2.2.2.2 (by show (mset M2 281 2 (I 0)).1 0 = _; rw [mset_ne (by omega), q1 0 (by omega)]) (fun i i1 i2 => by show (mset M2 281 2 (I 0)).1 i = _; rw [mset_ne (by omega), q1 i (by omega)]) (fun i i1 i2 => by show (mset M2 281 2 (I 0)).1 i = _; rw [mset_ne (by omega), q1 i (by omega)])
    · show (mset M2 281 2 (I 0)).1 i = _
      rw [mset_ne (by omega), q1 i (by omega)]
theorem R_restore (hG : GI a kp h o) (hR : RI a kp h o M) (h1 : o.1 = none → ∀ M', RI a kp h o M' → FrR M M' → M'.1 1582 0 = I 1 → Q (I 0) M')
    (h0 : ∀ s, o.1 = some s → ∀ M', RI (ctn 552 s a) 0 h o M' → FrR M M' → M'.1 1582 0 = I 0 → Q (I (inS (ctn 552 s a) 0)) M') : T_X7_restore Q 1582 M := by
  have x := hR.2.2
  have x1 := x.1
  rw [RI_mm hR]
  cases hz : o.1 with
  | none =>
    rw [hz] at x1
    refine m_restore (s := a) hG.1 (Or.inl x1) (fun _ f2 e0 ej => h1 hz _ (hR.fld (fun j j0 _ _ _ _ _ => ej j j0)) FrR_mm e0) (fun e => ?_)
    rw [show M.1 1582 6 = I 0 from x1, I_eq (by decide) (by decide)] at e
    cases e
  | some s =>
    rw [hz] at x1
    refine m_restore (s := s) hG.1 (Or.inr ⟨x1.1, hG.2.2.1 s hz, x1.2⟩) (fun e => ?_) (fun _ f2 e0 e5 ej => h0 s hz _ ⟨rfl, ⟨by decide, e5, fun j hj => by omega⟩, x.fr o_1584 o_1587 o_1588 o_1589 (ej 6 (by decide) (by decide)) (ej 8 (by decide) (by decide)) (ej 11 (by decide) (by decide))⟩ FrR_mm e0)
    rw [x1.1, I_eq (by decide) (by decide)] at e
    cases e
end La2

