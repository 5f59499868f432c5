/-! ===== BOOK: the class ===== -/
section Bo2
variable {M M' M1 : Mem} {a a' : Nat → Nat} {f f' : Nat → Int32} {kp : Nat} {h : Nat → Nat → Nat} {o : Oth} {Q : Int32 → Mem → Prop} {X : String → Mem → Prop}
theorem TBr : TB 1546 3 2 := ⟨by decide, by decide, by decide, by decide, by decide, by decide, fun i hi => ⟨rr_1547 i, kr_1547 hi, lr_1547 hi⟩⟩
/-- only the report changes -/
def Rp (M M' : Mem) : Prop := M'.2 = M.2 ∧ ∀ j, ¬ (1546 ≤ j ∧ j < 1551) → M'.1 j = M.1 j
theorem Rp.trans {M'' : Mem} (e : Rp M M') (e2 : Rp M' M'') : Rp M M'' := ⟨e2.1.trans e.1, fun j hj => (e2.2 j hj).trans (e.2 j hj)⟩
theorem Rp.set {i k : Nat} {v : Int32} (hi : 1546 ≤ i ∧ i < 1551) : Rp M (mset M i k v) := ⟨rfl, fun j hj => mset_ne (by omega)⟩
theorem k_clear {QP : Mem → Prop} (hq : QP (mset M 1546 2 (I 0))) : T_X4_clear QP 1546 M := by
  unfold T_X4_clear
  refine ⟨by decide, ?_⟩
  rintro M2 rfl
  exact hq
theorem k_wr {QP : Mem → Prop} {c0 : Nat} {v1 v2 n : Int32} (hc : c0 ≤ 1) (hm : M.1 1546 2 = I c0)
    (hq : ∀ M', Rp M M' → M'.1 1546 2 = I (c0 + 2) → (∀ k, k < c0 → M'.1 (1548 + k) = M.1 (1548 + k)) → (M'.1 (1548 + c0) 0 = v1 ∧ M'.1 (1548 + c0) 1 = v2) → (M'.1 (1548 + (c0 + 1)) 0 = n ∧ M'.1 (1548 + (c0 + 1)) 1 = M.1 1543 5) → QP M') : T_X6_writeReport QP 0 v1 v2 n M := by
  have t7 := TBr.2.2.2.2.2.2
  have t0 := t7 c0 (by omega)
  have t1 := t7 (c0 + 1) (by omega)
  unfold T_X6_writeReport
  simp (disch := first | exact lt4 (hb _) | exact hb _ | omega) only [I_0, I_1, I_2, I_3, I_4, I_5, I_6, I_7, I_8, I_9, I_10, I_11, I_12, I_20, I_22, I_27, I_31, I_32, I_38, I_42, I_48, I_54, I_55, I_56, I_57, I_60, I_66, I_72, I_78, I_80, I_97, I_98, I_99, I_100, I_108, I_109, I_116, I_120, I_438, I_488, I_512, I_552, I_3864, oN_s, oN_n, bI_t, bI_f, Nat.add_zero, I_bt1, I_bt0, Nat.reduceLT, Nat.reduceLeDiff, Nat.reduceEqDiff, Nat.reduceAdd, Nat.reduceMul, Nat.reduceSub, tn_I, I_add, I_mul, I_div, vp_I, I_eq, I_le, I_lt, I_no, no_I, negI1, true_and, and_true, false_and, and_false, if_true, if_false, ite_true, ite_false, forall_eq, true_or, or_true, kn_0, kn_1, kn_2, kn_3, kn_4, kn_15, kn_16, kn_29, kn_30, kn_37, kn_38, kn_99, kn_100, kn_111, kn_112, kn_119, kn_120, kn_281, kn_282, kn_1543, kn_1544, kn_1545, kn_1546, kn_1547, kn_1551, kn_1552, kn_1553, kn_1554, lnn_2, lnn_4, lnn_16, lnn_30, lnn_38, lnn_100, lnn_112, lnn_120, lnn_282, lnn_1544, lnn_1547, lnn_1552, lnn_1554, rn_1_1, rn_1_2, rn_1_3, rn_1_4, rn_1_5, rn_1_6, rn_1_7, rn_1_8, rn_3_0, rn_15_0, rn_29_0, rn_37_0, rn_99_0, rn_111_0, rn_119_0, rn_1543_0, rn_1543_1, rn_1545_0, rn_1545_1, rn_0_0, rn_0_1, rn_0_3, rn_0_4, rn_0_5, rn_0_6, rn_0_7, rn_1546_0, rn_1551_0, rn_1551_3, rn_1553_0, rn_281_0, rr_4, rr_16, rr_30, rr_38, rr_100, rr_112, rr_120, rr_1547, rr_1554, kr_4, kr_16, kr_30, kr_38, kr_100, kr_112, kr_120, kr_1547, kr_1554, lr_4, lr_16, lr_30, lr_38, lr_100, lr_112, lr_120, lr_1547, lr_1554]
  refine t_addRow TBr hm (by omega) ?_
  rw [t0.2.1, t0.2.2]
  refine ⟨rfl, by decide, by decide, ?_⟩
  generalize hM2 : mset (mset (mset M 1546 2 (I (c0 + 1))) (1546 + 2 + c0) 0 v1) (1546 + 2 + c0) 1 v2 = M2
  have r2 : Rp M M2 := by
    subst hM2
    exact (Rp.set (by decide)).trans ((Rp.set (by omega)).trans (Rp.set (by omega)))
  have c2 : M2.1 1546 2 = I (c0 + 1) := by subst hM2; rw [mset_ne (by omega), mset_ne (by omega), mset_v, if_pos rfl]
  have e0 : M2.1 (1548 + c0) 0 = v1 ∧ M2.1 (1548 + c0) 1 = v2 := by
    subst hM2
    rw [show 1546 + 2 + c0 = 1548 + c0 by omega]
    exact ⟨by rw [mset_v, if_neg (by decide), mset_v, if_pos rfl], by rw [mset_v, if_pos rfl]⟩
  have ek : ∀ k, k < c0 → M2.1 (1548 + k) = M.1 (1548 + k) := fun k hk => by subst hM2; rw [mset_ne (by omega), mset_ne (by omega), mset_ne (by omega)]
  refine t_addRow TBr c2 (by omega) ?_
  rw [t1.2.1, t1.2.2]
  refine ⟨rfl, by decide, by decide, ?_⟩
  rw [show 1546 + 2 + (c0 + 1) = 1548 + (c0 + 1) by omega]
  refine hq _ (r2.trans ((Rp.set (by decide)).trans ((Rp.set (by omega)).trans (Rp.set (by omega))))) ?_ (fun k hk => ?_) ⟨?_, ?_⟩ ⟨?_, ?_⟩
  · rw [mset_ne (by omega), mset_ne (by omega), mset_v, if_pos rfl]
  · rw [mset_ne (by omega), mset_ne (by omega), mset_ne (by omega)]; exact ek k hk
  · rw [mset_ne (by omega), mset_ne (by omega), mset_ne (by omega)]; exact e0.1
  · rw [mset_ne (by omega), mset_ne (by omega), mset_ne (by omega)]; exact e0.2
  · rw [mset_v, if_neg (by decide), mset_v, if_pos rfl]
  · rw [mset_v, if_pos rfl, mset_ne (by omega), mset_ne (by omega), r2.2 1543 (by omega)]
theorem CX.rep {r : Nat × (Nat → Int32) × (Nat → Int32)} (hX : CX o M) (hs : ∀ s, o.1 = some s → VA s) (e0 : M'.1 0 = M.1 0) (e1 : ∀ i, 141 ≤ i → i < 281 → M'.1 i = M.1 i) (e2 : ∀ i, 1551 ≤ i → i < 1553 → M'.1 i = M.1 i) (e3 : M'.1 1546 2 = I r.1) (e4 : ∀ k, k < r.1 → M'.1 (1548 + k) 0 = r.2.1 k ∧ M'.1 (1548 + k) 1 = r.2.2 k) : CX (o.1, o.2.1, r) M' := by
  obtain ⟨x1, x2, x3⟩ := hX
  refine ⟨⟨x1.1.fr (fun i i1 i2 => by rw [e1 i i1 (by omega)]), ?_⟩, ⟨by rw [e2 1551 (by omega) (by omega)]; exact x2.1, fun k hk => by rw [e2 1552 (by omega) (by omega)]; exact x2.2 k hk⟩, ⟨e3, e4⟩⟩
  have x12 := x1.2
  show match o.1 with | none => M'.1 0 2 = I 0 | some s => M'.1 0 2 = I 1 ∧ St 141 s M'
  cases hz : o.1 with
  | none => rw [hz] at x12; show M'.1 0 2 = _; rw [e0]; exact x12
  | some s => rw [hz] at x12; exact ⟨by rw [e0]; exact x12.1, x12.2.fr (fun i i1 i2 => e1 i i1 (by omega)) (hs s hz)⟩
theorem CI.rep {r : Nat × (Nat → Int32) × (Nat → Int32)} (hG : GI a kp h o) (hC : CI a kp h o M) (e : Rp M M') (e3 : M'.1 1546 2 = I r.1) (e4 : ∀ k, k < r.1 → M'.1 (1548 + k) 0 = r.2.1 k ∧ M'.1 (1548 + k) 1 = r.2.2 k) : CI a kp h (o.1, o.2.1, r) M' := by
  obtain ⟨c1, ⟨sp, c2⟩, c3⟩ := hC
  exact ⟨c1.fr hG.1.1 (fun i i1 i2 => e.2 i (by omega)), ⟨sp, c2.fr (fun j hj => (hG.2.1 j hj).1) (fun i i1 i2 => e.2 i (by omega))⟩, c3.rep (fun s hs => (hG.2.2.1 s hs).1) (e.2 0 (by omega)) (fun i i1 i2 => e.2 i (by omega)) (fun i i1 i2 => e.2 i (by omega)) e3 e4⟩
abbrev tn (p : Int32) : Nat := p.toNatClampNeg
def rsB (a : Nat → Nat) (p s d t : Int32) : Nat × Int32 := rsn a (tn p) (tn s) (tn d) (tn t)
def rpB (oc : Option Nat) (a : Nat → Nat) (p s d t : Int32) : Nat × (Nat → Int32) × (Nat → Int32) := rpt oc (tn p) (4 * tn d + tn t) (I (rsB a p s d t).1) (rsB a p s d t).2
def adB (a : Nat → Nat) (p s d t : Int32) : Nat → Nat := adv a (tn p) (tn s) (tn d) (tn t) (brm a (tn p) (tn s) (tn d) (tn t))
theorem adB_GS (hG : GS a) {p s d t : Int32} (hf : fob a p s d t = 0) (h0 : (rsB a p s d t).1 = 0) : GS (adB a p s d t) := by
  have hV := hG.1
  have h1 := hV.2.1.2.1
  have h2p := two_le hV.2.1.2.2.1
  obtain ⟨i, z, x, y, rfl, rfl, rfl, rfl, hi, hz, hx, hy⟩ := fob_0 hV hf
  unfold rsB tn at h0
  unfold adB tn
  rw [tn_I (by omega), tn_I (by omega), tn_I (by omega), tn_I (by omega)] at h0
  rw [tn_I (by omega), tn_I (by omega), tn_I (by omega), tn_I (by omega)]
  obtain ⟨r, e1, e2, e3, -, -⟩ := rsn_0 hV h0
  have er : brm a i z x y = r := by unfold brm; rw [e2]; rfl
  rw [er]
  exact GS_adv hG hi hz (by omega) hy h0 e2
theorem R_book (hG : GI a kp h o) (hR : RI a kp h o M) {p s d t : Int32} (h1 : fob a p s d t ≠ 0 → ∀ M', RI a kp h o M' → FrR M M' → M'.1 1582 0 = I (fob a p s d t) → Q (I 0) M')
    (h3 : fob a p s d t = 0 → (rsB a p s d t).1 ≠ 0 → ∀ M', RI a kp h (o.1, o.2.1, rpB none a p s d t) M' → FrR M M' → M'.1 1582 0 = I 3 → Q (I 0) M')
    (h0 : fob a p s d t = 0 → (rsB a p s d t).1 = 0 → ∀ M', RI (adB a p s d t) (pkn kp) (phh kp h a) o M' → FrR M M' → M'.1 1582 0 = I 0 → Q (I (a 4)) M') : T_X7_book Q 1582 p s d t M := by
  have hV := hG.1.1
  have ha1 := hV.2.1.2.1
  have h2p := two_le hV.2.1.2.2.1
  unfold T_X7_book
  refine ⟨by decide, R_begin0 hG hR (fun M1 hB hF => ?_)⟩
  refine m_booking hG.1 none (fun c hc => by cases hc) (fun c => ?_) ?_ ?_
  · rintro M5 rfl
    rw [mm_mf, mm_fa, updI_s]
    have hc := fob_c (a := a) (p := p) (s := s) (d := d) (t := t)
    rw [I_0, if_neg (by rw [I_le (by omega) (by decide)]; omega)]
    exact h1 c _ (R_fail hR hB (EF.rfl.upd (by decide) (by decide) (by decide) (by decide))) (R_fr hB) mmf0
  · intro i z x y ep es ed et hi hz hx hy hf hr M2 f2 g1 g2 g3 g4 g5
    rintro M5 rfl
    rw [mm_mf, mm_fa, updI_s]
    rw [I_0, if_neg (by rw [I_le (by decide) (by decide)]; omega)]
    have er : rsB a p s d t = rsn a i z x y := by unfold rsB tn; rw [ep, es, ed, et, tn_I (by omega), tn_I (by omega), tn_I (by omega), tn_I (by omega)]
    have erp : rpB none a p s d t = rpt none i (4 * x + y) (I (rsn a i z x y).1) (rsn a i z x y).2 := by unfold rpB; rw [er]; unfold tn; rw [ep, ed, et, tn_I (by omega), tn_I (by omega), tn_I (by omega)]
    have e5 : updI f2 0 (I 3) 5 = M.1 1582 5 := (updI_n (by decide)).trans (g3 5 (by decide) (by decide) (by decide))
    have e6 : updI f2 0 (I 3) 6 = M.1 1582 6 := (updI_n (by decide)).trans (g3 6 (by decide) (by decide) (by decide))
    have e8 : updI f2 0 (I 3) 8 = M.1 1582 8 := (updI_n (by decide)).trans (g3 8 (by decide) (by decide) (by decide))
    have e11 : updI f2 0 (I 3) 11 = I (rpt none i (4 * x + y) (I (rsn a i z x y).1) (rsn a i z x y).2).1 := (updI_n (by decide)).trans g4
    refine h3 hf (by rw [er]; exact hr) _ ?_ ⟨g1.trans hB.1, fun i hi => (mm_o (by omega) (by omega)).trans ((g2 i (by omega) (by omega)).trans (hB.2 i (by omega)))⟩ mmf0
    rw [erp]
    refine ⟨rfl, hR.2.1.fr ?_ e5, hR.2.2.rep (by rw [o_1584, g2 1584 (by decide) (by decide), hB.2 1584 (by decide)]) (by rw [o_1587, g2 1587 (by decide) (by decide), hB.2 1587 (by decide)]) e6 e8 e11 (fun k hk => ?_)⟩
    · rw [o_1586, g2 1586 (by decide) (by decide), hB.2 1586 (by decide)]
    · rw [o_1588, o_1589]; exact g5 k hk
  · intro i z x y ep es ed et hi hz hx hy hf hr f2 g1 g2
    rintro M5 rfl
    rw [mm_mf, mm_fa, updI_s]
    rw [I_0, if_pos (by rw [I_le (by decide) (by decide)]; omega)]
    have er : rsB a p s d t = rsn a i z x y := by unfold rsB tn; rw [ep, es, ed, et, tn_I (by omega), tn_I (by omega), tn_I (by omega), tn_I (by omega)]
    have ea : adB a p s d t = adv a i z x y (brm a i z x y) := by unfold adB tn; rw [ep, es, ed, et, tn_I (by omega), tn_I (by omega), tn_I (by omega), tn_I (by omega)]
    have ef : EF (updI f2 0 (I 0)) (M.1 1582) := EF.upd ⟨g1 5 (by decide) (by decide) (by decide), g1 6 (by decide) (by decide) (by decide), g1 8 (by decide) (by decide) (by decide), g1 11 (by decide) (by decide) (by decide)⟩ (by decide) (by decide) (by decide) (by decide)
    refine R_keep (a' := adv a i z x y (brm a i z x y)) hR hB hF ef (fun M' r1 r2 r3 r4 => ?_)
    rw [show M'.1 1582 15 = I (a 4) by rw [r4 15 (by decide), updI_n (by decide), g2]]
    rw [ea] at h0
    exact h0 hf (by rw [er]; exact hr) M' r1 r2 ((r4 0 (by decide)).trans updI_s)
end Bo2

