/-! ===== PERFORM: the reference ===== -/
section Pf2
variable {M M' M1 : Mem} {a a' : Nat → Nat} {f f' : Nat → Int32} {kp : Nat} {h : Nat → Nat → Nat} {o : Oth} {Q : Int32 → Mem → Prop}
/-- the text is emptied -/
def emp (o : Oth) : Oth := (o.1, (0, o.2.1.2), o.2.2)
def tu (o : Oth) (k : Nat) : Nat := tn (o.2.1.2 k)
/-- what the text says -/
def tx (o : Oth) : PSt := txt o.2.1.1 (tu o) 28 0
def tcm (o : Oth) (j : Nat) : CTt := (cmd o.2.1.1 (tu o) (psn o.2.1.1 (tu o) j)).2
def pfo (a : Nat → Nat) (o : Oth) : Nat × (Nat → Nat) × Nat := prf (tcm o) (tx o).2 0 a
def rpo (a : Nat → Nat) (o : Oth) : Nat × (Nat → Int32) × (Nat → Int32) := rpX (pfo a o).2.2 (pfo a o).2.1 (tcm o (pfo a o).2.2)
theorem tcm_ok (o : Oth) (j : Nat) : xOK (tcm o j) := (cmd_b (n := o.2.1.1) (u := tu o) (p := psn o.2.1.1 (tu o) j)).2.2.2
theorem txt_b {n : Nat} {u : Nat → Nat} (hn : n ≤ 80) : ∀ m k, m + k = 28 → 3 * k ≤ psn n u k → psn n u k ≤ n → ((txt n u m k).1 = true → (txt n u m k).2 ≤ 27) ∧ (txt n u m k).2 ≤ 200
  | 0, k, h1, h2, h3 => by omega
  | m + 1, k, h1, h2, h3 => by
    have b := cmd_b (n := n) (u := u) (p := psn n u k)
    have ep : psn n u (k + 1) = (cmd n u (psn n u k)).1.2 + 1 := rfl
    unfold txt
    by_cases c1 : (cmd n u (psn n u k)).1.1 = true
    · have b3 := b.2.2.1 c1
      rw [if_pos c1]
      by_cases c2 : n ≤ (cmd n u (psn n u k)).1.2
      · rw [if_pos c2]
        exact ⟨fun _ => by show k + 1 ≤ 27; omega, by show k + 1 ≤ 200; omega⟩
      · rw [if_neg c2]
        by_cases c3 : sgn n u 59 (cmd n u (psn n u k)).1.2 = true
        · rw [if_pos c3]
          exact txt_b hn m (k + 1) (by omega) (by omega) (by omega)
        · rw [if_neg c3]
          exact ⟨(fun z => by cases z), by show (cmd n u (psn n u k)).1.2 ≤ 200; omega⟩
    · rw [if_neg c1]
      exact ⟨(fun z => by cases z), by show (cmd n u (psn n u k)).1.2 ≤ 200; omega⟩
theorem tx_b (hG : GI a kp h o) : ((tx o).1 = true → (tx o).2 ≤ 27) ∧ (tx o).2 ≤ 200 := txt_b hG.2.2.2.1.1 28 0 rfl (Nat.zero_le _) (Nat.zero_le _)
theorem tu_I (hG : GI a kp h o) {k : Nat} (hk : k < o.2.1.1) : o.2.1.2 k = I (tu o k) ∧ tu o k < 65536 := by
  obtain ⟨i, hi, e⟩ := isN_el (hG.2.2.2.1.2 k hk)
  unfold tu tn
  rw [e, tn_I (by omega)]
  exact ⟨rfl, hi⟩
theorem GI_emp (hG : GI a kp h o) : GI a kp h (emp o) := ⟨hG.1, hG.2.1, hG.2.2.1, ⟨Nat.zero_le _, fun k hk => absurd hk (Nat.not_lt_zero _)⟩, hG.2.2.2.2⟩
theorem pfo_GS (hG : GI a kp h o) : GS (pfo a o).2.1 := prf_GS (tcm_ok o) _ 0 a hG.1
theorem R_perform (hG : GI a kp h o) (hR : RI a kp h o M)
    (hs : (tx o).1 = false → ∀ M', RI a kp h (emp o) M' → FrR M M' → M'.1 1582 0 = I 0 → Q ((-100) - I (tx o).2) M')
    (h0 : (tx o).1 = true → (pfo a o).1 = 0 → ∀ M', RI (pfo a o).2.1 (pkn kp) (phh kp h a) (emp o) M' → FrR M M' → M'.1 1582 0 = I 0 → Q (I (tx o).2) M')
    (h1 : (tx o).1 = true → (pfo a o).1 = 1 → ∀ M', RI (ctn 552 a (pfo a o).2.1) kp h (emp o) M' → FrR M M' → M'.1 1582 0 = I 1 → Q (I 0) M')
    (h2 : (tx o).1 = true → (pfo a o).1 = 2 → ∀ M', RI (ctn 552 a (pfo a o).2.1) kp h (o.1, (0, o.2.1.2), rpo a o) M' → FrR M M' → M'.1 1582 0 = I 1 → Q (I 0) M') : T_X7_perform Q 1582 M := by
  have hb := tx_b hG
  have hx := hR.2.2
  have hn := hG.2.2.2.1.1
  unfold T_X7_perform
  refine R_begin hG hR (fun M1 hB hF => ?_)
  have hU : UT o.2.1.1 (tu o) M1 := ⟨hn, fun k hk => by rw [hB.2 1587 (by decide), hx.2.1.2 k hk]; exact tu_I hG hk⟩
  refine m_text hU (by rw [updI_n (by decide)]; exact hx.2.1.1) (fun M2 f2 r2 g2 t2 => ?_)
  rintro M6 rfl
  rw [mm_mf, I_1, negI1, I_0]
  have t2' : (tx o).1 = true → f2 22 = I (tx o).2 ∧ ∀ j, j < (tx o).2 → CW j (tcm o j) M2 := t2
  show if tva (tx o) = NO then _ else Q ((-100) - tva (tx o)) _
  have e2 : ∀ i, i ≠ 1590 → i ≠ 1591 → i ≠ 1585 → M2.1 i = M.1 i := fun i i1 i2 i3 => (r2.2.1 i i1 i2).trans (hB.2 i i3)
  have q0 : f2 0 = I 0 := (g2 0 (by decide) (by decide) (by decide) (by decide)).trans updI_s
  have q5 : f2 5 = M.1 1582 5 := (g2 5 (by decide) (by decide) (by decide) (by decide)).trans (updI_n (by decide))
  have q6 : f2 6 = M.1 1582 6 := (g2 6 (by decide) (by decide) (by decide) (by decide)).trans (updI_n (by decide))
  have q11 : f2 11 = M.1 1582 11 := (g2 11 (by decide) (by decide) (by decide) (by decide)).trans (updI_n (by decide))
  -- the state with the text emptied
  have p0 : updI f2 8 (I 0) 0 = I 0 := (updI_n (by decide)).trans q0
  have p5 : updI f2 8 (I 0) 5 = M.1 1582 5 := (updI_n (by decide)).trans q5
  have p6 : updI f2 8 (I 0) 6 = M.1 1582 6 := (updI_n (by decide)).trans q6
  have p8 : updI f2 8 (I 0) 8 = I 0 := updI_s
  have p11 : updI f2 8 (I 0) 11 = M.1 1582 11 := (updI_n (by decide)).trans q11
  have p22 : updI f2 8 (I 0) 22 = f2 22 := updI_n (by decide)
  rw [← p22] at t2'
  generalize updI f2 8 (I 0) = f3 at p0 p5 p6 p8 p11 t2' ⊢
  have x1 := hx.1
  have rx : ∀ (M3 : Mem) (f4 : Nat → Int32) (r : Nat × (Nat → Int32) × (Nat → Int32)), M3.1 1584 = M.1 1584 → f4 6 = M.1 1582 6 → f4 8 = I 0 → f4 11 = I r.1 → (∀ k, k < r.1 → M3.1 1588 k = r.2.1 k ∧ M3.1 1589 k = r.2.2 k) → RX (o.1, (0, o.2.1.2), r) M3 f4 := by
    intro M3 f4 r s1 s2 s3 s4 s5
    refine ⟨?_, ⟨s3, fun k hk => absurd hk (Nat.not_lt_zero _)⟩, ⟨s4, s5⟩⟩
    show match o.1 with | none => f4 6 = I 0 | some s => f4 6 = I 1 ∧ ∀ k, k < 552 → M3.1 1584 k = I (s k)
    cases hz : o.1 with
    | none => rw [hz] at x1; exact s2.trans x1
    | some s => rw [hz] at x1; exact ⟨s2.trans x1.1, fun k hk => by rw [s1]; exact x1.2 k hk⟩
  have R1 : RI a kp h (emp o) (mm M2 a f3) := ⟨rfl, hR.2.1.fr (by rw [o_1586]; exact e2 1586 (by decide) (by decide) (by decide)) p5, rx _ _ _ (by rw [o_1584]; exact e2 1584 (by decide) (by decide) (by decide)) p6 p8 (p11.trans hx.2.2.1) (fun k hk => by rw [o_1588, o_1589, e2 1588 (by decide) (by decide) (by decide), e2 1589 (by decide) (by decide) (by decide)]; exact hx.2.2.2 k hk)⟩
  have F1 : ∀ a' f', FrR M (mm M2 a' f') := fun a' f' => ⟨r2.1.trans hB.1, fun i hi => (mm_o (by omega) (by omega)).trans (e2 i (by omega) (by omega) (by omega))⟩
  have hF2 : ∀ k, k < 552 → M2.1 1585 k = I (a k) := fun k hk => by rw [r2.2.1 1585 (by decide) (by decide)]; exact hF k hk
  unfold tva
  by_cases c : (tx o).1 = true
  · obtain ⟨t22, tw⟩ := t2' c
    have hc := hb.1 c
    rw [if_pos c, if_pos rfl]
    refine ⟨_, m_pf (tcm_ok o) (tx o).2 0 a f3 hG.1 (by rw [Nat.zero_add]; exact t22) (by omega) (fun j hj => tw j (by omega)) (fun z f4 w4 => ?_) (fun z κ f4 w4 => ?_) (fun z κ M4 f4 g1 g2 w4 g4 g5 => ?_)⟩
    · have ef : EF f4 ((mm M2 a f3).1 1582) := ⟨w4 5 (by decide) (by decide) (by decide) (by decide) (by decide), w4 6 (by decide) (by decide) (by decide) (by decide) (by decide), w4 8 (by decide) (by decide) (by decide) (by decide) (by decide), w4 11 (by decide) (by decide) (by decide) (by decide) (by decide)⟩
      have g := R_keep (Q := fun M2 => Q (M2.1 1582 22) M2) (a' := (pfo a o).2.1) (f' := f4) R1 Ro.rfl (fun k hk => by rw [o_1585]; exact hF2 k hk) ef (fun M' r1 r2' r3 r4 => ?_)
      · rw [mm_mm] at g
        exact g
      · show Q (M'.1 1582 22) M'
        rw [r4 22 (by decide), w4 22 (by decide) (by decide) (by decide) (by decide) (by decide), t22]
        exact h0 c z M' r1 ⟨r2'.1.trans (F1 a f3).1, fun i hi => (r2'.2 i hi).trans ((F1 a f3).2 i hi)⟩ ((r4 0 (by decide)).trans ((w4 0 (by decide) (by decide) (by decide) (by decide) (by decide)).trans p0))
    · refine m_back hF2 (h1 c z _ ⟨rfl, hR.2.1.fr ?_ ?_, ?_⟩ (F1 _ _) mmf0)
      · rw [o_1586]; exact e2 1586 (by decide) (by decide) (by decide)
      · show updI f4 0 (I 1) 5 = _
        rw [updI_n (by decide), w4 5 (by decide) (by decide) (by decide) (by decide) (by decide)]; exact p5
      · refine rx _ _ _ (by rw [o_1584]; exact e2 1584 (by decide) (by decide) (by decide)) ?_ ?_ ?_ (fun k hk => by rw [o_1588, o_1589, e2 1588 (by decide) (by decide) (by decide), e2 1589 (by decide) (by decide) (by decide)]; exact hx.2.2.2 k hk)
        · show updI f4 0 (I 1) 6 = _
          rw [updI_n (by decide), w4 6 (by decide) (by decide) (by decide) (by decide) (by decide)]; exact p6
        · show updI f4 0 (I 1) 8 = _
          rw [updI_n (by decide), w4 8 (by decide) (by decide) (by decide) (by decide) (by decide)]; exact p8
        · show updI f4 0 (I 1) 11 = _
          rw [updI_n (by decide), w4 11 (by decide) (by decide) (by decide) (by decide) (by decide)]; exact p11.trans hx.2.2.1
    · have e4 : ∀ i, i ≠ 1588 → i ≠ 1589 → i ≠ 1590 → i ≠ 1591 → i ≠ 1585 → M4.1 i = M.1 i := fun i i1 i2 i3 i4 i5 => (g2 i i1 i2).trans (e2 i i3 i4 i5)
      refine m_back (fun k hk => by rw [g2 1585 (by decide) (by decide)]; exact hF2 k hk) (h2 c z _ ⟨rfl, hR.2.1.fr ?_ ?_, ?_⟩ ⟨g1.trans (r2.1.trans hB.1), fun i hi => (mm_o (by omega) (by omega)).trans (e4 i (by omega) (by omega) (by omega) (by omega) (by omega))⟩ mmf0)
      · rw [o_1586]; exact e4 1586 (by decide) (by decide) (by decide) (by decide) (by decide)
      · show updI f4 0 (I 1) 5 = _
        rw [updI_n (by decide), w4 5 (by decide) (by decide) (by decide) (by decide) (by decide) (by decide)]; exact p5
      · refine rx _ _ _ (by rw [o_1584]; exact e4 1584 (by decide) (by decide) (by decide) (by decide) (by decide)) ?_ ?_ ?_ (fun k hk => by rw [o_1588, o_1589]; exact g5 k hk)
        · show updI f4 0 (I 1) 6 = _
          rw [updI_n (by decide), w4 6 (by decide) (by decide) (by decide) (by decide) (by decide) (by decide)]; exact p6
        · show updI f4 0 (I 1) 8 = _
          rw [updI_n (by decide), w4 8 (by decide) (by decide) (by decide) (by decide) (by decide) (by decide)]; exact p8
        · show updI f4 0 (I 1) 11 = _
          rw [updI_n (by decide)]; exact g4
  · rw [if_neg c, if_neg (show ¬ I (tx o).2 = NO by rw [I_no (by omega)]; exact id)]
    exact hs (by cases hz : (tx o).1 with | true => exact absurd hz c | false => rfl) _ R1 (F1 _ _) ((mm_fa 0).trans p0)
end Pf2

