/-! ===== THE CLASS reads a command ===== -/
section Pb3
variable {M M' M1 M2 : Mem} {n : Nat} {u : Nat → Nat} {Q : Int32 → Mem → Prop} {QP : Mem → Prop}
theorem TBc : TB 1553 27 5 := ⟨by decide, by decide, by decide, by decide, by decide, by decide, fun i hi => ⟨rr_1554 i, kr_1554 hi, lr_1554 hi⟩⟩
def sg (k : Nat) : Nat := if k = 0 then 98 else if k = 1 then 120 else 109
/-- the command c stands in the class's table -/
def CC (c : Nat) (x : CTt) (M : Mem) : Prop := M.1 (1555 + c) 0 = I (sg x.1) ∧ M.1 (1555 + c) 1 = I x.2.1 ∧ (x.1 ≠ 1 → M.1 (1555 + c) 2 = I x.2.2.1) ∧ (x.1 = 0 → M.1 (1555 + c) 3 = I x.2.2.2.1 ∧ M.1 (1555 + c) 4 = I x.2.2.2.2)
/-- only the place, the table's count and row r change -/
def Fg (r c : Nat) (M M' : Mem) : Prop := M'.2 = M.2 ∧ (∀ j, j ≠ 1551 → j ≠ 1553 → j ≠ r → M'.1 j = M.1 j) ∧ (∀ k, k ≠ 2 → M'.1 1551 k = M.1 1551 k) ∧ (∀ k, k ≠ 2 → M'.1 1553 k = M.1 1553 k) ∧ M'.1 1553 2 = I (c + 1)
theorem Fg.fc {r c i : Nat} (hr : r ≠ 1553) (e : Fg r c M M1) (e2 : Fc r i M1 M2) : Fg r c M M2 := ⟨e2.1.trans e.1, fun j j1 j2 j3 => (e2.2.1 j j1 j3).trans (e.2.1 j j1 j2 j3), fun k hk => (e2.2.2.1 k hk).trans (e.2.2.1 k hk), fun k hk => by rw [e2.2.1 1553 (by decide) (fun z => hr z.symm)]; exact e.2.2.2.1 k hk, by rw [e2.2.1 1553 (by decide) (fun z => hr z.symm)]; exact e.2.2.2.2⟩
theorem UC.fg {r c : Nat} (hU : UC n u M) (hr : r ≠ 1551 ∧ r ≠ 1552) (e : Fg r c M M') : UC n u M' := ⟨hU.1, (e.2.2.1 1 (by decide)).trans hU.2.1, fun k hk => by rw [e.2.1 1552 (by decide) (by decide) (fun z => hr.2 z.symm)]; exact hU.2.2 k hk⟩
theorem k_sign' (hU : UC n u M) {p c r : Nat} (hr : r ≠ 1551 ∧ r ≠ 1552) (hp : M.1 1551 2 = I p) (hpp : p < 1000) (hc : c < 65536) (h1 : sgn n u c p = true → ∀ M', (∀ i, Fc r i M M') → M'.1 1551 2 = I (p + 1) → Q (I 1) M') (h0 : ¬ sgn n u c p = true → Q (I 0) M) : T_X5_hasSign Q 1551 (I c) M :=
  k_sign hU hp hpp hc (fun z => h1 z _ (fun _ => Fc.pl hr.1) (by rw [mset_v, if_pos rfl])) h0
theorem k_digit' (hU : UC n u M) {p r i : Nat} (hr : r ≠ 1551 ∧ r ≠ 1552) (hk : kd r = 9) (hi : i < ln r) (hi2 : i < 100) (hp : M.1 1551 2 = I p) (hpp : p < 1000) (h1 : dgn n u p = true → ∀ M', Fc r i M M' → M'.1 1551 2 = I (p + 1) → M'.1 r i = I (u p - 48) → Q (I 1) M') (h0 : ¬ dgn n u p = true → Q (I 0) M) : T_X5_hasDigit Q 1551 r (I i) M :=
  k_digit hU hr hk hi hi2 hp hpp (fun z => h1 z _ ((Fc.rw hr.1).trans (Fc.pl hr.1)) (by rw [mset_v, if_pos rfl]) (by rw [mset_ne hr.1, mset_v, if_pos rfl])) h0
theorem k_cmd (hU : UC n u M) {p c : Nat} (hp : M.1 1551 2 = I p) (hpp : p < 800) (hc : c < 27) (ht : M.1 1553 2 = I c)
    (h : ∀ M', Fg (1555 + c) c M M' → M'.1 1551 2 = I (cmd n u p).1.2 → ((cmd n u p).1.1 = true → CC c (cmd n u p).2 M') → Q (if (cmd n u p).1.1 = true then I 1 else I 0) M') : T_X5_hasCommand Q 1551 M := by
  unfold T_X5_hasCommand T_X5_hasCommand_156 T_X5_hasCommand_157 T_X5_hasCommand_88 T_X5_hasCommand_89
  rw [rn_1551_3]
  refine ⟨kn_1551, kn_1553, t_addRow TBc ht hc ?_⟩
  have hk : kd (1555 + c) = 9 := kr_1554 hc
  have hl : ln (1555 + c) = 5 := lr_1554 hc
  have hr : 1555 + c ≠ 1551 ∧ 1555 + c ≠ 1552 := ⟨by omega, by omega⟩
  have hr3 : 1555 + c ≠ 1553 := by omega
  unfold CC at h
  rw [show 1553 + 2 + c = 1555 + c by omega]
  generalize 1555 + c = r at hk hl hr hr3 h ⊢
  have g0 : Fg r c M (mset M 1553 2 (I (c + 1))) := ⟨rfl, fun j j1 j2 j3 => mset_ne j2, fun k hk => by rw [mset_ne (by decide)], fun k hk => by rw [mset_v, if_neg hk], by rw [mset_v, if_pos rfl]⟩
  have q0 : (mset M 1553 2 (I (c + 1))).1 1551 2 = I p := by rw [mset_ne (by decide)]; exact hp
  generalize mset M 1553 2 (I (c + 1)) = M0 at g0 q0 ⊢
  have bad : ∀ (q : Nat) (M1 : Mem), (cmd n u p).1 = (false, q) → Fg r c M M1 → M1.1 1551 2 = I q → ((0 : Int32) = 0 ∨ (0 : Int32) = 1) ∧ Q 0 M1 := fun q M1 e g1 q1 => by
    rw [e] at h
    exact ⟨Or.inl rfl, h M1 g1 q1 (fun z => by cases z)⟩
  have vz : vp_in 0 (ln r) := by rw [I_0, vp_I (by decide), hl]; decide
  have t0 : Int32.toNatClampNeg 0 = 0 := by decide
  refine k_sign' (c := 98) (hU.fg hr g0) hr q0 (by omega) (by decide) (fun c1 M1 f1 q1 => ?_) (fun c1 => ?_)
  · -- a booking
    rw [if_neg (by decide)]
    refine ⟨hk, vz, ?_⟩
    rintro M27 rfl
    rw [t0]
    have ec : cmd n u p = ((cB4 n u p).1, (0, (cB1 n u p).2, (cB2 n u p).2, (cB3 n u p).2, (cB4 n u p).2)) := by unfold cmd; rw [if_pos c1]
    have ba : ∀ (q : Nat) (M1 : Mem), (cB4 n u p).1 = (false, q) → Fg r c M M1 → M1.1 1551 2 = I q → ((0 : Int32) = 0 ∨ (0 : Int32) = 1) ∧ Q 0 M1 := fun q M1 e => bad q M1 (by rw [ec]; exact e)
    have E2 : cB2 n u p = ltr n u (mst n u 58 (cB1 n u p).1) := rfl
    have E3 : cB3 n u p = num n u (mst n u 64 (cB2 n u p).1) := rfl
    have E4 : cB4 n u p = dig n u (mst n u 46 (cB3 n u p).1) := rfl
    have g1 : Fg r c M (mset M1 r 0 98) := (g0.fc hr3 (f1 0)).fc hr3 (Fc.rw (i := 0) hr.1)
    have w0 : (mset M1 r 0 98).1 r 0 = I 98 := by rw [mset_v, if_pos rfl]; rfl
    have q1' : (mset M1 r 0 98).1 1551 2 = I (p + 1) := by rw [mset_ne hr.1.symm]; exact q1
    generalize mset M1 r 0 98 = M2 at g1 w0 q1' ⊢
    refine k_digit' (i := 1) (hU.fg hr g1) hr hk (by omega) (by decide) q1' (by omega) (fun c2 M3 f3 q3 v1 => ?_) (fun c2 => ?_)
    · rw [if_neg (by decide)]
      have E1 : cB1 n u p = ((true, p + 1 + 1), u (p + 1) - 48) := dig_t c2
      have g3 := g1.fc hr3 f3
      have w03 := (f3.2.2.2 0 (by decide)).trans w0
      refine k_sign' (c := 58) (hU.fg hr g3) hr q3 (by omega) (by decide) (fun c3 M4 f4 q4 => ?_) (fun c3 => ?_)
      · rw [if_neg (by decide)]
        have E2' : cB2 n u p = ltr n u (true, p + 1 + 1 + 1) := by rw [E2, E1, mst_t c3]
        have g4 := g3.fc hr3 (f4 0)
        have w04 := ((f4 1).2.2.2 0 (by decide)).trans w03
        have v14 := ((f4 0).2.2.2 1 (by decide)).trans v1
        have b5 := ltr_b (n := n) (u := u) (s := (true, p + 1 + 1 + 1))
        have pb : ((true, p + 1 + 1 + 1) : PSt).2 = p + 1 + 1 + 1 := rfl
        refine k_vis (hU.fg hr g4) hr hk (by omega) q4 (by omega) (fun cl M5 f5 q5 v2 lf => ?_) (fun e5 M5 f5 q5 => ?_)
        · rw [if_neg (by decide)]
          rw [← E2'] at q5 v2 lf b5
          have g5 := g4.fc hr3 f5
          have w05 := (f5.2.2.2 0 (by decide)).trans w04
          have v15 := (f5.2.2.2 1 (by decide)).trans v14
          refine k_sign' (c := 64) (hU.fg hr g5) hr q5 (by omega) (by decide) (fun c6 M6 f6 q6 => ?_) (fun c6 => ?_)
          · rw [if_neg (by decide)]
            have tb : (cB2 n u p).1.1 = true := by
              by_cases z : (cB2 n u p).1.1 = true
              · exact z
              · have a1 := (of_decide_eq_true (lf z)).2
                have a2 := (of_decide_eq_true c6).2
                omega
            have es : (cB2 n u p).1 = (true, (cB2 n u p).1.2) := Prod.ext tb rfl
            have E3' : cB3 n u p = num n u (true, (cB2 n u p).1.2 + 1) := by rw [E3, show mst n u 64 (cB2 n u p).1 = (true, (cB2 n u p).1.2 + 1) from if_pos ⟨tb, c6⟩]
            have g6 := g5.fc hr3 (f6 0)
            have w06 := ((f6 1).2.2.2 0 (by decide)).trans w05
            have v16 := ((f6 0).2.2.2 1 (by decide)).trans v15
            have v26 := ((f6 0).2.2.2 2 (by decide)).trans (v2 tb)
            have b7 := num_b (n := n) (u := u) (s := (true, (cB2 n u p).1.2 + 1))
            have pb2 : ((true, (cB2 n u p).1.2 + 1) : PSt).2 = (cB2 n u p).1.2 + 1 := rfl
            refine k_num (i := 3) (hU.fg hr g6) hr hk (by omega) (by decide) q6 (by omega) (fun c7 M7 f7 q7 v3 => ?_) (fun e7 => ?_)
            · rw [if_neg (by decide)]
              rw [← E3'] at c7 q7 v3 b7
              have g7 := g6.fc hr3 f7
              have w07 := (f7.2.2.2 0 (by decide)).trans w06
              have v17 := (f7.2.2.2 1 (by decide)).trans v16
              have v27 := (f7.2.2.2 2 (by decide)).trans v26
              refine k_sign' (c := 46) (hU.fg hr g7) hr q7 (by omega) (by decide) (fun c8 M8 f8 q8 => ?_) (fun c8 => ?_)
              · rw [if_neg (by decide)]
                have E4' : cB4 n u p = dig n u (true, (cB3 n u p).1.2 + 1) := by rw [E4, show mst n u 46 (cB3 n u p).1 = (true, (cB3 n u p).1.2 + 1) from if_pos ⟨c7, c8⟩]
                have g8 := g7.fc hr3 (f8 0)
                have w08 := ((f8 1).2.2.2 0 (by decide)).trans w07
                have v18 := ((f8 0).2.2.2 1 (by decide)).trans v17
                have v28 := ((f8 0).2.2.2 2 (by decide)).trans v27
                have v38 := ((f8 0).2.2.2 3 (by decide)).trans v3
                refine k_digit' (i := 4) (hU.fg hr g8) hr hk (by omega) (by decide) q8 (by omega) (fun c9 M9 f9 q9 v4 => ?_) (fun c9 => ?_)
                · rw [if_neg (by decide)]
                  rw [dig_t c9] at E4'
                  rw [ec, E4'] at h
                  refine ⟨Or.inr rfl, h M9 (g8.fc hr3 f9) q9 (fun _ => ⟨(f9.2.2.2 0 (by decide)).trans w08, ?_, fun _ => (f9.2.2.2 2 (by decide)).trans v28, fun _ => ⟨(f9.2.2.2 3 (by decide)).trans v38, v4⟩⟩)⟩
                  rw [(f9.2.2.2 1 (by decide)).trans v18, E1]
                · rw [if_pos (show I 0 = 0 from rfl)]
                  exact ba _ M8 (by rw [E4', dig_f c9]) g8 q8
              · rw [if_pos (show I 0 = 0 from rfl)]
                exact ba _ M7 (by rw [E4, show mst n u 46 (cB3 n u p).1 = (false, (cB3 n u p).1.2) from if_neg (fun z => c8 z.2), dig_ff]) g7 q7
            · rw [if_pos (show I 0 = 0 from rfl)]
              exact ba _ M6 (by rw [E4, E3', e7, mst_ff, dig_ff]) g6 q6
          · rw [if_pos (show I 0 = 0 from rfl)]
            exact ba _ M5 (by rw [E4, E3, show mst n u 64 (cB2 n u p).1 = (false, (cB2 n u p).1.2) from if_neg (fun z => c6 z.2), num_ff, mst_ff, dig_ff]) g5 q5
        · rw [if_pos (show I 0 = 0 from rfl)]
          exact ba _ M5 (by rw [E4, E3, E2', e5, mst_ff, num_ff, mst_ff, dig_ff]) (g4.fc hr3 f5) q5
      · rw [if_pos (show I 0 = 0 from rfl)]
        exact ba _ M3 (by rw [E4, E3, E2, E1, mst_f c3, ltr_ff, mst_ff, num_ff, mst_ff, dig_ff]) g3 q3
    · rw [if_pos (show I 0 = 0 from rfl)]
      exact ba _ M2 (by rw [E4, E3, E2, show cB1 n u p = ((false, p + 1), 0) from dig_f c2, mst_ff, ltr_ff, mst_ff, num_ff, mst_ff, dig_ff]) g1 q1'
  · rw [if_pos (show I 0 = 0 from rfl)]
    refine k_sign' (c := 120) (hU.fg hr g0) hr q0 (by omega) (by decide) (fun c2 M1 f1 q1 => ?_) (fun c2 => ?_)
    · -- a cancelling
      rw [if_neg (by decide)]
      refine ⟨hk, vz, ?_⟩
      rintro M27 rfl
      rw [t0]
      have ec : cmd n u p = ((cX1 n u p).1, (1, (cX1 n u p).2, 0, 0, 0)) := by unfold cmd; rw [if_neg c1, if_pos c2]
      have g1 : Fg r c M (mset M1 r 0 120) := (g0.fc hr3 (f1 0)).fc hr3 (Fc.rw (i := 0) hr.1)
      have w0 : (mset M1 r 0 120).1 r 0 = I 120 := by rw [mset_v, if_pos rfl]; rfl
      have q1' : (mset M1 r 0 120).1 1551 2 = I (p + 1) := by rw [mset_ne hr.1.symm]; exact q1
      generalize mset M1 r 0 120 = M2 at g1 w0 q1' ⊢
      refine k_num (i := 1) (hU.fg hr g1) hr hk (by omega) (by decide) q1' (by omega) (fun c3 M3 f3 q3 v3 => ?_) (fun e3 => ?_)
      · have E : cX1 n u p = num n u (true, p + 1) := rfl
        rw [← E] at c3 q3 v3
        rw [ec] at h
        have g := h M3 (g1.fc hr3 f3) q3 (fun _ => ⟨(f3.2.2.2 0 (by decide)).trans w0, v3, fun z => absurd rfl z, fun z => by cases z⟩)
        rw [if_pos c3] at g
        exact ⟨Or.inr rfl, g⟩
      · exact bad _ M2 (by rw [ec, show cX1 n u p = ((false, p + 1), 0) from e3]) g1 q1'
    · rw [if_pos (show I 0 = 0 from rfl)]
      refine ⟨hk, vz, ?_⟩
      rintro M27 rfl
      rw [t0]
      have g1 : Fg r c M (mset M0 r 0 109) := g0.fc hr3 (Fc.rw (i := 0) hr.1)
      have w0 : (mset M0 r 0 109).1 r 0 = I 109 := by rw [mset_v, if_pos rfl]; rfl
      have q1' : (mset M0 r 0 109).1 1551 2 = I p := by rw [mset_ne hr.1.symm]; exact q0
      generalize mset M0 r 0 109 = M2 at g1 w0 q1' ⊢
      refine k_sign' (c := 109) (hU.fg hr g1) hr q1' (by omega) (by decide) (fun c3 M3 f3 q3 => ?_) (fun c3 => ?_)
      · -- a move
        rw [if_neg (by decide)]
        have ec : cmd n u p = ((cM2 n u p).1, (2, (cB1 n u p).2, (cM2 n u p).2, 0, 0)) := by unfold cmd; rw [if_neg c1, if_neg c2, if_pos c3]
        have ba : ∀ (q : Nat) (M1 : Mem), (cM2 n u p).1 = (false, q) → Fg r c M M1 → M1.1 1551 2 = I q → ((0 : Int32) = 0 ∨ (0 : Int32) = 1) ∧ Q 0 M1 := fun q M1 e => bad q M1 (by rw [ec]; exact e)
        have E2 : cM2 n u p = dig n u (mst n u 47 (cB1 n u p).1) := rfl
        have g3 := g1.fc hr3 (f3 0)
        have w03 := ((f3 1).2.2.2 0 (by decide)).trans w0
        refine k_digit' (i := 1) (hU.fg hr g3) hr hk (by omega) (by decide) q3 (by omega) (fun c4 M4 f4 q4 v1 => ?_) (fun c4 => ?_)
        · rw [if_neg (by decide)]
          have E1 : cB1 n u p = ((true, p + 1 + 1), u (p + 1) - 48) := dig_t c4
          have g4 := g3.fc hr3 f4
          have w04 := (f4.2.2.2 0 (by decide)).trans w03
          refine k_sign' (c := 47) (hU.fg hr g4) hr q4 (by omega) (by decide) (fun c5 M5 f5 q5 => ?_) (fun c5 => ?_)
          · rw [if_neg (by decide)]
            have E2' : cM2 n u p = dig n u (true, p + 1 + 1 + 1) := by rw [E2, E1, mst_t c5]
            have g5 := g4.fc hr3 (f5 0)
            have w05 := ((f5 1).2.2.2 0 (by decide)).trans w04
            have v15 := ((f5 0).2.2.2 1 (by decide)).trans v1
            refine k_digit' (i := 2) (hU.fg hr g5) hr hk (by omega) (by decide) q5 (by omega) (fun c6 M6 f6 q6 v2 => ?_) (fun c6 => ?_)
            · rw [if_neg (by decide)]
              rw [dig_t c6] at E2'
              rw [ec, E2'] at h
              refine ⟨Or.inr rfl, h M6 (g5.fc hr3 f6) q6 (fun _ => ⟨(f6.2.2.2 0 (by decide)).trans w05, ?_, fun _ => v2, fun z => by cases z⟩)⟩
              rw [(f6.2.2.2 1 (by decide)).trans v15, E1]
            · rw [if_pos (show I 0 = 0 from rfl)]
              exact ba _ M5 (by rw [E2', dig_f c6]) g5 q5
          · rw [if_pos (show I 0 = 0 from rfl)]
            exact ba _ M4 (by rw [E2, E1, mst_f c5, dig_ff]) g4 q4
        · rw [if_pos (show I 0 = 0 from rfl)]
          exact ba _ M3 (by rw [E2, show cB1 n u p = ((false, p + 1), 0) from dig_f c4, mst_ff, dig_ff]) g3 q3
      · rw [if_pos (show I 0 = 0 from rfl)]
        exact bad p M2 (by unfold cmd; rw [if_neg c1, if_neg c2, if_neg c3]) g1 q1'
end Pb3

