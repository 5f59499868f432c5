/-! ===== WHAT HOLDS BETWEEN CALLS ===== -/
section Iv1
/-- the saved state, the text, the report -/
abbrev Oth : Type := Option (Nat → Nat) × (Nat × (Nat → Int32)) × (Nat × (Nat → Int32) × (Nat → Int32))
def CX (o : Oth) (M : Mem) : Prop := (Wd 141 M ∧ match o.1 with | none => M.1 0 2 = I 0 | some s => M.1 0 2 = I 1 ∧ St 141 s M) ∧
  (M.1 1551 1 = I o.2.1.1 ∧ ∀ k, k < o.2.1.1 → M.1 1552 k = o.2.1.2 k) ∧
  (M.1 1546 2 = I o.2.2.1 ∧ ∀ k, k < o.2.2.1 → M.1 (1548 + k) 0 = o.2.2.2.1 k ∧ M.1 (1548 + k) 1 = o.2.2.2.2 k)
def RX (o : Oth) (M : Mem) (f : Nat → Int32) : Prop := (match o.1 with | none => f 6 = I 0 | some s => f 6 = I 1 ∧ ∀ k, k < 552 → M.1 1584 k = I (s k)) ∧
  (f 8 = I o.2.1.1 ∧ ∀ k, k < o.2.1.1 → M.1 1587 k = o.2.1.2 k) ∧
  (f 11 = I o.2.2.1 ∧ ∀ k, k < o.2.2.1 → M.1 1588 k = o.2.2.2.1 k ∧ M.1 1589 k = o.2.2.2.2 k)
def GI (a : Nat → Nat) (kp : Nat) (h : Nat → Nat → Nat) (o : Oth) : Prop := GS a ∧ (∀ j, j < kp → GS (h j)) ∧ (∀ s, o.1 = some s → GS s) ∧ (o.2.1.1 ≤ 80 ∧ ∀ k, k < o.2.1.1 → isN (o.2.1.2 k) 65536) ∧ o.2.2.1 ≤ 3
def CI (a : Nat → Nat) (kp : Nat) (h : Nat → Nat → Nat) (o : Oth) (M : Mem) : Prop := Cz a M ∧ (∃ sp, HC kp sp h M) ∧ CX o M
def RI (a : Nat → Nat) (kp : Nat) (h : Nat → Nat → Nat) (o : Oth) (M : Mem) : Prop := M.1 1583 = (fun k => I (a k)) ∧ HR kp h M (M.1 1582) ∧ RX o M (M.1 1582)
def LawInv (M : Mem) : Prop := ∃ a kp h o, GI a kp h o ∧ CI a kp h o M ∧ RI a kp h o M
/-- a call of the class leaves the reference's objects; a call of the reference the class's -/
def FrC (M M' : Mem) : Prop := ∀ i, 1582 ≤ i → M'.1 i = M.1 i
def FrR (M M' : Mem) : Prop := M'.2 = M.2 ∧ ∀ i, i < 1582 → M'.1 i = M.1 i
variable {M M' : Mem} {a a' : Nat → Nat} {f : Nat → Int32} {kp : Nat} {h : Nat → Nat → Nat} {o : Oth}
theorem HR.fr (hH : HR kp h M f) {f' : Nat → Int32} (e : M'.1 1586 = M.1 1586) (e5 : f' 5 = f 5) : HR kp h M' f' := ⟨hH.1, e5.trans hH.2.1, fun j hj k hk => by rw [e]; exact hH.2.2 j hj k hk⟩
theorem RX.fr (hX : RX o M f) {f' : Nat → Int32} (e4 : M'.1 1584 = M.1 1584) (e7 : M'.1 1587 = M.1 1587) (e8 : M'.1 1588 = M.1 1588) (e9 : M'.1 1589 = M.1 1589) (f6 : f' 6 = f 6) (f8 : f' 8 = f 8) (f11 : f' 11 = f 11) : RX o M' f' := by
  obtain ⟨x1, x2, x3⟩ := hX
  refine ⟨?_, ⟨f8.trans x2.1, fun k hk => by rw [e7]; exact x2.2 k hk⟩, ⟨f11.trans x3.1, fun k hk => by rw [e8, e9]; exact x3.2 k hk⟩⟩
  cases hs : o.1 with
  | none => rw [hs] at x1; exact f6.trans x1
  | some s => rw [hs] at x1; exact ⟨f6.trans x1.1, fun k hk => by rw [e4]; exact x1.2 k hk⟩
theorem RI.frc (hR : RI a kp h o M) (e : FrC M M') : RI a kp h o M' := by
  refine ⟨by rw [e 1583 (by decide)]; exact hR.1, hR.2.1.fr (e 1586 (by decide)) (by rw [e 1582 (by decide)]), hR.2.2.fr (e 1584 (by decide)) (e 1587 (by decide)) (e 1588 (by decide)) (e 1589 (by decide)) ?_ ?_ ?_⟩
  · rw [e 1582 (by decide)]
  · rw [e 1582 (by decide)]
  · rw [e 1582 (by decide)]
theorem CX.fr (hX : CX o M) (hs : ∀ s, o.1 = some s → VA s) (ho : o.2.2.1 ≤ 3) (e0 : M'.1 0 = M.1 0) (e1 : ∀ i, 141 ≤ i → i < 281 → M'.1 i = M.1 i) (e2 : ∀ i, 1546 ≤ i → i < 1553 → M'.1 i = M.1 i) : CX o M' := by
  obtain ⟨x1, x2, x3⟩ := hX
  refine ⟨⟨x1.1.fr (fun i i1 i2 => by rw [e1 i i1 (by omega)]), ?_⟩, ⟨by rw [e2 1551 (by omega) (by omega)]; exact x2.1, fun k hk => by rw [e2 1552 (by omega) (by omega)]; exact x2.2 k hk⟩, ⟨by rw [e2 1546 (by omega) (by omega)]; exact x3.1, fun k hk => by rw [e2 (1548 + k) (by omega) (by omega)]; exact x3.2 k hk⟩⟩
  have x12 := x1.2
  cases hz : o.1 with
  | none => rw [hz] at x12; show M'.1 0 2 = _; rw [e0]; exact x12
  | some s => rw [hz] at x12; exact ⟨by rw [e0]; exact x12.1, x12.2.fr (fun i i1 i2 => e1 i i1 (by omega)) (hs s hz)⟩
theorem CI.frr (hG : GI a kp h o) (hC : CI a kp h o M) (e : FrR M M') : CI a kp h o M' := by
  obtain ⟨c1, ⟨sp, c2⟩, c3⟩ := hC
  exact ⟨c1.fr hG.1.1 (fun i i1 i2 => e.2 i (by omega)), ⟨sp, c2.fr (fun j hj => (hG.2.1 j hj).1) (fun i i1 i2 => e.2 i (by omega))⟩, c3.fr (fun s hs => (hG.2.2.1 s hs).1) hG.2.2.2.2 (e.2 0 (by decide)) (fun i i1 i2 => e.2 i (by omega)) (fun i i1 i2 => e.2 i (by omega))⟩
/-- the desk changes, nothing else of the class -/
theorem CI.ot (hG : GI a kp h o) (hC : CI a kp h o M) (hA : Cz a' M') (e : Ot M M') : CI a' kp h o M' := by
  obtain ⟨c1, ⟨sp, c2⟩, c3⟩ := hC
  exact ⟨hA, ⟨sp, c2.fr (fun j hj => (hG.2.1 j hj).1) (fun i i1 i2 => e.2 i (by omega) (by omega) (by omega))⟩, c3.fr (fun s hs => (hG.2.2.1 s hs).1) hG.2.2.2.2 (e.2 0 (by omega) (by omega) (by omega)) (fun i i1 i2 => e.2 i (by omega) (by omega) (by omega)) (fun i i1 i2 => e.2 i (by omega) (by omega) (by omega))⟩
theorem Ot.frc (e : Ot M M') : FrC M M' := fun i hi => e.2 i (by omega) (by omega) (by omega)
theorem CI.m2 (hC : CI a kp h o M) (x : (Nat → Int64) × (Nat → UInt64)) : CI a kp h o (M.1, x) := hC
theorem RI_mm (hR : RI a kp h o M) : M = mm M a (M.1 1582) := (mm_self hR.1).symm
theorem FrR_mm {f' : Nat → Int32} : FrR M (mm M a' f') := ⟨by trivial, fun i hi => mm_o (by omega) (by omega)⟩
/-- the reference's fields change, nothing else of it -/
theorem RI.fld (hR : RI a kp h o M) {f' : Nat → Int32} (e : ∀ j, j ≠ 0 → j ≠ 12 → j ≠ 13 → j ≠ 14 → j ≠ 15 → j ≠ 16 → f' j = M.1 1582 j) : RI a kp h o (mm M a f') := by
  refine ⟨rfl, hR.2.1.fr o_1586 (e 5 (by decide) (by decide) (by decide) (by decide) (by decide) (by decide)), hR.2.2.fr o_1584 o_1587 o_1588 o_1589 (e 6 (by decide) (by decide) (by decide) (by decide) (by decide) (by decide)) (e 8 (by decide) (by decide) (by decide) (by decide) (by decide) (by decide)) (e 11 (by decide) (by decide) (by decide) (by decide) (by decide) (by decide))⟩
/-- what is written to the law's row -/
def OL (M : Mem) (v : Int32) : Mem := (M.1, vp_updL M.2.1 (Int32.toNatClampNeg 0) (Int32.toInt64 v), M.2.2)
theorem OL_v {v : Int32} : (OL M v).2.1 0 = Int32.toInt64 v := by
  show vp_updL M.2.1 (Int32.toNatClampNeg 0) (Int32.toInt64 v) 0 = _
  unfold vp_updL
  rw [show Int32.toNatClampNeg 0 = 0 from rfl, if_pos rfl]
theorem vp_1592 : vp_in 0 (ln 1592) := by rw [show ln 1592 = 1 by decide, I_0, vp_I (by decide)]; decide
theorem vp_1593 : vp_in 0 (ln 1593) := by rw [show ln 1593 = 1 by decide, I_0, vp_I (by decide)]; decide
theorem lg_self (x : Int64) : lg_cmp x x = 0 := by
  unfold lg_cmp
  simp
theorem fin_ok {A B : Mem → Prop} {y y5 : Int32} (h0 : M.1 1582 0 = y) (h1 : y = 0 → M.2.1 0 = Int32.toInt64 y5) (hA : A M) :
    T_X7_thrown (fun y7 M6 => if y7 = y then (if y = 0 then ((kd 1592 = 12) ∧ (vp_in 0 (ln 1592)) ∧ if lg_cmp (M6.2.1 (Int32.toNatClampNeg 0)) (Int32.toInt64 y5) = 0 then A M6 else B M6) else A M6) else B M6) 1582 M := by
  unfold T_X7_thrown
  rw [h0]
  refine ⟨by decide, ?_⟩
  dsimp only
  rw [if_pos rfl]
  by_cases c : y = 0
  · rw [if_pos c]
    refine ⟨by decide, vp_1592, ?_⟩
    rw [show Int32.toNatClampNeg 0 = 0 from rfl, h1 c, if_pos (lg_self _)]
    exact hA
  · rw [if_neg c]
    exact hA
end Iv1

