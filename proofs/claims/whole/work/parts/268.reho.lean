/-! ===== THE CLASS's earliest visit is the reference's next one ===== -/
section Rh5
variable {M : Mem} {a : Nat → Nat} {f : Nat → Int32}
theorem md_eq (hV : VA a) {u w : Nat} (hu : u < a 4) (hw : w < a 4) (h : mdV a u = mdV a w) : a (78 + 6 * u + 2) = a (78 + 6 * w + 2) ∧ a (78 + 6 * u + 3) = a (78 + 6 * w + 3) := by
  have h1 := (hV.2.2.2.2.2.1 u hu).2.2.2.1
  have h2 := (hV.2.2.2.2.2.1 w hw).2.2.2.1
  unfold mdV at h
  omega
theorem md_ne (hG : GS a) {c x L u w : Nat} (hc : c = 4 ∨ c = 0) (hu : u < a 4) (hw : w < a 4) (hne : u ≠ w) (h1 : nxp a c x L u = true) (h2 : nxp a c x L w = true) : mdV a u ≠ mdV a w := by
  intro h
  unfold nxp at h1 h2
  simp only [Bool.and_eq_true, decide_eq_true_eq] at h1 h2
  have q := md_eq hG.1 hu hw h
  have d := hG.2.1 u w hu hw hne h1.1 h2.1 q.1 q.2
  rcases hc with rfl | rfl
  · exact d.2 (h1.2.2.trans h2.2.2.symm)
  · exact d.1 (h1.2.2.trans h2.2.2.symm)
theorem earl_nx (hG : GS a) {c x L : Nat} {l : Int64} (hc : c = 4 ∨ c = 0) (hl : ∀ u, u < 64 → bq l u = (decide (u < a 4) && nxp a c x L u)) : am (keyV a) (bq l) (a 4) = nx a c x L := by
  have h4 := hG.1.2.1.2.2.2.2.1
  have h3 := hG.1.2.1.2.2.2.1
  have hl' : ∀ u, u < a 4 → bq l u = nxp a c x L u := fun u hu => by rw [hl u (by omega), decide_eq_true hu, Bool.true_and]
  cases hz : nx a c x L with
  | none =>
    cases hm : am (keyV a) (bq l) (a 4) with
    | none => rfl
    | some b =>
      have q := am_s hm
      have := am_n hz b q.1
      rw [← hl' b q.1, q.2.1] at this
      cases this
  | some v =>
    have q := am_s hz
    obtain ⟨b, hb⟩ := am_ex (key := keyV a) (p := bq l) q.1 (by rw [hl' v q.1]; exact q.2.1)
    have q2 := am_s hb
    have hbp : nxp a c x L b = true := by rw [← hl' b q2.1]; exact q2.2.1
    have k1 := q.2.2 b q2.1 hbp
    have k2 := q2.2.2 v q.1 (by rw [hl' v q.1]; exact q.2.1)
    have r1 := (hG.1.2.2.2.2.2.1 b q2.1).2.2.2.2.1
    have r2 := (hG.1.2.2.2.2.2.1 v q.1).2.2.2.2.1
    rw [hb]
    by_cases e : b = v
    · rw [e]
    · exfalso
      have hne := md_ne hG hc q2.1 q.1 e hbp q.2.1
      unfold keyV at k2
      unfold mdV at hne k1
      omega
theorem chg_ne (hG : GS a) {u v j : Nat} (hv : v < a 4) (hu : u < a 4) (hne : u ≠ v) (hj : j < 6) : (chg a v).1 (78 + 6 * u + j) = a (78 + 6 * u + j) := by
  have h4 := hG.1.2.1.2.2.2.2.1
  cases hr : rmV a v with
  | none =>
    rw [chg_n hr]
    show cnl a v 2 _ = _
    unfold cnl
    rw [nt_lo (by omega) (by omega), updN_n (by omega)]
  | some r =>
    by_cases c : r = a (78 + 6 * v + 4)
    · subst c; rw [chg_e hr]
    · rw [chg_d hr c]
      show nt (updN a (78 + 6 * v + 4) r) v 0 _ = _
      rw [nt_lo (by omega) (by omega), updN_n (by omega)]
theorem mask_next (hG : GS a) {c x L v : Nat} {l l2 : Int64} (hc : c = 4 ∨ c = 0) (hl : ∀ u, u < 64 → bq l u = (decide (u < a 4) && nxp a c x L u)) (hz : nx a c x L = some v) (hl2 : ∀ u, u < 64 → bq l2 u = (bq l u && !decide (u = v))) :
    ∀ u, u < 64 → bq l2 u = (decide (u < (chg a v).1 4) && nxp (chg a v).1 c x (mdV a v + 1) u) := by
  intro u hu
  have q := am_s hz
  have hmd := chg_md hG q.1
  rw [hl2 u hu, hl u hu, hmd.2]
  by_cases hu4 : u < a 4
  · rw [decide_eq_true hu4, Bool.true_and, Bool.true_and]
    by_cases e : u = v
    · subst e
      have : nxp (chg a u).1 c x (mdV a u + 1) u = false := by
        unfold nxp
        rw [hmd.1, decide_eq_false (show ¬ mdV a u + 1 ≤ mdV a u by omega), Bool.false_and, Bool.and_false]
      rw [this]
      simp
    · have hcc : c < 6 := by omega
      have hmu : mdV (chg a v).1 u = mdV a u := by
        unfold mdV
        rw [chg_ne hG q.1 hu4 e (by decide), chg_ne hG q.1 hu4 e (by decide)]
      rw [decide_eq_false e, Bool.not_false, Bool.and_true]
      unfold nxp
      rw [hmu, chg_ne hG q.1 hu4 e (show 5 < 6 by decide), chg_ne hG q.1 hu4 e hcc]
      by_cases z : L ≤ mdV a u
      · by_cases z2 : mdV a v + 1 ≤ mdV a u
        · rw [decide_eq_true z, decide_eq_true z2]
        · rw [decide_eq_true z, decide_eq_false z2, Bool.true_and, Bool.false_and, Bool.and_false]
          by_cases zz : (decide (a (78 + 6 * u + 5) = 0) && decide (a (78 + 6 * u + c) = x)) = true
          · exfalso
            have hp : nxp a c x L u = true := by
              unfold nxp
              rw [decide_eq_true z, Bool.true_and]
              exact zz
            have := q.2.2 u hu4 hp
            exact md_ne hG hc hu4 q.1 e hp q.2.1 (by omega)
          · exact Bool.eq_false_iff.mpr zz
      · have hvL : L ≤ mdV a v := (nx_sp hG.1 hz).2.2.1
        rw [decide_eq_false z, decide_eq_false (show ¬ mdV a v + 1 ≤ mdV a u by omega)]
  · rw [decide_eq_false hu4, Bool.false_and, Bool.false_and, Bool.false_and]
end Rh5

