/-! ===== A PAIR IS PARTED: by the visits of one inmate in their order, or by the moments ===== -/
section Pt2
variable {M : Mem} {a : Nat → Nat} {f : Nat → Int32}
def ptc (x y fi la : Nat) : Nat → (Nat → Nat) → Nat → Nat → (Nat → Nat) × Nat
  | 0, a, _, c => (a, c)
  | n + 1, a, l, c => match nx a 0 x l with
    | none => (a, c)
    | some v => if fi ≤ mdV a v / 4 ∧ mdV a v / 4 ≤ la then (match pcl a x y (mdV a v) with
      | none => ptc x y fi la n a (mdV a v + 1) c
      | some u => ptc x y fi la n (cnl a u 1) (mdV a v + 1) (c + 1)) else ptc x y fi la n a (mdV a v + 1) c
def ptg (x y fi la : Nat) : Nat → (Nat → Nat) → Nat → Nat → (Nat → Nat) × Nat
  | 0, a, _, c => (a, c)
  | m + 1, a, t, c => if fi ≤ t / 4 ∧ t / 4 ≤ la then (match pcl a x y t with
      | none => ptg x y fi la m a (t + 1) c
      | some u => ptg x y fi la m (cnl a u 1) (t + 1) (c + 1)) else ptg x y fi la m a (t + 1) c
theorem ptc_n {x y fi la n l c : Nat} (h : nx a 0 x l = none) : ptc x y fi la n a l c = (a, c) := by
  cases n with
  | zero => rfl
  | succ n => rw [show ptc x y fi la (n + 1) a l c = (match nx a 0 x l with | none => (a, c) | some v => if fi ≤ mdV a v / 4 ∧ mdV a v / 4 ≤ la then (match pcl a x y (mdV a v) with | none => ptc x y fi la n a (mdV a v + 1) c | some u => ptc x y fi la n (cnl a u 1) (mdV a v + 1) (c + 1)) else ptc x y fi la n a (mdV a v + 1) c) from rfl, h]
theorem ptc_s {x y fi la n l c v : Nat} (h : nx a 0 x l = some v) : ptc x y fi la (n + 1) a l c = if fi ≤ mdV a v / 4 ∧ mdV a v / 4 ≤ la then (match pcl a x y (mdV a v) with | none => ptc x y fi la n a (mdV a v + 1) c | some u => ptc x y fi la n (cnl a u 1) (mdV a v + 1) (c + 1)) else ptc x y fi la n a (mdV a v + 1) c := by
  rw [show ptc x y fi la (n + 1) a l c = (match nx a 0 x l with | none => (a, c) | some v => if fi ≤ mdV a v / 4 ∧ mdV a v / 4 ≤ la then (match pcl a x y (mdV a v) with | none => ptc x y fi la n a (mdV a v + 1) c | some u => ptc x y fi la n (cnl a u 1) (mdV a v + 1) (c + 1)) else ptc x y fi la n a (mdV a v + 1) c) from rfl, h]
theorem ptg_s {x y fi la m t c : Nat} : ptg x y fi la (m + 1) a t c = if fi ≤ t / 4 ∧ t / 4 ≤ la then (match pcl a x y t with | none => ptg x y fi la m a (t + 1) c | some u => ptg x y fi la m (cnl a u 1) (t + 1) (c + 1)) else ptg x y fi la m a (t + 1) c := rfl
/-- an inmate's booked visit at a moment, and the next one from there -/
theorem nx_vis (hG : GS a) {x t v : Nat} (h : nx a 0 x t = some v) : (mdV a v = t → visO a x (t / 4) (t % 4) = some v) ∧ (mdV a v ≠ t → visO a x (t / 4) (t % 4) = none ∧ nx a 0 x (t + 1) = some v) := by
  have hs := nx_sp hG.1 h
  have hv3 := (hG.1.2.2.2.2.2.1 v hs.1).2.2.2.1
  refine ⟨fun e => ?_, fun e => ⟨?_, ?_⟩⟩
  · have e2 : a (78 + 6 * v + 2) = t / 4 ∧ a (78 + 6 * v + 3) = t % 4 := by unfold mdV at e; omega
    refine fnd_s (Nat.zero_le _) (by have := hs.1; omega) ?_ (fun q z1 z2 => ?_)
    · rw [decide_eq_true (show isI3 a v (t / 4) (t % 4) from ⟨hs.2.1, e2.1, e2.2⟩), decide_eq_true (show a (78 + 6 * v) = x from hs.2.2.2.1)]; rfl
    · by_cases g : isI3 a q (t / 4) (t % 4)
      · by_cases g2 : a (78 + 6 * q) = x
        · exfalso
          have := hG.2.1 q v (by have := hs.1; omega) hs.1 (by omega) g.1 hs.2.1 (g.2.1.trans e2.1.symm) (g.2.2.trans e2.2.symm)
          exact this.1 (g2.trans hs.2.2.2.1.symm)
        · rw [decide_eq_false g2, Bool.and_false]
      · rw [decide_eq_false g, Bool.false_and]
  · cases hz : visO a x (t / 4) (t % 4) with
    | none => rfl
    | some w =>
      exfalso
      have h1 := visO_sp hz
      have q := am_s h
      have e4 : mdV a w = t := by unfold mdV; rw [h1.2.1.2.1, h1.2.1.2.2]; omega
      have := q.2.2 w h1.1 (by
        unfold nxp
        rw [decide_eq_true h1.2.1.1, e4, decide_eq_true (Nat.le_refl t), Nat.add_zero, decide_eq_true h1.2.2]; rfl)
      have := hs.2.2.1
      omega
  · have q := am_s h
    have q2 := q.2.1
    unfold nxp at q2
    simp only [Bool.and_eq_true, decide_eq_true_eq] at q2
    unfold nx
    have hmt := hs.2.2.1
    rw [← h]
    unfold nx
    refine am_cg (fun _ _ _ _ => Iff.rfl) (fun w hw => ?_)
    unfold nxp
    by_cases g : a (78 + 6 * w + 5) = 0 ∧ a (78 + 6 * w + 0) = x
    · rw [decide_eq_true g.1, decide_eq_true g.2]
      by_cases g3 : t ≤ mdV a w
      · have := q.2.2 w hw (by unfold nxp; rw [decide_eq_true g.1, decide_eq_true g.2, decide_eq_true g3]; rfl)
        rw [decide_eq_true g3, decide_eq_true (show t + 1 ≤ mdV a w by omega)]
      · rw [decide_eq_false g3, decide_eq_false (show ¬ t + 1 ≤ mdV a w by omega)]
    · by_cases g1 : a (78 + 6 * w + 5) = 0
      · rw [decide_eq_false (show ¬ a (78 + 6 * w + 0) = x from fun z => g ⟨g1, z⟩), Bool.and_false, Bool.and_false, Bool.and_false, Bool.and_false]
      · rw [decide_eq_false g1, Bool.false_and, Bool.false_and]
theorem nx_vis0 (hG : GS a) {x t : Nat} (h : nx a 0 x t = none) : visO a x (t / 4) (t % 4) = none ∧ nx a 0 x (t + 1) = none := by
  have q := am_n h
  refine ⟨?_, ?_⟩
  · cases hz : visO a x (t / 4) (t % 4) with
    | none => rfl
    | some w =>
      exfalso
      have h1 := visO_sp hz
      have e4 : mdV a w = t := by unfold mdV; rw [h1.2.1.2.1, h1.2.1.2.2]; omega
      have := q w h1.1
      unfold nxp at this
      rw [decide_eq_true h1.2.1.1, e4, decide_eq_true (Nat.le_refl t), Nat.add_zero, decide_eq_true h1.2.2] at this
      cases this
  · cases hz : nx a 0 x (t + 1) with
    | none => rfl
    | some w =>
      exfalso
      have h1 := am_s hz
      have h2 := h1.2.1
      have := q w h1.1
      unfold nxp at h2 this
      simp only [Bool.and_eq_true, decide_eq_true_eq] at h2
      rw [decide_eq_true h2.1, decide_eq_true (show t ≤ mdV a w by omega), decide_eq_true h2.2.2] at this
      cases this
theorem pcl_n {x y t : Nat} (h : visO a x (t / 4) (t % 4) = none) : pcl a x y t = none := by unfold pcl; rw [h]
theorem ptg_ptc {x y fi la : Nat} : ∀ (m : Nat) (a : Nat → Nat) (t c n : Nat), GS a → t + m = 224 → m ≤ n → ptg x y fi la m a t c = ptc x y fi la n a t c := by
  intro m
  induction m with
  | zero =>
    intro a t c n hG ht hn
    have hz : nx a 0 x t = none := by
      cases hz : nx a 0 x t with
      | none => rfl
      | some v => have := nx_sp hG.1 hz; omega
    rw [ptc_n hz]
    rfl
  | succ m ih =>
    intro a t c n hG ht hn
    obtain ⟨n', rfl⟩ : ∃ n', n = n' + 1 := ⟨n - 1, by omega⟩
    rw [ptg_s]
    cases hz : nx a 0 x t with
    | none =>
      have h0 := nx_vis0 hG hz
      rw [ptc_n hz, pcl_n h0.1]
      have := ih a (t + 1) c n' hG (by omega) (by omega)
      rw [ptc_n h0.2] at this
      simp only [this, ite_self]
    | some v =>
      have hs := nx_sp hG.1 hz
      have hv := nx_vis hG hz
      by_cases e : mdV a v = t
      · rw [ptc_s hz, e]
        by_cases g : fi ≤ t / 4 ∧ t / 4 ≤ la
        · rw [if_pos g, if_pos g]
          cases hp : pcl a x y t with
          | none => exact ih a (t + 1) c n' hG (by omega) (by omega)
          | some u =>
            have hu := (pcl_sp hp).1
            have h4 := hG.1.2.1.2.2.2.2.1
            exact ih (cnl a u 1) (t + 1) (c + 1) n' (GS_cnl hG (by omega) (by decide)) (by omega) (by omega)
        · rw [if_neg g, if_neg g]
          exact ih a (t + 1) c n' hG (by omega) (by omega)
      · have h0 := hv.2 e
        rw [pcl_n h0.1]
        have := ih a (t + 1) c (n' + 1) hG (by omega) (by omega)
        rw [ptc_s h0.2] at this
        rw [ptc_s hz, ← this]
        simp only [ite_self]
theorem ptg_out {x y fi la : Nat} : ∀ (m m' : Nat) (a : Nat → Nat) (t c : Nat), (∀ s, t ≤ s → s < t + m → ¬ (fi ≤ s / 4 ∧ s / 4 ≤ la)) → ptg x y fi la (m + m') a t c = ptg x y fi la m' a (t + m) c
  | 0, m', a, t, c, _ => by rw [Nat.zero_add, Nat.add_zero]
  | m + 1, m', a, t, c, h => by
    rw [show m + 1 + m' = (m + m') + 1 by omega, ptg_s, if_neg (h t (Nat.le_refl t) (by omega)), ptg_out m m' a (t + 1) c (fun s h1 h2 => h s (by omega) (by omega)), show t + 1 + m = t + (m + 1) by omega]
theorem ptg_in {x y fi la : Nat} : ∀ (m m' : Nat) (a : Nat → Nat) (t c : Nat), (∀ s, t ≤ s → s < t + m → (fi ≤ s / 4 ∧ s / 4 ≤ la)) → ptg x y fi la (m + m') a t c = ptg x y fi la m' (pts x y m a t c).1 (t + m) (pts x y m a t c).2
  | 0, m', a, t, c, _ => by rw [Nat.zero_add, Nat.add_zero]; rfl
  | m + 1, m', a, t, c, h => by
    rw [show m + 1 + m' = (m + m') + 1 by omega, ptg_s, if_pos (h t (Nat.le_refl t) (by omega))]
    cases hp : pcl a x y t with
    | none =>
      rw [pts_n hp]
      show ptg x y fi la (m + m') a (t + 1) c = _
      rw [ptg_in m m' a (t + 1) c (fun s h1 h2 => h s (by omega) (by omega)), show t + 1 + m = t + (m + 1) by omega]
    | some u =>
      rw [pts_s hp]
      show ptg x y fi la (m + m') (cnl a u 1) (t + 1) (c + 1) = _
      rw [ptg_in m m' (cnl a u 1) (t + 1) (c + 1) (fun s h1 h2 => h s (by omega) (by omega)), show t + 1 + m = t + (m + 1) by omega]
theorem ptc_pts (hG : GS a) {x y fi la : Nat} (h1 : fi ≤ la) (h2 : la ≤ 55) : ptc x y fi la 224 a 0 0 = pts x y (4 * la + 4 - 4 * fi) a (4 * fi) 0 := by
  rw [← ptg_ptc 224 a 0 0 224 hG rfl (Nat.le_refl _)]
  have e1 := ptg_out (x := x) (y := y) (fi := fi) (la := la) (4 * fi) (224 - 4 * fi) a 0 0 (fun s _ _ => by omega)
  rw [show 4 * fi + (224 - 4 * fi) = 224 by omega, Nat.zero_add] at e1
  have e2 := ptg_in (x := x) (y := y) (fi := fi) (la := la) (4 * la + 4 - 4 * fi) (224 - (4 * la + 4)) a (4 * fi) 0 (fun s _ _ => by omega)
  rw [show 4 * la + 4 - 4 * fi + (224 - (4 * la + 4)) = 224 - 4 * fi by omega] at e2
  have e3 := ptg_out (x := x) (y := y) (fi := fi) (la := la) (224 - (4 * la + 4)) 0 (pts x y (4 * la + 4 - 4 * fi) a (4 * fi) 0).1 (4 * fi + (4 * la + 4 - 4 * fi)) (pts x y (4 * la + 4 - 4 * fi) a (4 * fi) 0).2 (fun s _ _ => by omega)
  rw [Nat.add_zero] at e3
  rw [e1, e2, e3]
  rfl
end Pt2

