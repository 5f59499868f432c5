/-! ===== THE CHANGES over what holds between calls ===== -/
section La1
variable {M M' M1 : Mem} {a a' : Nat → Nat} {f f' : Nat → Int32} {kp : Nat} {h : Nat → Nat → Nat} {o : Oth} {Q : Int32 → Mem → Prop} {X : String → Mem → Prop}
theorem svs_GS6 (hG : GS a) : GS (svs (a 6) a 0 0).1 := (svs_GS (a 6) a 0 0 hG (by omega)).1

theorem rc_inm_lt {p q : Int32} : (rc_inm a p q).1 < 3 := by
  unfold rc_inm
  repeat' split
  all_goals first | decide | omega
theorem rc_inm_GS (hG : GS a) {p q : Int32} (h0 : (rc_inm a p q).1 = 0) : GS (rc_inm a p q).2.2 := by
  unfold rc_inm at h0 ⊢
  by_cases c1 : isN p 4 ∧ isN q 3
  · rw [if_pos c1] at h0 ⊢
    by_cases c2 : a 1 = 10
    · rw [if_pos c2] at h0; cases h0
    · rw [if_neg c2]
      exact GS_ad_inm hG (by have := hG.1.2.1.2.1; omega) (isN_0 c1.1) (isN_0 c1.2)
  · rw [if_neg c1] at h0; cases h0
theorem L_addInmate (hG : GI a kp h o) (hC : CI a kp h o M) {p q : Int32} (hq0 : (rc_inm a p q).1 = 0 → ∀ M', CI (rc_inm a p q).2.2 (pkn kp) (phh kp h a) o M' → FrC M M' → M'.2.1 0 = Int32.toInt64 (rc_inm a p q).2.1 → Q (I 0) M') (hq1 : (rc_inm a p q).1 ≠ 0 → ∀ M', CI a kp h o M' → FrC M M' → Q (I (rc_inm a p q).1) M') : T_L_addInmate Q 0 p q 1592 M := by
  have hlt := rc_inm_lt (a := a) (p := p) (q := q)
  unfold T_L_addInmate
  refine ⟨kn_0, K_addInmate hG hC ?_⟩
  exact outc_ok (by omega) (fun _ M9 q => by first | exact ⟨rfl, q⟩ | exact Or.inl ⟨rfl, q⟩ | exact Or.inr ⟨rfl, q⟩ | exact Or.inr (Or.inl ⟨rfl, q⟩) | exact Or.inr (Or.inr ⟨rfl, q⟩)) (fun _ M9 q => by first | exact ⟨rfl, q⟩ | exact Or.inl ⟨rfl, q⟩ | exact Or.inr ⟨rfl, q⟩ | exact Or.inr (Or.inl ⟨rfl, q⟩) | exact Or.inr (Or.inr ⟨rfl, q⟩)) (fun e => by have := hlt; omega) hq0 hq1 hC

theorem rc_vis_lt {p : Int32} : (rc_vis a p).1 < 3 := by
  unfold rc_vis
  repeat' split
  all_goals first | decide | omega
theorem rc_vis_GS (hG : GS a) {p : Int32} (h0 : (rc_vis a p).1 = 0) : GS (rc_vis a p).2.2 := by
  unfold rc_vis at h0 ⊢
  by_cases c1 : isN p 3
  · rw [if_pos c1] at h0 ⊢
    by_cases c2 : a 2 = 12
    · rw [if_pos c2] at h0; cases h0
    · rw [if_neg c2]
      exact GS_ad_vis hG (by have := hG.1.2.1.2.2.1; omega) (isN_0 c1)
  · rw [if_neg c1] at h0; cases h0
theorem L_addVisitor (hG : GI a kp h o) (hC : CI a kp h o M) {p : Int32} (hq0 : (rc_vis a p).1 = 0 → ∀ M', CI (rc_vis a p).2.2 (pkn kp) (phh kp h a) o M' → FrC M M' → M'.2.1 0 = Int32.toInt64 (rc_vis a p).2.1 → Q (I 0) M') (hq1 : (rc_vis a p).1 ≠ 0 → ∀ M', CI a kp h o M' → FrC M M' → Q (I (rc_vis a p).1) M') : T_L_addVisitor Q 0 p 1592 M := by
  have hlt := rc_vis_lt (a := a) (p := p)
  unfold T_L_addVisitor
  refine ⟨kn_0, K_addVisitor hG hC ?_⟩
  exact outc_ok (by omega) (fun _ M9 q => by first | exact ⟨rfl, q⟩ | exact Or.inl ⟨rfl, q⟩ | exact Or.inr ⟨rfl, q⟩ | exact Or.inr (Or.inl ⟨rfl, q⟩) | exact Or.inr (Or.inr ⟨rfl, q⟩)) (fun _ M9 q => by first | exact ⟨rfl, q⟩ | exact Or.inl ⟨rfl, q⟩ | exact Or.inr ⟨rfl, q⟩ | exact Or.inr (Or.inl ⟨rfl, q⟩) | exact Or.inr (Or.inr ⟨rfl, q⟩)) (fun e => by have := hlt; omega) hq0 hq1 hC

theorem rc_rom_lt {p q : Int32} {b : Nat} : (rc_rom a p q b).1 < 3 := by
  unfold rc_rom
  repeat' split
  all_goals first | decide | omega
theorem rc_rom_GS (hG : GS a) {p q : Int32} {b : Nat} (hb2 : b < 2) (h0 : (rc_rom a p q b).1 = 0) : GS (rc_rom a p q b).2.2 := by
  unfold rc_rom at h0 ⊢
  by_cases c1 : isN p 4 ∧ 1 ≤ q.toInt ∧ q.toInt ≤ 3
  · rw [if_pos c1] at h0 ⊢
    by_cases c2 : a 3 = 6
    · rw [if_pos c2] at h0; cases h0
    · rw [if_neg c2]
      obtain ⟨s, rfl, hs1, hs3⟩ := seat_el c1.2
      exact GS_ad_rom hG (by have := hG.1.2.1.2.2.2.1; omega) (isN_0 c1.1) (by rw [tn_I (by omega)]; exact ⟨hs1, hs3⟩) hb2 (by decide)
  · rw [if_neg c1] at h0; cases h0
theorem L_addRoom (hG : GI a kp h o) (hC : CI a kp h o M) {p q : Int32} {b : Nat} (hb2 : b < 2) (hq0 : (rc_rom a p q b).1 = 0 → ∀ M', CI (rc_rom a p q b).2.2 (pkn kp) (phh kp h a) o M' → FrC M M' → M'.2.1 0 = Int32.toInt64 (rc_rom a p q b).2.1 → Q (I 0) M') (hq1 : (rc_rom a p q b).1 ≠ 0 → ∀ M', CI a kp h o M' → FrC M M' → Q (I (rc_rom a p q b).1) M') : T_L_addRoom Q 0 p q (I b) 1592 M := by
  have hlt := rc_rom_lt (a := a) (p := p) (q := q) (b := b)
  unfold T_L_addRoom
  refine ⟨kn_0, K_addRoom hG hC hb2 ?_⟩
  exact outc_ok (by omega) (fun _ M9 q => by first | exact ⟨rfl, q⟩ | exact Or.inl ⟨rfl, q⟩ | exact Or.inr ⟨rfl, q⟩ | exact Or.inr (Or.inl ⟨rfl, q⟩) | exact Or.inr (Or.inr ⟨rfl, q⟩)) (fun _ M9 q => by first | exact ⟨rfl, q⟩ | exact Or.inl ⟨rfl, q⟩ | exact Or.inr ⟨rfl, q⟩ | exact Or.inr (Or.inl ⟨rfl, q⟩) | exact Or.inr (Or.inr ⟨rfl, q⟩)) (fun e => by have := hlt; omega) hq0 hq1 hC

theorem rc_open_lt {p : Int32} {b : Nat} : (rc_open a p b).1 < 2 := by
  unfold rc_open
  repeat' split
  all_goals first | decide | omega
theorem rc_open_GS (hG : GS a) {p : Int32} {b : Nat} (hb2 : b < 2) (h0 : (rc_open a p b).1 = 0) : GS (rc_open a p b).2.2 := by
  unfold rc_open at h0 ⊢
  by_cases c1 : isN p (a 3)
  · rw [if_pos c1]
    have hr := isN_0 c1
    have h3 := hG.1.2.1.2.2.2.1
    show GS (opc a p.toNatClampNeg b).1
    unfold opc
    by_cases cb : b = 0
    · rw [if_pos cb]
      exact rhs_GS 224 _ 0 0 (GS_op hG (by omega) (by decide))
    · rw [if_neg cb]
      unfold opn
      have g := GS_op hG (r := p.toNatClampNeg) (x := 1) (by omega) (by decide)
      split
      · exact svs_GS6 g
      · exact g
  · rw [if_neg c1] at h0; cases h0
theorem L_setOpen (hG : GI a kp h o) (hC : CI a kp h o M) {p : Int32} {b : Nat} (hb2 : b < 2) (hq0 : (rc_open a p b).1 = 0 → ∀ M', CI (rc_open a p b).2.2 (pkn kp) (phh kp h a) o M' → FrC M M' → M'.2.1 0 = Int32.toInt64 (rc_open a p b).2.1 → Q (I 0) M') (hq1 : (rc_open a p b).1 ≠ 0 → ∀ M', CI a kp h o M' → FrC M M' → Q (I (rc_open a p b).1) M') : T_L_setOpen Q 0 p (I b) 1592 M := by
  have hlt := rc_open_lt (a := a) (p := p) (b := b)
  unfold T_L_setOpen
  refine ⟨kn_0, K_setOpen hG hC hb2 ?_⟩
  exact outc_ok (by omega) (fun _ M9 q => by first | exact ⟨rfl, q⟩ | exact Or.inl ⟨rfl, q⟩ | exact Or.inr ⟨rfl, q⟩ | exact Or.inr (Or.inl ⟨rfl, q⟩) | exact Or.inr (Or.inr ⟨rfl, q⟩)) (fun e => by have := hlt; omega) (fun e => by have := hlt; omega) hq0 hq1 hC

theorem rc_lvl_lt {p q : Int32} : (rc_lvl a p q).1 < 3 := by
  unfold rc_lvl
  repeat' split
  all_goals first | decide | omega
theorem rc_lvl_GS (hG : GS a) {p q : Int32} (h0 : (rc_lvl a p q).1 = 0) : GS (rc_lvl a p q).2.2 := by
  unfold rc_lvl at h0 ⊢
  by_cases c1 : isN p (a 1)
  · rw [if_pos c1] at h0 ⊢
    by_cases c2 : isN q 3
    · rw [if_pos c2]
      exact GS_lvl hG (isN_0 c1) (isN_0 c2)
    · rw [if_neg c2] at h0; cases h0
  · rw [if_neg c1] at h0; cases h0
theorem L_setLevel (hG : GI a kp h o) (hC : CI a kp h o M) {p q : Int32} (hq0 : (rc_lvl a p q).1 = 0 → ∀ M', CI (rc_lvl a p q).2.2 (pkn kp) (phh kp h a) o M' → FrC M M' → M'.2.1 0 = Int32.toInt64 (rc_lvl a p q).2.1 → Q (I 0) M') (hq1 : (rc_lvl a p q).1 ≠ 0 → ∀ M', CI a kp h o M' → FrC M M' → Q (I (rc_lvl a p q).1) M') : T_L_setLevel Q 0 p q 1592 M := by
  have hlt := rc_lvl_lt (a := a) (p := p) (q := q)
  unfold T_L_setLevel
  refine ⟨kn_0, K_setLevel hG hC ?_⟩
  exact outc_ok (by omega) (fun _ M9 q => by first | exact ⟨rfl, q⟩ | exact Or.inl ⟨rfl, q⟩ | exact Or.inr ⟨rfl, q⟩ | exact Or.inr (Or.inl ⟨rfl, q⟩) | exact Or.inr (Or.inr ⟨rfl, q⟩)) (fun _ M9 q => by first | exact ⟨rfl, q⟩ | exact Or.inl ⟨rfl, q⟩ | exact Or.inr ⟨rfl, q⟩ | exact Or.inr (Or.inl ⟨rfl, q⟩) | exact Or.inr (Or.inr ⟨rfl, q⟩)) (fun e => by have := hlt; omega) hq0 hq1 hC

theorem rc_move_lt {p q : Int32} : (rc_move a p q).1 < 3 := by
  have := fom_c (a := a) (p := p) (q := q)
  unfold rc_move
  split
  · show 0 < 3
    decide
  · show fom a p q < 3
    omega
theorem rc_move_GS (hG : GS a) {p q : Int32} (h0 : (rc_move a p q).1 = 0) : GS (rc_move a p q).2.2 := by
  unfold rc_move at h0 ⊢
  by_cases c1 : fom a p q = 0
  · rw [if_pos c1]
    obtain ⟨i, x, rfl, rfl, hi, hx⟩ := fom_0 c1
    have h1 := hG.1.2.1.2.1
    rw [tn_I (by omega), tn_I (by omega)]
    exact rhs_GS 224 _ 0 0 (GS_lv hG hi hx)
  · rw [if_neg c1] at h0; exact absurd h0 c1
theorem L_move (hG : GI a kp h o) (hC : CI a kp h o M) {p q : Int32} (hq0 : (rc_move a p q).1 = 0 → ∀ M', CI (rc_move a p q).2.2 (pkn kp) (phh kp h a) o M' → FrC M M' → M'.2.1 0 = Int32.toInt64 (rc_move a p q).2.1 → Q (I 0) M') (hq1 : (rc_move a p q).1 ≠ 0 → ∀ M', CI a kp h o M' → FrC M M' → Q (I (rc_move a p q).1) M') : T_L_move Q 0 p q 1592 M := by
  have hlt := rc_move_lt (a := a) (p := p) (q := q)
  unfold T_L_move
  refine ⟨kn_0, K_move hG hC ?_⟩
  exact outc_ok (by omega) (fun _ M9 q => by first | exact ⟨rfl, q⟩ | exact Or.inl ⟨rfl, q⟩ | exact Or.inr ⟨rfl, q⟩ | exact Or.inr (Or.inl ⟨rfl, q⟩) | exact Or.inr (Or.inr ⟨rfl, q⟩)) (fun _ M9 q => by first | exact ⟨rfl, q⟩ | exact Or.inl ⟨rfl, q⟩ | exact Or.inr ⟨rfl, q⟩ | exact Or.inr (Or.inl ⟨rfl, q⟩) | exact Or.inr (Or.inr ⟨rfl, q⟩)) (fun e => by have := hlt; omega) hq0 hq1 hC

theorem rc_conf_lt {p : Int32} {b : Nat} : (rc_conf a p b).1 < 2 := by
  unfold rc_conf
  repeat' split
  all_goals first | decide | omega
theorem rc_conf_GS (hG : GS a) {p : Int32} {b : Nat} (hb2 : b < 2) (h0 : (rc_conf a p b).1 = 0) : GS (rc_conf a p b).2.2 := by
  unfold rc_conf at h0 ⊢
  by_cases c1 : isN p (a 1)
  · rw [if_pos c1]
    have hr := isN_0 c1
    show GS (cnf a p.toNatClampNeg b).1
    unfold cnf
    by_cases cb : b = 0
    · rw [if_pos cb]
      exact GS_gl hG hr (by decide)
    · rw [if_neg cb]
      exact rhs_GS 224 _ 0 0 (GS_gl hG hr (by decide))
  · rw [if_neg c1] at h0; cases h0
theorem L_confine (hG : GI a kp h o) (hC : CI a kp h o M) {p : Int32} {b : Nat} (hb2 : b < 2) (hq0 : (rc_conf a p b).1 = 0 → ∀ M', CI (rc_conf a p b).2.2 (pkn kp) (phh kp h a) o M' → FrC M M' → M'.2.1 0 = Int32.toInt64 (rc_conf a p b).2.1 → Q (I 0) M') (hq1 : (rc_conf a p b).1 ≠ 0 → ∀ M', CI a kp h o M' → FrC M M' → Q (I (rc_conf a p b).1) M') : T_L_confine Q 0 p (I b) 1592 M := by
  have hlt := rc_conf_lt (a := a) (p := p) (b := b)
  unfold T_L_confine
  refine ⟨kn_0, K_confine hG hC hb2 ?_⟩
  exact outc_ok (by omega) (fun _ M9 q => by first | exact ⟨rfl, q⟩ | exact Or.inl ⟨rfl, q⟩ | exact Or.inr ⟨rfl, q⟩ | exact Or.inr (Or.inl ⟨rfl, q⟩) | exact Or.inr (Or.inr ⟨rfl, q⟩)) (fun e => by have := hlt; omega) (fun e => by have := hlt; omega) hq0 hq1 hC

theorem rc_set_lt {p q : Int32} : (rc_set a p q).1 < 3 := by
  unfold rc_set
  repeat' split
  all_goals first | decide | omega
theorem rc_set_GS (hG : GS a) {p q : Int32} (h0 : (rc_set a p q).1 = 0) : GS (rc_set a p q).2.2 := by
  unfold rc_set at h0 ⊢
  by_cases c1 : isN p 4
  · rw [if_pos c1] at h0 ⊢
    have hk := isN_0 c1
    by_cases c2 : isN q (if p.toNatClampNeg = 3 then 13 else 10)
    · rw [if_pos c2]
      have hx := isN_0 c2
      refine GS_set hG hk ?_
      by_cases c3 : p.toNatClampNeg = 3
      · rw [if_pos c3] at hx ⊢; omega
      · rw [if_neg c3] at hx ⊢; omega
    · rw [if_neg c2] at h0; cases h0
  · rw [if_neg c1] at h0; cases h0
theorem L_set (hG : GI a kp h o) (hC : CI a kp h o M) {p q : Int32} (hq0 : (rc_set a p q).1 = 0 → ∀ M', CI (rc_set a p q).2.2 (pkn kp) (phh kp h a) o M' → FrC M M' → M'.2.1 0 = Int32.toInt64 (rc_set a p q).2.1 → Q (I 0) M') (hq1 : (rc_set a p q).1 ≠ 0 → ∀ M', CI a kp h o M' → FrC M M' → Q (I (rc_set a p q).1) M') : T_L_set Q 0 p q 1592 M := by
  have hlt := rc_set_lt (a := a) (p := p) (q := q)
  unfold T_L_set
  refine ⟨kn_0, K_set hG hC ?_⟩
  exact outc_ok (by omega) (fun _ M9 q => by first | exact ⟨rfl, q⟩ | exact Or.inl ⟨rfl, q⟩ | exact Or.inr ⟨rfl, q⟩ | exact Or.inr (Or.inl ⟨rfl, q⟩) | exact Or.inr (Or.inr ⟨rfl, q⟩)) (fun _ M9 q => by first | exact ⟨rfl, q⟩ | exact Or.inl ⟨rfl, q⟩ | exact Or.inr ⟨rfl, q⟩ | exact Or.inr (Or.inl ⟨rfl, q⟩) | exact Or.inr (Or.inr ⟨rfl, q⟩)) (fun e => by have := hlt; omega) hq0 hq1 hC

theorem rc_pass_lt {p : Int32} : (rc_pass a p).1 < 3 := by
  unfold rc_pass
  repeat' split
  all_goals first | decide | omega
theorem rc_pass_GS (hG : GS a) {p : Int32} (h0 : (rc_pass a p).1 = 0) : GS (rc_pass a p).2.2 := by
  unfold rc_pass at h0 ⊢
  by_cases c1 : 1 ≤ p.toInt ∧ p.toInt ≤ 20
  · rw [if_pos c1] at h0 ⊢
    by_cases c2 : a 0 + p.toNatClampNeg ≤ 55
    · rw [if_pos c2]
      exact pas_GS hG c2
    · rw [if_neg c2] at h0; cases h0
  · rw [if_neg c1] at h0; cases h0
theorem L_pass (hG : GI a kp h o) (hC : CI a kp h o M) {p : Int32} (hq0 : (rc_pass a p).1 = 0 → ∀ M', CI (rc_pass a p).2.2 (pkn kp) (phh kp h a) o M' → FrC M M' → M'.2.1 0 = Int32.toInt64 (rc_pass a p).2.1 → Q (I 0) M') (hq1 : (rc_pass a p).1 ≠ 0 → ∀ M', CI a kp h o M' → FrC M M' → Q (I (rc_pass a p).1) M') : T_L_pass Q 0 p 1592 M := by
  have hlt := rc_pass_lt (a := a) (p := p)
  unfold T_L_pass
  refine ⟨kn_0, K_pass hG hC ?_⟩
  exact outc_ok (by omega) (fun _ M9 q => by first | exact ⟨rfl, q⟩ | exact Or.inl ⟨rfl, q⟩ | exact Or.inr ⟨rfl, q⟩ | exact Or.inr (Or.inl ⟨rfl, q⟩) | exact Or.inr (Or.inr ⟨rfl, q⟩)) (fun _ M9 q => by first | exact ⟨rfl, q⟩ | exact Or.inl ⟨rfl, q⟩ | exact Or.inr ⟨rfl, q⟩ | exact Or.inr (Or.inl ⟨rfl, q⟩) | exact Or.inr (Or.inr ⟨rfl, q⟩)) (fun e => by have := hlt; omega) hq0 hq1 hC

theorem rc_cancel_lt {p : Int32} : (rc_cancel a p).1 < 3 := by
  have := foc_c (a := a) (p := p)
  unfold rc_cancel
  split
  · show 0 < 3
    decide
  · show foc a p < 3
    omega
theorem rc_cancel_GS (hG : GS a) {p : Int32} (h0 : (rc_cancel a p).1 = 0) : GS (rc_cancel a p).2.2 := by
  unfold rc_cancel at h0 ⊢
  by_cases c1 : foc a p = 0
  · rw [if_pos c1]
    obtain ⟨v, rfl, hv, c2⟩ := foc_0 hG.1 c1
    have h4 := hG.1.2.1.2.2.2.2.1
    rw [tn_I (by omega)]
    exact svs_GS6 (GS_st2 hG (by omega))
  · rw [if_neg c1] at h0; exact absurd h0 c1
theorem L_cancel (hG : GI a kp h o) (hC : CI a kp h o M) {p : Int32} (hq0 : (rc_cancel a p).1 = 0 → ∀ M', CI (rc_cancel a p).2.2 (pkn kp) (phh kp h a) o M' → FrC M M' → M'.2.1 0 = Int32.toInt64 (rc_cancel a p).2.1 → Q (I 0) M') (hq1 : (rc_cancel a p).1 ≠ 0 → ∀ M', CI a kp h o M' → FrC M M' → Q (I (rc_cancel a p).1) M') : T_L_cancel Q 0 p 1592 M := by
  have hlt := rc_cancel_lt (a := a) (p := p)
  unfold T_L_cancel
  refine ⟨kn_0, K_cancel hG hC ?_⟩
  exact outc_ok (by omega) (fun _ M9 q => by first | exact ⟨rfl, q⟩ | exact Or.inl ⟨rfl, q⟩ | exact Or.inr ⟨rfl, q⟩ | exact Or.inr (Or.inl ⟨rfl, q⟩) | exact Or.inr (Or.inr ⟨rfl, q⟩)) (fun _ M9 q => by first | exact ⟨rfl, q⟩ | exact Or.inl ⟨rfl, q⟩ | exact Or.inr ⟨rfl, q⟩ | exact Or.inr (Or.inl ⟨rfl, q⟩) | exact Or.inr (Or.inr ⟨rfl, q⟩)) (fun e => by have := hlt; omega) hq0 hq1 hC

theorem rc_ban_lt {k i t x y : Int32} : (rc_ban a k i t x y).1 < 4 := by
  have := fbn_c (a := a) (k := k) (i := i) (t := t) (x := x) (y := y)
  unfold rc_ban
  split
  · show 0 < 4
    decide
  · exact this
theorem rc_ban_GS (hG : GS a) {k i t x y : Int32} (h0 : (rc_ban a k i t x y).1 = 0) : GS (rc_ban a k i t x y).2.2 := by
  unfold rc_ban at h0 ⊢
  by_cases c1 : fbn a k i t x y = 0
  · rw [if_pos c1]
    obtain ⟨kn, ib, n, c, d, rfl, rfl, rfl, rfl, rfl, h10, htn, hBn⟩ := fbn_0 hG.1 c1
    have h1 := hG.1.2.1.2.1
    have h4 := hG.1.2.1.2.2.2.2.1
    have hGa := GS_ad_ban hG h10 htn hBn
    rw [tn_I (by omega), tn_I (by omega), tn_I (by omega), tn_I (by omega), tn_I (by omega)]
    show GS (bnn a kn ib n c d).1
    unfold bnn
    split
    · exact pts_GS _ _ _ _ hGa
    · exact dbn_GS _ _ _ _ hGa (by omega)
  · rw [if_neg c1] at h0; exact absurd h0 c1
theorem L_ban (hG : GI a kp h o) (hC : CI a kp h o M) {k i t x y : Int32} (hq0 : (rc_ban a k i t x y).1 = 0 → ∀ M', CI (rc_ban a k i t x y).2.2 (pkn kp) (phh kp h a) o M' → FrC M M' → M'.2.1 0 = Int32.toInt64 (rc_ban a k i t x y).2.1 → Q (I 0) M') (hq1 : (rc_ban a k i t x y).1 ≠ 0 → ∀ M', CI a kp h o M' → FrC M M' → Q (I (rc_ban a k i t x y).1) M') : T_L_ban Q 0 k i t x y 1592 M := by
  have hlt := rc_ban_lt (a := a) (k := k) (i := i) (t := t) (x := x) (y := y)
  unfold T_L_ban
  refine ⟨kn_0, K_ban hG hC ?_⟩
  exact outc_ok (by omega) (fun _ M9 q => by first | exact ⟨rfl, q⟩ | exact Or.inl ⟨rfl, q⟩ | exact Or.inr ⟨rfl, q⟩ | exact Or.inr (Or.inl ⟨rfl, q⟩) | exact Or.inr (Or.inr ⟨rfl, q⟩)) (fun _ M9 q => by first | exact ⟨rfl, q⟩ | exact Or.inl ⟨rfl, q⟩ | exact Or.inr ⟨rfl, q⟩ | exact Or.inr (Or.inl ⟨rfl, q⟩) | exact Or.inr (Or.inr ⟨rfl, q⟩)) (fun _ M9 q => by first | exact ⟨rfl, q⟩ | exact Or.inl ⟨rfl, q⟩ | exact Or.inr ⟨rfl, q⟩ | exact Or.inr (Or.inl ⟨rfl, q⟩) | exact Or.inr (Or.inr ⟨rfl, q⟩)) hq0 hq1 hC

theorem rc_lift_lt {p : Int32} : (rc_lift a p).1 < 2 := by
  unfold rc_lift
  repeat' split
  all_goals first | decide | omega
theorem rc_lift_GS (hG : GS a) {p : Int32} (h0 : (rc_lift a p).1 = 0) : GS (rc_lift a p).2.2 := by
  unfold rc_lift at h0 ⊢
  by_cases c1 : isN p (a 5)
  · rw [if_pos c1]
    exact svs_GS6 (GS_drb hG (isN_0 c1))
  · rw [if_neg c1] at h0; cases h0
theorem L_lift (hG : GI a kp h o) (hC : CI a kp h o M) {p : Int32} (hq0 : (rc_lift a p).1 = 0 → ∀ M', CI (rc_lift a p).2.2 (pkn kp) (phh kp h a) o M' → FrC M M' → M'.2.1 0 = Int32.toInt64 (rc_lift a p).2.1 → Q (I 0) M') (hq1 : (rc_lift a p).1 ≠ 0 → ∀ M', CI a kp h o M' → FrC M M' → Q (I (rc_lift a p).1) M') : T_L_lift Q 0 p 1592 M := by
  have hlt := rc_lift_lt (a := a) (p := p)
  unfold T_L_lift
  refine ⟨kn_0, K_lift hG hC ?_⟩
  exact outc_ok (by omega) (fun _ M9 q => by first | exact ⟨rfl, q⟩ | exact Or.inl ⟨rfl, q⟩ | exact Or.inr ⟨rfl, q⟩ | exact Or.inr (Or.inl ⟨rfl, q⟩) | exact Or.inr (Or.inr ⟨rfl, q⟩)) (fun e => by have := hlt; omega) (fun e => by have := hlt; omega) hq0 hq1 hC

theorem rc_wish_lt {p s x y : Int32} : (rc_wish a p s x y).1 < 4 := by
  unfold rc_wish
  repeat' split
  all_goals first | decide | omega
theorem rc_wish_GS (hG : GS a) {p s x y : Int32} (h0 : (rc_wish a p s x y).1 = 0) : GS (rc_wish a p s x y).2.2 := by
  unfold rc_wish at h0 ⊢
  by_cases c1 : isN p (a 1)
  · rw [if_pos c1] at h0 ⊢
    by_cases c2 : isQ a s ∧ dOK x y ∧ (a 0 : Int) ≤ y.toInt
    · rw [if_pos c2] at h0 ⊢
      by_cases c3 : a 6 = 6
      · rw [if_pos c3] at h0; cases h0
      · rw [if_neg c3]
        have h2p := two_le hG.1.2.1.2.2.1
        have h6 := hG.1.2.1.2.2.2.2.2.2.1
        obtain ⟨z, rfl, hz, ez⟩ := isQ_el hG.1 c2.1
        obtain ⟨c, d, rfl, rfl, hcd, hd55⟩ := dOK_el c2.2.1
        rw [ez, tn_I (show c < 2147483648 by omega), tn_I (show d < 2147483648 by omega)]
        exact GS_ad_wis hG (by omega) (by omega) ⟨isN_0 c1, hz, hcd, hd55⟩
    · rw [if_neg c2] at h0; cases h0
  · rw [if_neg c1] at h0; cases h0
theorem L_wish (hG : GI a kp h o) (hC : CI a kp h o M) {p s x y : Int32} (hq0 : (rc_wish a p s x y).1 = 0 → ∀ M', CI (rc_wish a p s x y).2.2 (pkn kp) (phh kp h a) o M' → FrC M M' → M'.2.1 0 = Int32.toInt64 (rc_wish a p s x y).2.1 → Q (I 0) M') (hq1 : (rc_wish a p s x y).1 ≠ 0 → ∀ M', CI a kp h o M' → FrC M M' → Q (I (rc_wish a p s x y).1) M') : T_L_wish Q 0 p s x y 1592 M := by
  have hlt := rc_wish_lt (a := a) (p := p) (s := s) (x := x) (y := y)
  unfold T_L_wish
  refine ⟨kn_0, K_wish hG hC ?_⟩
  exact outc_ok (by omega) (fun _ M9 q => by first | exact ⟨rfl, q⟩ | exact Or.inl ⟨rfl, q⟩ | exact Or.inr ⟨rfl, q⟩ | exact Or.inr (Or.inl ⟨rfl, q⟩) | exact Or.inr (Or.inr ⟨rfl, q⟩)) (fun _ M9 q => by first | exact ⟨rfl, q⟩ | exact Or.inl ⟨rfl, q⟩ | exact Or.inr ⟨rfl, q⟩ | exact Or.inr (Or.inl ⟨rfl, q⟩) | exact Or.inr (Or.inr ⟨rfl, q⟩)) (fun _ M9 q => by first | exact ⟨rfl, q⟩ | exact Or.inl ⟨rfl, q⟩ | exact Or.inr ⟨rfl, q⟩ | exact Or.inr (Or.inl ⟨rfl, q⟩) | exact Or.inr (Or.inr ⟨rfl, q⟩)) hq0 hq1 hC
end La1

