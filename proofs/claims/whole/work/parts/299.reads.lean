/-! ===== THE READS, over what holds between calls ===== -/
section Rr1
variable {M M' : Mem} {a a' : Nat → Nat} {f : Nat → Int32} {kp : Nat} {h : Nat → Nat → Nat} {o : Oth} {Q : Int32 → Mem → Prop}
theorem out_ok {X : String → Mem → Prop} {E1 E2 E3 : String} {r : Nat × Int32} {M1 : Mem} (hr : r.1 < 4) (hx1 : r.1 = 1 → ∀ M9, Q 1 M9 → X E1 M9) (hx2 : r.1 = 2 → ∀ M9, Q 2 M9 → X E2 M9) (hx3 : r.1 = 3 → ∀ M9, Q 3 M9 → X E3 M9)
    (hq : ∀ M', CI a kp h o M' → FrC M M' → (r.1 = 0 → M'.2.1 0 = Int32.toInt64 r.2) → Q (I r.1) M') (hC : CI a kp h o M1) (hF : FrC M M1) :
    OUT (fun y3 M2 => (kd 1592 = 12) ∧ (vp_in 0 (ln 1592)) ∧ ∀ M6, M6 = (M2.1, vp_updL M2.2.1 (Int32.toNatClampNeg 0) (Int32.toInt64 y3), M2.2.2) → Q 0 M6) X E1 E2 E3 r M1 := by
  obtain ⟨k, v⟩ := r
  have hk : k = 0 ∨ k = 1 ∨ k = 2 ∨ k = 3 := by
    have : k < 4 := hr
    omega
  rcases hk with rfl | rfl | rfl | rfl
  · refine ⟨by decide, vp_1592, ?_⟩
    rintro M6 rfl
    exact hq (OL M1 v) hC hF (fun _ => OL_v)
  · exact hx1 rfl M1 (hq M1 hC hF (fun e => by cases e))
  · exact hx2 rfl M1 (hq M1 hC hF (fun e => by cases e))
  · exact hx3 rfl M1 (hq M1 hC hF (fun e => by cases e))
end Rr1
section Rr2
variable {M M' : Mem} {a a' : Nat → Nat} {f : Nat → Int32} {kp : Nat} {h : Nat → Nat → Nat} {o : Oth} {Q : Int32 → Mem → Prop} {X : String → Mem → Prop}
theorem k_orderedO (hV : VA a) (hC : Cz a M) {p q : Int32} (h : OUT Q X EI EN EN (rs_ordered a p q) M) : T_X6_ordered Q X 0 p q M := by
  refine k_ordered hV hC (fun v e => ?_) (fun e => ?_) (fun e => ?_)
  · rw [e] at h; exact h
  · unfold OUT at h; rw [e] at h; exact h
  · unfold OUT at h; rw [e] at h; exact h
theorem k_nextO (hG : GS a) (hC : Cz a M) {p : Int32} (h : OUT Q X EN EN EN (rs_next a p) M) : T_X6_next Q X 0 p M := by
  refine k_nextc hG hC (fun v e => ?_) (fun e => ?_)
  · rw [e] at h; exact h
  · unfold OUT at h; rw [e] at h; exact h

theorem rs_inmate_lt {p q : Int32} : (rs_inmate a p q).1 < 3 := by
  unfold rs_inmate
  repeat' split
  all_goals first | decide | omega
theorem L_inmate (hG : GI a kp h o) (hC : CI a kp h o M) {p q : Int32} (hq : ∀ M', CI a kp h o M' → FrC M M' → ((rs_inmate a p q).1 = 0 → M'.2.1 0 = Int32.toInt64 (rs_inmate a p q).2) → Q (I (rs_inmate a p q).1) M') : T_L_inmate Q 0 p q 1592 M := by
  have hlt := rs_inmate_lt (a := a) (p := p) (q := q)
  unfold T_L_inmate
  refine ⟨kn_0, k_inmate hG.1 hC.1 ?_⟩
  exact out_ok (by omega) (fun _ M9 q => by first | exact ⟨rfl, q⟩ | exact Or.inl ⟨rfl, q⟩ | exact Or.inr ⟨rfl, q⟩ | exact Or.inr (Or.inl ⟨rfl, q⟩) | exact Or.inr (Or.inr ⟨rfl, q⟩)) (fun _ M9 q => by first | exact ⟨rfl, q⟩ | exact Or.inl ⟨rfl, q⟩ | exact Or.inr ⟨rfl, q⟩ | exact Or.inr (Or.inl ⟨rfl, q⟩) | exact Or.inr (Or.inr ⟨rfl, q⟩)) (fun e => by have := hlt; omega) hq hC (fun _ _ => rfl)
theorem R_inmate (hG : GI a kp h o) (hR : RI a kp h o M) {p q : Int32} (hq : ∀ M', RI a kp h o M' → FrR M M' → M'.1 1582 0 = I (rs_inmate a p q).1 → Q (rs_inmate a p q).2 M') : T_X7_inmate Q 1582 p q M := by
  rw [RI_mm hR]
  exact m_inmate hG.1.1 (fun f' e0 ej => hq _ (hR.fld (fun j j0 _ _ _ _ _ => ej j j0)) FrR_mm e0)

theorem rs_room_lt {p q : Int32} : (rs_room a p q).1 < 3 := by
  unfold rs_room
  repeat' split
  all_goals first | decide | omega
theorem L_room (hG : GI a kp h o) (hC : CI a kp h o M) {p q : Int32} (hq : ∀ M', CI a kp h o M' → FrC M M' → ((rs_room a p q).1 = 0 → M'.2.1 0 = Int32.toInt64 (rs_room a p q).2) → Q (I (rs_room a p q).1) M') : T_L_room Q 0 p q 1592 M := by
  have hlt := rs_room_lt (a := a) (p := p) (q := q)
  unfold T_L_room
  refine ⟨kn_0, k_room hG.1.1 hC.1 ?_⟩
  exact out_ok (by omega) (fun _ M9 q => by first | exact ⟨rfl, q⟩ | exact Or.inl ⟨rfl, q⟩ | exact Or.inr ⟨rfl, q⟩ | exact Or.inr (Or.inl ⟨rfl, q⟩) | exact Or.inr (Or.inr ⟨rfl, q⟩)) (fun _ M9 q => by first | exact ⟨rfl, q⟩ | exact Or.inl ⟨rfl, q⟩ | exact Or.inr ⟨rfl, q⟩ | exact Or.inr (Or.inl ⟨rfl, q⟩) | exact Or.inr (Or.inr ⟨rfl, q⟩)) (fun e => by have := hlt; omega) hq hC (fun _ _ => rfl)
theorem R_room (hG : GI a kp h o) (hR : RI a kp h o M) {p q : Int32} (hq : ∀ M', RI a kp h o M' → FrR M M' → M'.1 1582 0 = I (rs_room a p q).1 → Q (rs_room a p q).2 M') : T_X7_room Q 1582 p q M := by
  rw [RI_mm hR]
  exact m_room hG.1.1 (fun f' e0 ej => hq _ (hR.fld (fun j j0 _ _ _ _ _ => ej j j0)) FrR_mm e0)

theorem rs_ordered_lt {p q : Int32} : (rs_ordered a p q).1 < 3 := by
  unfold rs_ordered
  repeat' split
  all_goals first | decide | omega
theorem L_ordered (hG : GI a kp h o) (hC : CI a kp h o M) {p q : Int32} (hq : ∀ M', CI a kp h o M' → FrC M M' → ((rs_ordered a p q).1 = 0 → M'.2.1 0 = Int32.toInt64 (rs_ordered a p q).2) → Q (I (rs_ordered a p q).1) M') : T_L_ordered Q 0 p q 1592 M := by
  have hlt := rs_ordered_lt (a := a) (p := p) (q := q)
  unfold T_L_ordered
  refine ⟨kn_0, k_orderedO hG.1.1 hC.1 ?_⟩
  exact out_ok (by omega) (fun _ M9 q => by first | exact ⟨rfl, q⟩ | exact Or.inl ⟨rfl, q⟩ | exact Or.inr ⟨rfl, q⟩ | exact Or.inr (Or.inl ⟨rfl, q⟩) | exact Or.inr (Or.inr ⟨rfl, q⟩)) (fun _ M9 q => by first | exact ⟨rfl, q⟩ | exact Or.inl ⟨rfl, q⟩ | exact Or.inr ⟨rfl, q⟩ | exact Or.inr (Or.inl ⟨rfl, q⟩) | exact Or.inr (Or.inr ⟨rfl, q⟩)) (fun e => by have := hlt; omega) hq hC (fun _ _ => rfl)
theorem R_ordered (hG : GI a kp h o) (hR : RI a kp h o M) {p q : Int32} (hq : ∀ M', RI a kp h o M' → FrR M M' → M'.1 1582 0 = I (rs_ordered a p q).1 → Q (rs_ordered a p q).2 M') : T_X7_ordered Q 1582 p q M := by
  rw [RI_mm hR]
  exact m_ordered hG.1.1 (fun f' e0 ej => hq _ (hR.fld (fun j j0 _ _ _ _ _ => ej j j0)) FrR_mm e0)

theorem rs_refusal_lt {p s d t : Int32} : (rs_refusal a p s d t).1 < 3 := by
  have := fob_c (a := a) (p := p) (s := s) (d := d) (t := t)
  unfold rs_refusal
  split
  · show 0 < 3
    decide
  · show fob a p s d t < 3
    omega
theorem L_refusal (hG : GI a kp h o) (hC : CI a kp h o M) {p s d t : Int32} (hq : ∀ M', CI a kp h o M' → FrC M M' → ((rs_refusal a p s d t).1 = 0 → M'.2.1 0 = Int32.toInt64 (rs_refusal a p s d t).2) → Q (I (rs_refusal a p s d t).1) M') : T_L_refusal Q 0 p s d t 1592 M := by
  have hlt := rs_refusal_lt (a := a) (p := p) (s := s) (d := d) (t := t)
  unfold T_L_refusal
  refine ⟨kn_0, k_refusal hG.1 hC.1 ?_⟩
  intro M1 c1 o1
  exact out_ok (by omega) (fun _ M9 q => by first | exact ⟨rfl, q⟩ | exact Or.inl ⟨rfl, q⟩ | exact Or.inr ⟨rfl, q⟩ | exact Or.inr (Or.inl ⟨rfl, q⟩) | exact Or.inr (Or.inr ⟨rfl, q⟩)) (fun _ M9 q => by first | exact ⟨rfl, q⟩ | exact Or.inl ⟨rfl, q⟩ | exact Or.inr ⟨rfl, q⟩ | exact Or.inr (Or.inl ⟨rfl, q⟩) | exact Or.inr (Or.inr ⟨rfl, q⟩)) (fun e => by have := hlt; omega) hq (hC.ot hG c1 o1) o1.frc
theorem R_refusal (hG : GI a kp h o) (hR : RI a kp h o M) {p s d t : Int32} (hq : ∀ M', RI a kp h o M' → FrR M M' → M'.1 1582 0 = I (rs_refusal a p s d t).1 → Q (rs_refusal a p s d t).2 M') : T_X7_refusal Q 1582 p s d t M := by
  rw [RI_mm hR]
  exact m_refusal hG.1.1 (fun f' e0 ej => hq _ (hR.fld (fun j j0 _ j13 j14 _ _ => ej j j0 j13 j14)) FrR_mm e0)

theorem rs_ff_lt {p s : Int32} : (rs_ff a p s).1 < 4 := by
  unfold rs_ff
  repeat' split
  all_goals first | decide | omega
theorem L_firstFree (hG : GI a kp h o) (hC : CI a kp h o M) {p s : Int32} (hq : ∀ M', CI a kp h o M' → FrC M M' → ((rs_ff a p s).1 = 0 → M'.2.1 0 = Int32.toInt64 (rs_ff a p s).2) → Q (I (rs_ff a p s).1) M') : T_L_firstFree Q 0 p s 1592 M := by
  have hlt := rs_ff_lt (a := a) (p := p) (s := s)
  unfold T_L_firstFree
  refine ⟨kn_0, k_ff hG.1 hC.1 ?_⟩
  intro M1 c1 o1
  exact out_ok (by omega) (fun _ M9 q => by first | exact ⟨rfl, q⟩ | exact Or.inl ⟨rfl, q⟩ | exact Or.inr ⟨rfl, q⟩ | exact Or.inr (Or.inl ⟨rfl, q⟩) | exact Or.inr (Or.inr ⟨rfl, q⟩)) (fun _ M9 q => by first | exact ⟨rfl, q⟩ | exact Or.inl ⟨rfl, q⟩ | exact Or.inr ⟨rfl, q⟩ | exact Or.inr (Or.inl ⟨rfl, q⟩) | exact Or.inr (Or.inr ⟨rfl, q⟩)) (fun _ M9 q => by first | exact ⟨rfl, q⟩ | exact Or.inl ⟨rfl, q⟩ | exact Or.inr ⟨rfl, q⟩ | exact Or.inr (Or.inl ⟨rfl, q⟩) | exact Or.inr (Or.inr ⟨rfl, q⟩)) hq (hC.ot hG c1 o1) o1.frc
theorem R_firstFree (hG : GI a kp h o) (hR : RI a kp h o M) {p s : Int32} (hq : ∀ M', RI a kp h o M' → FrR M M' → M'.1 1582 0 = I (rs_ff a p s).1 → Q (rs_ff a p s).2 M') : T_X7_firstFree Q 1582 p s M := by
  rw [RI_mm hR]
  exact m_ff hG.1.1 (fun f' e0 ej => hq _ (hR.fld (fun j j0 _ j13 j14 _ _ => ej j j0 j13 j14)) FrR_mm e0)

theorem rs_visit_lt {p q : Int32} : (rs_visit a p q).1 < 3 := by
  unfold rs_visit
  repeat' split
  all_goals first | decide | omega
theorem L_visit (hG : GI a kp h o) (hC : CI a kp h o M) {p q : Int32} (hq : ∀ M', CI a kp h o M' → FrC M M' → ((rs_visit a p q).1 = 0 → M'.2.1 0 = Int32.toInt64 (rs_visit a p q).2) → Q (I (rs_visit a p q).1) M') : T_L_visit Q 0 p q 1592 M := by
  have hlt := rs_visit_lt (a := a) (p := p) (q := q)
  unfold T_L_visit
  refine ⟨kn_0, k_visit hG.1.1 hC.1 ?_⟩
  exact out_ok (by omega) (fun _ M9 q => by first | exact ⟨rfl, q⟩ | exact Or.inl ⟨rfl, q⟩ | exact Or.inr ⟨rfl, q⟩ | exact Or.inr (Or.inl ⟨rfl, q⟩) | exact Or.inr (Or.inr ⟨rfl, q⟩)) (fun _ M9 q => by first | exact ⟨rfl, q⟩ | exact Or.inl ⟨rfl, q⟩ | exact Or.inr ⟨rfl, q⟩ | exact Or.inr (Or.inl ⟨rfl, q⟩) | exact Or.inr (Or.inr ⟨rfl, q⟩)) (fun e => by have := hlt; omega) hq hC (fun _ _ => rfl)
theorem R_visit (hG : GI a kp h o) (hR : RI a kp h o M) {p q : Int32} (hq : ∀ M', RI a kp h o M' → FrR M M' → M'.1 1582 0 = I (rs_visit a p q).1 → Q (rs_visit a p q).2 M') : T_X7_visit Q 1582 p q M := by
  rw [RI_mm hR]
  exact m_visit hG.1.1 (fun f' e0 ej => hq _ (hR.fld (fun j j0 _ _ _ _ _ => ej j j0)) FrR_mm e0)

theorem rs_next_lt {p : Int32} : (rs_next a p).1 < 2 := by
  unfold rs_next
  repeat' split
  all_goals first | decide | omega
theorem L_next (hG : GI a kp h o) (hC : CI a kp h o M) {p : Int32} (hq : ∀ M', CI a kp h o M' → FrC M M' → ((rs_next a p).1 = 0 → M'.2.1 0 = Int32.toInt64 (rs_next a p).2) → Q (I (rs_next a p).1) M') : T_L_next Q 0 p 1592 M := by
  have hlt := rs_next_lt (a := a) (p := p)
  unfold T_L_next
  refine ⟨kn_0, k_nextO hG.1 hC.1 ?_⟩
  exact out_ok (by omega) (fun _ M9 q => by first | exact ⟨rfl, q⟩ | exact Or.inl ⟨rfl, q⟩ | exact Or.inr ⟨rfl, q⟩ | exact Or.inr (Or.inl ⟨rfl, q⟩) | exact Or.inr (Or.inr ⟨rfl, q⟩)) (fun e => by have := hlt; omega) (fun e => by have := hlt; omega) hq hC (fun _ _ => rfl)
theorem R_next (hG : GI a kp h o) (hR : RI a kp h o M) {p : Int32} (hq : ∀ M', RI a kp h o M' → FrR M M' → M'.1 1582 0 = I (rs_next a p).1 → Q (rs_next a p).2 M') : T_X7_next Q 1582 p M := by
  rw [RI_mm hR]
  exact m_nextc hG.1 (fun f' e0 ej => hq _ (hR.fld (fun j j0 _ _ _ _ _ => ej j j0)) FrR_mm e0)

theorem rs_slot_lt {p q b : Int32} : (rs_slot a p q b).1 < 2 := by
  unfold rs_slot
  repeat' split
  all_goals first | decide | omega
theorem L_slot (hG : GI a kp h o) (hC : CI a kp h o M) {p q b : Int32} (hq : ∀ M', CI a kp h o M' → FrC M M' → ((rs_slot a p q b).1 = 0 → M'.2.1 0 = Int32.toInt64 (rs_slot a p q b).2) → Q (I (rs_slot a p q b).1) M') : T_L_slot Q 0 p q b 1592 M := by
  have hlt := rs_slot_lt (a := a) (p := p) (q := q) (b := b)
  unfold T_L_slot
  refine ⟨kn_0, k_slot hG.1 hC.1 ?_⟩
  intro M1 c1 o1
  exact out_ok (by omega) (fun _ M9 q => by first | exact ⟨rfl, q⟩ | exact Or.inl ⟨rfl, q⟩ | exact Or.inr ⟨rfl, q⟩ | exact Or.inr (Or.inl ⟨rfl, q⟩) | exact Or.inr (Or.inr ⟨rfl, q⟩)) (fun e => by have := hlt; omega) (fun e => by have := hlt; omega) hq (hC.ot hG c1 o1) o1.frc
theorem R_slot (hG : GI a kp h o) (hR : RI a kp h o M) {p q b : Int32} (hq : ∀ M', RI a kp h o M' → FrR M M' → M'.1 1582 0 = I (rs_slot a p q b).1 → Q (rs_slot a p q b).2 M') : T_X7_slot Q 1582 p q b M := by
  rw [RI_mm hR]
  exact m_slot hG.1.1 (fun f' e0 ej => hq _ (hR.fld (fun j j0 _ _ _ _ _ => ej j j0)) FrR_mm e0)

theorem rs_banned_lt {p q : Int32} : (rs_banned a p q).1 < 3 := by
  unfold rs_banned
  repeat' split
  all_goals first | decide | omega
theorem L_banned (hG : GI a kp h o) (hC : CI a kp h o M) {p q : Int32} (hq : ∀ M', CI a kp h o M' → FrC M M' → ((rs_banned a p q).1 = 0 → M'.2.1 0 = Int32.toInt64 (rs_banned a p q).2) → Q (I (rs_banned a p q).1) M') : T_L_banned Q 0 p q 1592 M := by
  have hlt := rs_banned_lt (a := a) (p := p) (q := q)
  unfold T_L_banned
  refine ⟨kn_0, k_banned hG.1.1 hC.1 ?_⟩
  exact out_ok (by omega) (fun _ M9 q => by first | exact ⟨rfl, q⟩ | exact Or.inl ⟨rfl, q⟩ | exact Or.inr ⟨rfl, q⟩ | exact Or.inr (Or.inl ⟨rfl, q⟩) | exact Or.inr (Or.inr ⟨rfl, q⟩)) (fun _ M9 q => by first | exact ⟨rfl, q⟩ | exact Or.inl ⟨rfl, q⟩ | exact Or.inr ⟨rfl, q⟩ | exact Or.inr (Or.inl ⟨rfl, q⟩) | exact Or.inr (Or.inr ⟨rfl, q⟩)) (fun e => by have := hlt; omega) hq hC (fun _ _ => rfl)
theorem R_banned (hG : GI a kp h o) (hR : RI a kp h o M) {p q : Int32} (hq : ∀ M', RI a kp h o M' → FrR M M' → M'.1 1582 0 = I (rs_banned a p q).1 → Q (rs_banned a p q).2 M') : T_X7_banned Q 1582 p q M := by
  rw [RI_mm hR]
  exact m_banned hG.1.1 (fun f' e0 ej => hq _ (hR.fld (fun j j0 _ _ _ _ _ => ej j j0)) FrR_mm e0)

theorem rs_wished_lt {p q : Int32} : (rs_wished a p q).1 < 3 := by
  unfold rs_wished
  repeat' split
  all_goals first | decide | omega
theorem L_wished (hG : GI a kp h o) (hC : CI a kp h o M) {p q : Int32} (hq : ∀ M', CI a kp h o M' → FrC M M' → ((rs_wished a p q).1 = 0 → M'.2.1 0 = Int32.toInt64 (rs_wished a p q).2) → Q (I (rs_wished a p q).1) M') : T_L_wished Q 0 p q 1592 M := by
  have hlt := rs_wished_lt (a := a) (p := p) (q := q)
  unfold T_L_wished
  refine ⟨kn_0, k_wished hG.1.1 hC.1 ?_⟩
  exact out_ok (by omega) (fun _ M9 q => by first | exact ⟨rfl, q⟩ | exact Or.inl ⟨rfl, q⟩ | exact Or.inr ⟨rfl, q⟩ | exact Or.inr (Or.inl ⟨rfl, q⟩) | exact Or.inr (Or.inr ⟨rfl, q⟩)) (fun _ M9 q => by first | exact ⟨rfl, q⟩ | exact Or.inl ⟨rfl, q⟩ | exact Or.inr ⟨rfl, q⟩ | exact Or.inr (Or.inl ⟨rfl, q⟩) | exact Or.inr (Or.inr ⟨rfl, q⟩)) (fun e => by have := hlt; omega) hq hC (fun _ _ => rfl)
theorem R_wished (hG : GI a kp h o) (hR : RI a kp h o M) {p q : Int32} (hq : ∀ M', RI a kp h o M' → FrR M M' → M'.1 1582 0 = I (rs_wished a p q).1 → Q (rs_wished a p q).2 M') : T_X7_wished Q 1582 p q M := by
  rw [RI_mm hR]
  exact m_wished hG.1.1 (fun f' e0 ej => hq _ (hR.fld (fun j j0 _ _ _ _ _ => ej j j0)) FrR_mm e0)

theorem rs_account_lt {p : Int32} : (rs_account a p).1 < 2 := by
  unfold rs_account
  repeat' split
  all_goals first | decide | omega
theorem L_account (hG : GI a kp h o) (hC : CI a kp h o M) {p : Int32} (hq : ∀ M', CI a kp h o M' → FrC M M' → ((rs_account a p).1 = 0 → M'.2.1 0 = Int32.toInt64 (rs_account a p).2) → Q (I (rs_account a p).1) M') : T_L_account Q 0 p 1592 M := by
  have hlt := rs_account_lt (a := a) (p := p)
  unfold T_L_account
  refine ⟨kn_0, k_account hG.1.1 hC.1 ?_⟩
  exact out_ok (by omega) (fun _ M9 q => by first | exact ⟨rfl, q⟩ | exact Or.inl ⟨rfl, q⟩ | exact Or.inr ⟨rfl, q⟩ | exact Or.inr (Or.inl ⟨rfl, q⟩) | exact Or.inr (Or.inr ⟨rfl, q⟩)) (fun e => by have := hlt; omega) (fun e => by have := hlt; omega) hq hC (fun _ _ => rfl)
theorem R_account (hG : GI a kp h o) (hR : RI a kp h o M) {p : Int32} (hq : ∀ M', RI a kp h o M' → FrR M M' → M'.1 1582 0 = I (rs_account a p).1 → Q (rs_account a p).2 M') : T_X7_account Q 1582 p M := by
  rw [RI_mm hR]
  exact m_account hG.1.1 (fun f' e0 ej => hq _ (hR.fld (fun j j0 _ _ _ _ _ => ej j j0)) FrR_mm e0)

theorem rs_notice_lt {p : Int32} {b : Nat} : (rs_notice a p b).1 < 2 := by
  unfold rs_notice
  repeat' split
  all_goals first | decide | omega
theorem L_notice (hG : GI a kp h o) (hC : CI a kp h o M) {p : Int32} {b : Nat} (hb2 : b < 2) (hq : ∀ M', CI a kp h o M' → FrC M M' → ((rs_notice a p b).1 = 0 → M'.2.1 0 = Int32.toInt64 (rs_notice a p b).2) → Q (I (rs_notice a p b).1) M') : T_L_notice Q 0 p (I b) 1592 M := by
  have hlt := rs_notice_lt (a := a) (p := p) (b := b)
  unfold T_L_notice
  refine ⟨kn_0, k_notice hG.1.1 hC.1 hb2 ?_⟩
  exact out_ok (by omega) (fun _ M9 q => by first | exact ⟨rfl, q⟩ | exact Or.inl ⟨rfl, q⟩ | exact Or.inr ⟨rfl, q⟩ | exact Or.inr (Or.inl ⟨rfl, q⟩) | exact Or.inr (Or.inr ⟨rfl, q⟩)) (fun e => by have := hlt; omega) (fun e => by have := hlt; omega) hq hC (fun _ _ => rfl)
theorem R_notice (hG : GI a kp h o) (hR : RI a kp h o M) {p : Int32} {b : Nat} (hb2 : b < 2) (hq : ∀ M', RI a kp h o M' → FrR M M' → M'.1 1582 0 = I (rs_notice a p b).1 → Q (rs_notice a p b).2 M') : T_X7_notice Q 1582 p (I b) M := by
  rw [RI_mm hR]
  exact m_notice hG.1.1 hb2 (fun f' e0 ej => hq _ (hR.fld (fun j j0 _ _ _ _ _ => ej j j0)) FrR_mm e0)
end Rr2

