/-! ===== FEED ===== -/
section Fe1
variable {M M' M1 : Mem} {a a' : Nat → Nat} {f f' : Nat → Int32} {kp : Nat} {h : Nat → Nat → Nat} {o : Oth} {Q : Int32 → Mem → Prop} {X : String → Mem → Prop}
theorem nar_char {u : Nat} (hu : u < 65536) : vp_nar .char (I u) = I u := by
  show (Int32.toUInt32 (I u)).toUInt16.toUInt32.toInt32 = I u
  apply Int32.toBitVec_inj.mp
  apply BitVec.eq_of_toNat_eq
  show (((BitVec.ofNat 32 u).setWidth 16).setWidth 32).toNat = (BitVec.ofNat 32 u).toNat
  rw [BitVec.toNat_setWidth, BitVec.toNat_setWidth, BitVec.toNat_ofNat]
  omega
theorem ch_el (x : Int32) : ∃ u, u < 65536 ∧ ((Int32.toUInt32 x) % 65536).toInt32 = I u := by
  refine ⟨x.toBitVec.toNat % 65536, by omega, ?_⟩
  apply Int32.toBitVec_inj.mp
  apply BitVec.eq_of_toNat_eq
  show (x.toBitVec % (65536 : BitVec 32)).toNat = (BitVec.ofNat 32 (x.toBitVec.toNat % 65536)).toNat
  rw [BitVec.toNat_umod, BitVec.toNat_ofNat]
  show x.toBitVec.toNat % 65536 = _
  omega
def fed (o : Oth) (u : Nat) : Oth := (o.1, (o.2.1.1 + 1, fun k => if k = o.2.1.1 then I u else o.2.1.2 k), o.2.2)
theorem GI_fed (hG : GI a kp h o) {u : Nat} (hu : u < 65536) (hn : o.2.1.1 ≠ 80) : GI a kp h (fed o u) := by
  obtain ⟨g1, g2, g3, g4, g5⟩ := hG
  refine ⟨g1, g2, g3, ⟨?_, fun k hk => ?_⟩, g5⟩
  · show o.2.1.1 + 1 ≤ 80
    have := g4.1
    omega
  · show isN (if k = o.2.1.1 then I u else o.2.1.2 k) 65536
    have hk' : k < o.2.1.1 + 1 := hk
    by_cases c : k = o.2.1.1
    · rw [if_pos c, isN_I (by omega)]; exact hu
    · rw [if_neg c]; exact g4.2 k (by omega)
theorem L_feed (hG : GI a kp h o) (hC : CI a kp h o M) {u : Nat} (hu : u < 65536) (h1 : o.2.1.1 = 80 → ∀ M', CI a kp h o M' → FrC M M' → Q (I 1) M')
    (h0 : o.2.1.1 ≠ 80 → ∀ M', CI a kp h (fed o u) M' → FrC M M' → M'.2.1 0 = Int32.toInt64 (I (o.2.1.1 + 1)) → Q (I 0) M') : T_L_feed Q 0 (I u) 1592 M := by
  have hC0 := hC
  obtain ⟨c1, ⟨sp, c2⟩, c3⟩ := hC
  have g4 := hG.2.2.2.1
  have hn := c3.2.1.1
  generalize hnn : o.2.1.1 = n at hn g4 h0 h1
  unfold T_L_feed
  refine ⟨kn_0, ?_⟩
  unfold T_X6_feed
  refine ⟨kn_0, by decide, ?_⟩
  rw [rn_0_7]
  unfold T_X5_isFull T_X5_isFull_14
  rw [hn, show (80 : Int32) = I 80 from rfl]
  by_cases c : n = 80
  · rw [if_neg (by rw [I_lt (by omega) (by decide)]; omega)]
    refine ⟨kn_1551, Or.inr rfl, ?_⟩
    dsimp only
    rw [if_neg (by decide)]
    exact ⟨rfl, h1 c M hC0 (fun _ _ => rfl)⟩
  · have hn80 : n < 80 := by have := g4.1; omega
    rw [if_pos (by rw [I_lt (by omega) (by decide)]; omega)]
    refine ⟨kn_1551, Or.inl rfl, ?_⟩
    dsimp only
    rw [if_pos rfl]
    unfold T_X5_append T_X5_append_29
    rw [hn, if_neg (by rw [show (80 : Int32) = I 80 from rfl, I_le (by decide) (by omega)]; omega)]
    refine ⟨kn_1551, ?_⟩
    rw [rn_1551_0, vp_I (by omega), tn_I (by omega), lnn_1552, nar_char hu]
    refine ⟨kn_1552, hn80, ?_⟩
    rintro M4 rfl
    rintro M5 rfl
    have e1 : (mset M 1552 n (I u)).1 1551 1 = I n := by rw [mset_ne (by decide), hn]
    rw [e1, I_1, I_add]
    refine ⟨kn_1551, ?_⟩
    rw [mset_v, if_pos rfl]
    refine LK_ok (h0 c (OL _ _) ?_ (fun i hi => ?_) OL_v)
    · refine ⟨c1.fr hG.1.1 (fun i i1 i2 => by show (mset (mset M 1552 n (I u)) 1551 1 (I (n + 1))).1 i = _; rw [mset_ne (by omega), mset_ne (by omega)]), ⟨sp, c2.fr (fun j hj => (hG.2.1 j hj).1) (fun i i1 i2 => by show (mset (mset M 1552 n (I u)) 1551 1 (I (n + 1))).1 i = _; rw [mset_ne (by omega), mset_ne (by omega)])⟩, ?_⟩
      have e : ∀ i, i ≠ 1551 → i ≠ 1552 → (mset (mset M 1552 n (I u)) 1551 1 (I (n + 1))).1 i = M.1 i := fun i i1 i2 => by rw [mset_ne i1, mset_ne i2]
      obtain ⟨x1, x2, x3⟩ := c3
      refine ⟨⟨x1.1.fr (fun i i1 i2 => by show (mset (mset M 1552 n (I u)) 1551 1 (I (n + 1))).1 i 1 = _; rw [e i (by omega) (by omega)]), ?_⟩, ⟨?_, fun k hk => ?_⟩, ⟨?_, fun k hk => ?_⟩⟩
      · have x12 := x1.2
        show match o.1 with | none => (mset (mset M 1552 n (I u)) 1551 1 (I (n + 1))).1 0 2 = I 0 | some s => (mset (mset M 1552 n (I u)) 1551 1 (I (n + 1))).1 0 2 = I 1 ∧ St 141 s (mset (mset M 1552 n (I u)) 1551 1 (I (n + 1)))
        cases hz : o.1 with
        | none => rw [hz] at x12; show (mset (mset M 1552 n (I u)) 1551 1 (I (n + 1))).1 0 2 = I 0; rw [e 0 (by decide) (by decide)]; exact x12
        | some s => rw [hz] at x12; exact ⟨by rw [e 0 (by decide) (by decide)]; exact x12.1, x12.2.fr (fun i i1 i2 => e i (by omega) (by omega)) (hG.2.2.1 s hz).1⟩
      · show (mset (mset M 1552 n (I u)) 1551 1 (I (n + 1))).1 1551 1 = I (o.2.1.1 + 1)
        rw [mset_v, if_pos rfl, hnn]
      · show (mset (mset M 1552 n (I u)) 1551 1 (I (n + 1))).1 1552 k = (if k = o.2.1.1 then I u else o.2.1.2 k)
        have hk' : k < o.2.1.1 + 1 := hk
        rw [mset_ne (by decide), mset_v, hnn]
        by_cases ck : k = n
        · rw [if_pos ck, if_pos ck]
        · rw [if_neg ck, if_neg ck]; exact x2.2 k (by omega)
      · show (mset (mset M 1552 n (I u)) 1551 1 (I (n + 1))).1 1546 2 = _
        rw [e 1546 (by decide) (by decide)]; exact x3.1
      · show (mset (mset M 1552 n (I u)) 1551 1 (I (n + 1))).1 (1548 + k) 0 = _ ∧ (mset (mset M 1552 n (I u)) 1551 1 (I (n + 1))).1 (1548 + k) 1 = _
        have g5 := hG.2.2.2.2
        have hk' : k < o.2.2.1 := hk
        rw [e (1548 + k) (by omega) (by omega)]; exact x3.2 k hk
    · show (mset (mset M 1552 n (I u)) 1551 1 (I (n + 1))).1 i = _
      rw [mset_ne (by omega), mset_ne (by omega)]
theorem R_feed (hG : GI a kp h o) (hR : RI a kp h o M) {u : Nat} (hu : u < 65536) (h1 : o.2.1.1 = 80 → ∀ M', RI a kp h o M' → FrR M M' → M'.1 1582 0 = I 1 → Q (I 0) M')
    (h0 : o.2.1.1 ≠ 80 → ∀ M', RI a kp h (fed o u) M' → FrR M M' → M'.1 1582 0 = I 0 → Q (I (o.2.1.1 + 1)) M') : T_X7_feed Q 1582 (I u) M := by
  have g4 := hG.2.2.2.1
  have x := hR.2.2
  have hn := x.2.1.1
  generalize hnn : o.2.1.1 = n at hn g4 h0 h1
  rw [RI_mm hR]
  unfold T_X7_feed
  refine ⟨by decide, ?_⟩
  rintro M2 rfl
  rw [I_0, mm_mf, mm_fa, updI_n (by decide), hn, show (80 : Int32) = I 80 from rfl]
  by_cases c : n = 80
  · rw [if_pos (by rw [c]), I_1, m_fails]
    exact h1 c _ (hR.fld (fun j j0 _ _ _ _ _ => by rw [updI_n j0, updI_n j0])) FrR_mm mmf0
  · have hn80 : n < 80 := by have := g4.1; omega
    rw [if_neg (by rw [I_eq (by omega) (by decide)]; exact c)]
    rw [rf77, vp_I (by omega), tn_I (by omega), ln77]
    refine ⟨of_eq_true kd77, hn80, ?_⟩
    rintro M5 rfl
    rw [ms_1587]
    rintro M6 rfl
    rw [mm_fa, updI_n (by decide), hn, I_1, I_add, mm_mf, mm_fa, updI_s]
    have hF : FrR M (mm (mset M 1587 n (I u)) a (updI (updI (M.1 1582) 0 (I 0)) 8 (I (n + 1)))) := ⟨rfl, fun i hi => by rw [mm_o (by omega) (by omega), mset_ne (by omega)]⟩
    refine h0 c _ ⟨rfl, hR.2.1.fr (by rw [o_1586, mset_ne (by decide)]) (show updI (updI (M.1 1582) 0 (I 0)) 8 (I (n + 1)) 5 = M.1 1582 5 by rw [updI_n (by decide), updI_n (by decide)]), ?_⟩ hF (show updI (updI (M.1 1582) 0 (I 0)) 8 (I (n + 1)) 0 = I 0 by rw [updI_n (by decide), updI_s])
    obtain ⟨x1, x2, x3⟩ := x
    have e6 : updI (updI (M.1 1582) 0 (I 0)) 8 (I (n + 1)) 6 = M.1 1582 6 := by rw [updI_n (by decide), updI_n (by decide)]
    have e8 : updI (updI (M.1 1582) 0 (I 0)) 8 (I (n + 1)) 8 = I (n + 1) := updI_s
    have e11 : updI (updI (M.1 1582) 0 (I 0)) 8 (I (n + 1)) 11 = M.1 1582 11 := by rw [updI_n (by decide), updI_n (by decide)]
    refine ⟨?_, ⟨?_, fun k hk => ?_⟩, ⟨e11.trans x3.1, fun k hk => ?_⟩⟩
    · show match o.1 with | none => updI (updI (M.1 1582) 0 (I 0)) 8 (I (n + 1)) 6 = I 0 | some s => updI (updI (M.1 1582) 0 (I 0)) 8 (I (n + 1)) 6 = I 1 ∧ ∀ k, k < 552 → (mm (mset M 1587 n (I u)) a (updI (updI (M.1 1582) 0 (I 0)) 8 (I (n + 1)))).1 1584 k = I (s k)
      cases hs : o.1 with
      | none => rw [hs] at x1; exact e6.trans x1
      | some s => rw [hs] at x1; exact ⟨e6.trans x1.1, fun k hk => by rw [o_1584, mset_ne (by decide)]; exact x1.2 k hk⟩
    · show updI (updI (M.1 1582) 0 (I 0)) 8 (I (n + 1)) 8 = I (o.2.1.1 + 1)
      rw [e8, hnn]
    · show (mm (mset M 1587 n (I u)) a (updI (updI (M.1 1582) 0 (I 0)) 8 (I (n + 1)))).1 1587 k = (if k = o.2.1.1 then I u else o.2.1.2 k)
      have hk' : k < o.2.1.1 + 1 := hk
      rw [o_1587, mset_v, hnn]
      by_cases ck : k = n
      · rw [if_pos ck, if_pos ck]
      · rw [if_neg ck, if_neg ck]; exact x2.2 k (by omega)
    · rw [o_1588, o_1589, mset_ne (by decide), mset_ne (by decide)]; exact x3.2 k hk
end Fe1

