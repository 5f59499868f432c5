/-! ===== A STEP OF THE LAW, AND ITS START ===== -/
theorem ite_pr {c : Prop} [Decidable c] {A B : Prop} (hA : A) (hB : B) : if c then A else B := by
  by_cases q : c
  · rw [if_pos q]; exact hA
  · rw [if_neg q]; exact hB
theorem law_step {κ : Nat → Nat → Nat → Nat → Int32 → Mem → Prop} {i sl : Nat} {xs : Nat → Int32} {M : Mem} (h : LawInv M) (hL : sl ≤ 3072) (hi : i ≤ 3072 + 6) (k : i + 6 ≤ sl → ∀ M', LawInv M' → κ 0 1582 1592 1593 (I (i + 6)) M') : T_L_law_28 κ (fun r _ => r = 1) sl xs 0 1582 1592 1593 (I i) M := by
  unfold T_L_law_28
  by_cases c : Int32.ofNat sl - 6 < I i
  · rw [if_pos c]
    exact ⟨Or.inr rfl, rfl⟩
  · rw [if_neg c]
    have hx : i + 6 ≤ sl := by
      have e : (I sl - I 6).toInt = (sl : Int) - 6 := by
        rw [Int32.toInt_sub, ti_I (by omega), ti_I (by decide)]
        exact Int.bmod_eq_of_le (by omega) (by omega)
      have c' : ¬ I sl - I 6 < I i := c
      rw [lt_ti, e, ti_I (by omega)] at c'
      omega
    refine ⟨by rw [vp_I (by omega)]; omega, ?_⟩
    rintro x2 rfl
    exact ite_pr (Lw_196 h hL hx (k hx)) (ite_pr (Lw_264 h hL hx (k hx)) (ite_pr (Lw_320 h hL hx (k hx)) (ite_pr (Lw_416 h hL hx (k hx)) (ite_pr (Lw_500 h hL hx (k hx)) (ite_pr (Lw_568 h hL hx (k hx)) (ite_pr (Lw_636 h hL hx (k hx)) (ite_pr (Lw_720 h hL hx (k hx)) (ite_pr (Lw_788 h hL hx (k hx)) (ite_pr (Lw_856 h hL hx (k hx)) (ite_pr (Lw_924 h hL hx (k hx)) (ite_pr (Lw_992 h hL hx (k hx)) (ite_pr (Lw_1084 h hL hx (k hx)) (ite_pr (Lw_1140 h hL hx (k hx)) (ite_pr (Lw_1232 h hL hx (k hx)) (ite_pr (Lw_1300 h hL hx (k hx)) (ite_pr (Lw_1368 h hL hx (k hx)) (ite_pr (Lw_1424 h hL hx (k hx)) (ite_pr (Lw_1520 h hL hx (k hx)) (ite_pr (Lw_1576 h hL hx (k hx)) (ite_pr (Lw_1680 h hL hx (k hx)) (ite_pr (Lw_1736 h hL hx (k hx)) (ite_pr (Lw_1804 h hL hx (k hx)) (ite_pr (Lw_1896 h hL hx (k hx)) (ite_pr (Lw_1964 h hL hx (k hx)) (ite_pr (Lw_2048 h hL hx (k hx)) (ite_pr (Lw_2132 h hL hx (k hx)) (ite_pr (Lw_2188 h hL hx (k hx)) (ite_pr (Lw_2253 h hL hx (k hx)) (ite_pr (Lw_2331 h hL hx (k hx)) (ite_pr (Lw_2389 h hL hx (k hx)) (ite_pr (Lw_2433 h hL hx (k hx)) (ite_pr (Lw_2477 h hL hx (k hx)) (ite_pr (Lw_2490 h hL hx (k hx)) (dn (k hx) h))))))))))))))))))))))))))))))))))
/-- the numbers of a new desk -/
def aZ (k : Nat) : Nat := if k = 8 then 1 else if k = 9 then 2 else if k = 10 then 3 else if k = 11 then 4 else 0
theorem aZ_b (k : Nat) : aZ k < 4096 := by
  unfold aZ
  repeat' split
  all_goals decide
theorem GS_aZ : GS aZ := by
  refine ⟨⟨aZ_b, by decide, fun i hi => absurd hi (Nat.not_lt_zero i), fun i hi => absurd hi (Nat.not_lt_zero i), fun i hi => absurd hi (Nat.not_lt_zero i), fun i hi => absurd hi (Nat.not_lt_zero i), fun i hi => absurd hi (Nat.not_lt_zero i), fun i hi => absurd hi (Nat.not_lt_zero i)⟩, fun v w hv => absurd hv (Nat.not_lt_zero v), fun v hv => absurd hv (Nat.not_lt_zero v), fun i _ _ => ?_⟩
  unfold aZ
  rw [if_neg (by omega), if_neg (by omega), if_neg (by omega), if_neg (by omega)]
section In1
variable {M : Mem}
theorem ini_S {b : Nat} (hb : SB b) {o : Nat} (ho : o < 140) : ini (b + o) = iniS o := by
  unfold ini
  rcases hb with rfl | rfl | ⟨p, hp, rfl⟩
  · rw [if_neg (by omega), if_pos (by omega), show (1 + o - 1) % 140 = o by omega]
  · rw [if_neg (by omega), if_pos (by omega), show (141 + o - 1) % 140 = o by omega]
  · rw [if_neg (by omega), if_neg (by omega), if_neg (by omega), if_pos (by omega), show (283 + 140 * p + o - 283) % 140 = o by omega]
theorem Wd_ini {b : Nat} (hb : ∀ o, o < 140 → M.1 (b + o) = iniS o) : Wd b M :=
  ⟨by rw [hb 2 (by decide)]; rfl, by rw [hb 14 (by decide)]; rfl, by rw [hb 28 (by decide)]; rfl, by rw [hb 36 (by decide)]; rfl, by rw [hb 98 (by decide)]; rfl, by rw [hb 110 (by decide)]; rfl, by rw [hb 118 (by decide)]; rfl⟩
theorem St_ini {b : Nat} (hb : ∀ o, o < 140 → M.1 (b + o) = iniS o) : St b aZ M := by
  refine ⟨by rw [← Nat.add_zero b, hb 0 (by decide)]; rfl, fun k hk => ?_, ⟨by rw [hb 2 (by decide)]; rfl, fun i hi => absurd hi (Nat.not_lt_zero i)⟩, ⟨by rw [hb 14 (by decide)]; rfl, fun i hi => absurd hi (Nat.not_lt_zero i)⟩, ⟨by rw [hb 28 (by decide)]; rfl, fun i hi => absurd hi (Nat.not_lt_zero i)⟩, ⟨by rw [hb 36 (by decide)]; rfl, fun i hi => absurd hi (Nat.not_lt_zero i)⟩, ⟨by rw [hb 98 (by decide)]; rfl, fun i hi => absurd hi (Nat.not_lt_zero i)⟩, ⟨by rw [hb 110 (by decide)]; rfl, fun i hi => absurd hi (Nat.not_lt_zero i)⟩, ⟨by rw [hb 118 (by decide)]; rfl, fun i hi => absurd hi (Nat.not_lt_zero i)⟩⟩
  rw [hb 1 (by decide)]
  have : k = 0 ∨ k = 1 ∨ k = 2 ∨ k = 3 := by omega
  rcases this with rfl | rfl | rfl | rfl <;> rfl
theorem law_init (h : ∀ i, i < 1594 → M.1 i = ini i) : LawInv M := by
  have hS : ∀ b, SB b → ∀ o, o < 140 → M.1 (b + o) = iniS o := fun b hb o ho => by
    rw [h (b + o) (by rcases hb with rfl | rfl | ⟨p, hp, rfl⟩ <;> omega), ini_S hb ho]
  have no : ∀ {P : Prop} (j : Nat), j < 0 → P := fun j hj => absurd hj (Nat.not_lt_zero j)
  have z0 : M.1 0 = zF := by rw [h 0 (by decide)]; rfl
  have z281 : M.1 281 = zF := by rw [h 281 (by decide)]; rfl
  have z1546 : M.1 1546 = tI 2 := by rw [h 1546 (by decide)]; rfl
  have z1551 : M.1 1551 = zF := by rw [h 1551 (by decide)]; rfl
  have z1582 : M.1 1582 = zF := by rw [h 1582 (by decide)]; rfl
  refine ⟨aZ, 0, fun _ => aZ, (none, (0, fun _ => 0), (0, fun _ => 0, fun _ => 0)), ⟨GS_aZ, fun j hj => no j hj, (fun s hs => by cases hs), ⟨Nat.zero_le _, fun j hj => no j hj⟩, Nat.zero_le _⟩, ⟨⟨St_ini (hS 1 (Or.inl rfl)), Wd_ini (hS 1 (Or.inl rfl))⟩, ⟨0, by decide, by decide, by rw [z281]; rfl, by rw [z281]; rfl, fun p hp => Wd_ini (hS _ (Or.inr (Or.inr ⟨p, hp, rfl⟩))), fun j hj => no j hj⟩, ⟨Wd_ini (hS 141 (Or.inr (Or.inl rfl))), ?_⟩, ⟨?_, fun j hj => no j hj⟩, ⟨?_, fun j hj => no j hj⟩⟩, ⟨?_, ⟨by decide, by rw [z1582]; rfl, fun j hj => no j hj⟩, ?_, ⟨?_, fun j hj => no j hj⟩, ⟨?_, fun j hj => no j hj⟩⟩⟩
  · show M.1 0 2 = I 0
    rw [z0]; rfl
  · show M.1 1551 1 = I 0
    rw [z1551]; rfl
  · show M.1 1546 2 = I 0
    rw [z1546]; rfl
  · rw [h 1583 (by decide)]
    funext k
    show (if k = 8 then (1 : Int32) else if k = 9 then 2 else if k = 10 then 3 else if k = 11 then 4 else 0) = I (if k = 8 then 1 else if k = 9 then 2 else if k = 10 then 3 else if k = 11 then 4 else 0)
    repeat' split
    all_goals rfl
  · show M.1 1582 6 = I 0
    rw [z1582]; rfl
  · show M.1 1582 8 = I 0
    rw [z1582]; rfl
  · show M.1 1582 11 = I 0
    rw [z1582]; rfl
end In1

