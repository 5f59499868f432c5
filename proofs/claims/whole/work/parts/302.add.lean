/-! ===== ROWS ARE ADDED ===== -/
section Ad2
variable {M : Mem} {a : Nat → Nat} {f : Nat → Int32}
def ad_inm (a : Nat → Nat) (x0 x1 : Nat) : Nat → Nat := updN (updN (updN (a) (12 + a 1) x0) (22 + a 1) x1) 1 (a 1 + 1)
theorem ad_inm_n {x0 x1 k : Nat} (hk : k ≠ 1 ∧ k ≠ 12 + a 1 ∧ k ≠ 22 + a 1) : ad_inm a x0 x1 k = a k := by
  unfold ad_inm
  rw [updN_n hk.1, updN_n hk.2.2, updN_n hk.2.1]
theorem ad_inm_c {x0 x1 : Nat} : ad_inm a x0 x1 1 = a 1 + 1 := updN_s
theorem ad_inm_v0 {x0 x1 : Nat} (hn : a 1 ≤ 10) : ad_inm a x0 x1 (12 + a 1) = x0 := by
  unfold ad_inm
  rw [updN_n (by omega), updN_n (by omega), updN_s]
theorem ad_inm_v1 {x0 x1 : Nat} (hn : a 1 ≤ 10) : ad_inm a x0 x1 (22 + a 1) = x1 := by
  unfold ad_inm
  rw [updN_n (by omega), updN_s]
theorem kad_inm (hV : VA a) (hC : Cz a M) (hn : a 1 < 10) (hf2 : a (32 + a 1) = 0) {x0 x1 : Nat} : Cz (ad_inm a x0 x1) (mset (mset (mset (mset M 3 2 (I (a 1 + 1))) (3 + 2 + a 1) 0 (I x0)) (3 + 2 + a 1) 1 (I x1)) (3 + 2 + a 1) 2 (I 0)) ∧ Ot M (mset (mset (mset (mset M 3 2 (I (a 1 + 1))) (3 + 2 + a 1) 0 (I x0)) (3 + 2 + a 1) 1 (I x1)) (3 + 2 + a 1) 2 (I 0)) := by
  generalize hM : mset (mset (mset (mset M 3 2 (I (a 1 + 1))) (3 + 2 + a 1) 0 (I x0)) (3 + 2 + a 1) 1 (I x1)) (3 + 2 + a 1) 2 (I 0) = M'
  refine ⟨⟨?_, ?_⟩, ?_⟩
  · refine hC.1.up_i hV (fun i h1 h2 h3 => ?_) (fun k h1 h2 => ad_inm_n (by omega)) ⟨?_, fun j hj c hc => ?_⟩
    · subst hM; rw [mset_ne (by omega), mset_ne (by omega), mset_ne (by omega), mset_ne (by omega)]
    · subst hM; rw [mset_ne (by omega), mset_ne (by omega), mset_ne (by omega), mset_v, if_pos rfl, ad_inm_c]
    · rw [ad_inm_c] at hj
      rw [show 1 + 4 + j = 3 + 2 + j by omega]
      by_cases q : j = a 1
      · subst q
        subst hM
        have hcc : c = 0 ∨ c = 1 ∨ c = 2 := by omega
        rcases hcc with rfl | rfl | rfl
        · rw [mset_v, if_neg (by decide), mset_v, if_neg (by decide), mset_v, if_pos rfl]; exact congrArg I ((congrArg (ad_inm a x0 x1) (show 12 + 10 * 0 + a 1 = 12 + a 1 by omega)).trans (ad_inm_v0 (Nat.le_of_lt hn))).symm
        · rw [mset_v, if_neg (by decide), mset_v, if_pos rfl]; exact congrArg I ((congrArg (ad_inm a x0 x1) (show 12 + 10 * 1 + a 1 = 22 + a 1 by omega)).trans (ad_inm_v1 (Nat.le_of_lt hn))).symm
        · rw [mset_v, if_pos rfl]; rw [show 12 + 10 * 2 + a 1 = 32 + a 1 by omega, ad_inm_n (by omega), hf2]
      · rw [ad_inm_n (by omega)]
        have := hC.1.2.2.1.2 j (by omega) c hc
        rw [show 1 + 4 + j = 3 + 2 + j by omega] at this
        rw [← this]
        subst hM
        rw [mset_ne (by omega), mset_ne (by omega), mset_ne (by omega), mset_ne (by omega)]
  · subst hM
    exact ((((hC.2.set (Or.inl (by decide))).set (Or.inr (fun o ho => by omega))).set (Or.inr (fun o ho => by omega))).set (Or.inr (fun o ho => by omega)))
  · subst hM
    exact ((((Ot.set (Or.inl (by omega))).trans (Ot.set (Or.inl (by omega)))).trans (Ot.set (Or.inl (by omega)))).trans (Ot.set (Or.inl (by omega))))
def ad_vis (a : Nat → Nat) (x0 : Nat) : Nat → Nat := updN (updN (a) (42 + a 2) x0) 2 (a 2 + 1)
theorem ad_vis_n {x0 k : Nat} (hk : k ≠ 2 ∧ k ≠ 42 + a 2) : ad_vis a x0 k = a k := by
  unfold ad_vis
  rw [updN_n hk.1, updN_n hk.2]
theorem ad_vis_c {x0 : Nat} : ad_vis a x0 2 = a 2 + 1 := updN_s
theorem ad_vis_v0 {x0 : Nat} (hn : a 2 ≤ 12) : ad_vis a x0 (42 + a 2) = x0 := by
  unfold ad_vis
  rw [updN_n (by omega), updN_s]
theorem kad_vis (hV : VA a) (hC : Cz a M) (hn : a 2 < 12)  {x0 : Nat} : Cz (ad_vis a x0) (mset (mset M 15 2 (I (a 2 + 1))) (15 + 2 + a 2) 0 (I x0)) ∧ Ot M (mset (mset M 15 2 (I (a 2 + 1))) (15 + 2 + a 2) 0 (I x0)) := by
  generalize hM : mset (mset M 15 2 (I (a 2 + 1))) (15 + 2 + a 2) 0 (I x0) = M'
  refine ⟨⟨?_, ?_⟩, ?_⟩
  · refine hC.1.up_k hV (fun i h1 h2 h3 => ?_) (fun k h1 h2 => ad_vis_n (by omega)) ⟨?_, fun j hj  => ?_⟩
    · subst hM; rw [mset_ne (by omega), mset_ne (by omega)]
    · subst hM; rw [mset_ne (by omega), mset_v, if_pos rfl, ad_vis_c]
    · rw [ad_vis_c] at hj
      rw [show 1 + 16 + j = 15 + 2 + j by omega]
      by_cases q : j = a 2
      · subst q
        subst hM
        rw [mset_v, if_pos rfl]; exact congrArg I ((congrArg (ad_vis a x0) (show 42 + a 2 = 42 + a 2 by omega)).trans (ad_vis_v0 (Nat.le_of_lt hn))).symm
      · rw [ad_vis_n (by omega)]
        have := hC.1.2.2.2.1.2 j (by omega)
        rw [show 1 + 16 + j = 15 + 2 + j by omega] at this
        rw [← this]
        subst hM
        rw [mset_ne (by omega), mset_ne (by omega)]
  · subst hM
    exact ((hC.2.set (Or.inl (by decide))).set (Or.inr (fun o ho => by omega)))
  · subst hM
    exact ((Ot.set (Or.inl (by omega))).trans (Ot.set (Or.inl (by omega))))
def ad_rom (a : Nat → Nat) (x0 x1 x2 x3 : Nat) : Nat → Nat := updN (updN (updN (updN (updN (a) (54 + a 3) x0) (60 + a 3) x1) (66 + a 3) x2) (72 + a 3) x3) 3 (a 3 + 1)
theorem ad_rom_n {x0 x1 x2 x3 k : Nat} (hk : k ≠ 3 ∧ k ≠ 54 + a 3 ∧ k ≠ 60 + a 3 ∧ k ≠ 66 + a 3 ∧ k ≠ 72 + a 3) : ad_rom a x0 x1 x2 x3 k = a k := by
  unfold ad_rom
  rw [updN_n hk.1, updN_n hk.2.2.2.2, updN_n hk.2.2.2.1, updN_n hk.2.2.1, updN_n hk.2.1]
theorem ad_rom_c {x0 x1 x2 x3 : Nat} : ad_rom a x0 x1 x2 x3 3 = a 3 + 1 := updN_s
theorem ad_rom_v0 {x0 x1 x2 x3 : Nat} (hn : a 3 ≤ 6) : ad_rom a x0 x1 x2 x3 (54 + a 3) = x0 := by
  unfold ad_rom
  rw [updN_n (by omega), updN_n (by omega), updN_n (by omega), updN_n (by omega), updN_s]
theorem ad_rom_v1 {x0 x1 x2 x3 : Nat} (hn : a 3 ≤ 6) : ad_rom a x0 x1 x2 x3 (60 + a 3) = x1 := by
  unfold ad_rom
  rw [updN_n (by omega), updN_n (by omega), updN_n (by omega), updN_s]
theorem ad_rom_v2 {x0 x1 x2 x3 : Nat} (hn : a 3 ≤ 6) : ad_rom a x0 x1 x2 x3 (66 + a 3) = x2 := by
  unfold ad_rom
  rw [updN_n (by omega), updN_n (by omega), updN_s]
theorem ad_rom_v3 {x0 x1 x2 x3 : Nat} (hn : a 3 ≤ 6) : ad_rom a x0 x1 x2 x3 (72 + a 3) = x3 := by
  unfold ad_rom
  rw [updN_n (by omega), updN_s]
theorem kad_rom (hV : VA a) (hC : Cz a M) (hn : a 3 < 6)  {x0 x1 x2 x3 : Nat} : Cz (ad_rom a x0 x1 x2 x3) (mset (mset (mset (mset (mset M 29 2 (I (a 3 + 1))) (29 + 2 + a 3) 0 (I x0)) (29 + 2 + a 3) 1 (I x1)) (29 + 2 + a 3) 2 (I x2)) (29 + 2 + a 3) 3 (I x3)) ∧ Ot M (mset (mset (mset (mset (mset M 29 2 (I (a 3 + 1))) (29 + 2 + a 3) 0 (I x0)) (29 + 2 + a 3) 1 (I x1)) (29 + 2 + a 3) 2 (I x2)) (29 + 2 + a 3) 3 (I x3)) := by
  generalize hM : mset (mset (mset (mset (mset M 29 2 (I (a 3 + 1))) (29 + 2 + a 3) 0 (I x0)) (29 + 2 + a 3) 1 (I x1)) (29 + 2 + a 3) 2 (I x2)) (29 + 2 + a 3) 3 (I x3) = M'
  refine ⟨⟨?_, ?_⟩, ?_⟩
  · refine hC.1.up_r hV (fun i h1 h2 h3 => ?_) (fun k h1 h2 => ad_rom_n (by omega)) ⟨?_, fun j hj c hc => ?_⟩
    · subst hM; rw [mset_ne (by omega), mset_ne (by omega), mset_ne (by omega), mset_ne (by omega), mset_ne (by omega)]
    · subst hM; rw [mset_ne (by omega), mset_ne (by omega), mset_ne (by omega), mset_ne (by omega), mset_v, if_pos rfl, ad_rom_c]
    · rw [ad_rom_c] at hj
      rw [show 1 + 30 + j = 29 + 2 + j by omega]
      by_cases q : j = a 3
      · subst q
        subst hM
        have hcc : c = 0 ∨ c = 1 ∨ c = 2 ∨ c = 3 := by omega
        rcases hcc with rfl | rfl | rfl | rfl
        · rw [mset_v, if_neg (by decide), mset_v, if_neg (by decide), mset_v, if_neg (by decide), mset_v, if_pos rfl]; exact congrArg I ((congrArg (ad_rom a x0 x1 x2 x3) (show 54 + 6 * 0 + a 3 = 54 + a 3 by omega)).trans (ad_rom_v0 (Nat.le_of_lt hn))).symm
        · rw [mset_v, if_neg (by decide), mset_v, if_neg (by decide), mset_v, if_pos rfl]; exact congrArg I ((congrArg (ad_rom a x0 x1 x2 x3) (show 54 + 6 * 1 + a 3 = 60 + a 3 by omega)).trans (ad_rom_v1 (Nat.le_of_lt hn))).symm
        · rw [mset_v, if_neg (by decide), mset_v, if_pos rfl]; exact congrArg I ((congrArg (ad_rom a x0 x1 x2 x3) (show 54 + 6 * 2 + a 3 = 66 + a 3 by omega)).trans (ad_rom_v2 (Nat.le_of_lt hn))).symm
        · rw [mset_v, if_pos rfl]; exact congrArg I ((congrArg (ad_rom a x0 x1 x2 x3) (show 54 + 6 * 3 + a 3 = 72 + a 3 by omega)).trans (ad_rom_v3 (Nat.le_of_lt hn))).symm
      · rw [ad_rom_n (by omega)]
        have := hC.1.2.2.2.2.1.2 j (by omega) c hc
        rw [show 1 + 30 + j = 29 + 2 + j by omega] at this
        rw [← this]
        subst hM
        rw [mset_ne (by omega), mset_ne (by omega), mset_ne (by omega), mset_ne (by omega), mset_ne (by omega)]
  · subst hM
    exact (((((hC.2.set (Or.inl (by decide))).set (Or.inr (fun o ho => by omega))).set (Or.inr (fun o ho => by omega))).set (Or.inr (fun o ho => by omega))).set (Or.inr (fun o ho => by omega)))
  · subst hM
    exact (((((Ot.set (Or.inl (by omega))).trans (Ot.set (Or.inl (by omega)))).trans (Ot.set (Or.inl (by omega)))).trans (Ot.set (Or.inl (by omega)))).trans (Ot.set (Or.inl (by omega))))
def ad_ban (a : Nat → Nat) (x0 x1 x2 x3 x4 : Nat) : Nat → Nat := updN (updN (updN (updN (updN (updN (a) (438 + 5 * a 5) x0) (438 + 5 * a 5 + 1) x1) (438 + 5 * a 5 + 2) x2) (438 + 5 * a 5 + 3) x3) (438 + 5 * a 5 + 4) x4) 5 (a 5 + 1)
theorem ad_ban_n {x0 x1 x2 x3 x4 k : Nat} (hk : k ≠ 5 ∧ k ≠ 438 + 5 * a 5 ∧ k ≠ 438 + 5 * a 5 + 1 ∧ k ≠ 438 + 5 * a 5 + 2 ∧ k ≠ 438 + 5 * a 5 + 3 ∧ k ≠ 438 + 5 * a 5 + 4) : ad_ban a x0 x1 x2 x3 x4 k = a k := by
  unfold ad_ban
  rw [updN_n hk.1, updN_n hk.2.2.2.2.2, updN_n hk.2.2.2.2.1, updN_n hk.2.2.2.1, updN_n hk.2.2.1, updN_n hk.2.1]
theorem ad_ban_c {x0 x1 x2 x3 x4 : Nat} : ad_ban a x0 x1 x2 x3 x4 5 = a 5 + 1 := updN_s
theorem ad_ban_v0 {x0 x1 x2 x3 x4 : Nat} (hn : a 5 ≤ 10) : ad_ban a x0 x1 x2 x3 x4 (438 + 5 * a 5) = x0 := by
  unfold ad_ban
  rw [updN_n (by omega), updN_n (by omega), updN_n (by omega), updN_n (by omega), updN_n (by omega), updN_s]
theorem ad_ban_v1 {x0 x1 x2 x3 x4 : Nat} (hn : a 5 ≤ 10) : ad_ban a x0 x1 x2 x3 x4 (438 + 5 * a 5 + 1) = x1 := by
  unfold ad_ban
  rw [updN_n (by omega), updN_n (by omega), updN_n (by omega), updN_n (by omega), updN_s]
theorem ad_ban_v2 {x0 x1 x2 x3 x4 : Nat} (hn : a 5 ≤ 10) : ad_ban a x0 x1 x2 x3 x4 (438 + 5 * a 5 + 2) = x2 := by
  unfold ad_ban
  rw [updN_n (by omega), updN_n (by omega), updN_n (by omega), updN_s]
theorem ad_ban_v3 {x0 x1 x2 x3 x4 : Nat} (hn : a 5 ≤ 10) : ad_ban a x0 x1 x2 x3 x4 (438 + 5 * a 5 + 3) = x3 := by
  unfold ad_ban
  rw [updN_n (by omega), updN_n (by omega), updN_s]
theorem ad_ban_v4 {x0 x1 x2 x3 x4 : Nat} (hn : a 5 ≤ 10) : ad_ban a x0 x1 x2 x3 x4 (438 + 5 * a 5 + 4) = x4 := by
  unfold ad_ban
  rw [updN_n (by omega), updN_s]
theorem kad_ban (hV : VA a) (hC : Cz a M) (hn : a 5 < 10)  {x0 x1 x2 x3 x4 : Nat} : Cz (ad_ban a x0 x1 x2 x3 x4) (mset (mset (mset (mset (mset (mset M 99 2 (I (a 5 + 1))) (99 + 2 + a 5) 0 (I x0)) (99 + 2 + a 5) 1 (I x1)) (99 + 2 + a 5) 2 (I x2)) (99 + 2 + a 5) 3 (I x3)) (99 + 2 + a 5) 4 (I x4)) ∧ Ot M (mset (mset (mset (mset (mset (mset M 99 2 (I (a 5 + 1))) (99 + 2 + a 5) 0 (I x0)) (99 + 2 + a 5) 1 (I x1)) (99 + 2 + a 5) 2 (I x2)) (99 + 2 + a 5) 3 (I x3)) (99 + 2 + a 5) 4 (I x4)) := by
  generalize hM : mset (mset (mset (mset (mset (mset M 99 2 (I (a 5 + 1))) (99 + 2 + a 5) 0 (I x0)) (99 + 2 + a 5) 1 (I x1)) (99 + 2 + a 5) 2 (I x2)) (99 + 2 + a 5) 3 (I x3)) (99 + 2 + a 5) 4 (I x4) = M'
  refine ⟨⟨?_, ?_⟩, ?_⟩
  · refine hC.1.up_b hV (fun i h1 h2 h3 => ?_) (fun k h1 h2 => ad_ban_n (by omega)) ⟨?_, fun j hj c hc => ?_⟩
    · subst hM; rw [mset_ne (by omega), mset_ne (by omega), mset_ne (by omega), mset_ne (by omega), mset_ne (by omega), mset_ne (by omega)]
    · subst hM; rw [mset_ne (by omega), mset_ne (by omega), mset_ne (by omega), mset_ne (by omega), mset_ne (by omega), mset_v, if_pos rfl, ad_ban_c]
    · rw [ad_ban_c] at hj
      rw [show 1 + 100 + j = 99 + 2 + j by omega]
      by_cases q : j = a 5
      · subst q
        subst hM
        have hcc : c = 0 ∨ c = 1 ∨ c = 2 ∨ c = 3 ∨ c = 4 := by omega
        rcases hcc with rfl | rfl | rfl | rfl | rfl
        · rw [mset_v, if_neg (by decide), mset_v, if_neg (by decide), mset_v, if_neg (by decide), mset_v, if_neg (by decide), mset_v, if_pos rfl]; exact congrArg I ((congrArg (ad_ban a x0 x1 x2 x3 x4) (show 438 + 5 * a 5 + 0 = 438 + 5 * a 5 by omega)).trans (ad_ban_v0 (Nat.le_of_lt hn))).symm
        · rw [mset_v, if_neg (by decide), mset_v, if_neg (by decide), mset_v, if_neg (by decide), mset_v, if_pos rfl]; exact congrArg I ((congrArg (ad_ban a x0 x1 x2 x3 x4) (show 438 + 5 * a 5 + 1 = 438 + 5 * a 5 + 1 by omega)).trans (ad_ban_v1 (Nat.le_of_lt hn))).symm
        · rw [mset_v, if_neg (by decide), mset_v, if_neg (by decide), mset_v, if_pos rfl]; exact congrArg I ((congrArg (ad_ban a x0 x1 x2 x3 x4) (show 438 + 5 * a 5 + 2 = 438 + 5 * a 5 + 2 by omega)).trans (ad_ban_v2 (Nat.le_of_lt hn))).symm
        · rw [mset_v, if_neg (by decide), mset_v, if_pos rfl]; exact congrArg I ((congrArg (ad_ban a x0 x1 x2 x3 x4) (show 438 + 5 * a 5 + 3 = 438 + 5 * a 5 + 3 by omega)).trans (ad_ban_v3 (Nat.le_of_lt hn))).symm
        · rw [mset_v, if_pos rfl]; exact congrArg I ((congrArg (ad_ban a x0 x1 x2 x3 x4) (show 438 + 5 * a 5 + 4 = 438 + 5 * a 5 + 4 by omega)).trans (ad_ban_v4 (Nat.le_of_lt hn))).symm
      · rw [ad_ban_n (by omega)]
        have := hC.1.2.2.2.2.2.2.1.2 j (by omega) c hc
        rw [show 1 + 100 + j = 99 + 2 + j by omega] at this
        rw [← this]
        subst hM
        rw [mset_ne (by omega), mset_ne (by omega), mset_ne (by omega), mset_ne (by omega), mset_ne (by omega), mset_ne (by omega)]
  · subst hM
    exact ((((((hC.2.set (Or.inl (by decide))).set (Or.inr (fun o ho => by omega))).set (Or.inr (fun o ho => by omega))).set (Or.inr (fun o ho => by omega))).set (Or.inr (fun o ho => by omega))).set (Or.inr (fun o ho => by omega)))
  · subst hM
    exact ((((((Ot.set (Or.inl (by omega))).trans (Ot.set (Or.inl (by omega)))).trans (Ot.set (Or.inl (by omega)))).trans (Ot.set (Or.inl (by omega)))).trans (Ot.set (Or.inl (by omega)))).trans (Ot.set (Or.inl (by omega))))
def ad_wis (a : Nat → Nat) (x0 x1 x2 x3 : Nat) : Nat → Nat := updN (updN (updN (updN (updN (a) (488 + 4 * a 6) x0) (488 + 4 * a 6 + 1) x1) (488 + 4 * a 6 + 2) x2) (488 + 4 * a 6 + 3) x3) 6 (a 6 + 1)
theorem ad_wis_n {x0 x1 x2 x3 k : Nat} (hk : k ≠ 6 ∧ k ≠ 488 + 4 * a 6 ∧ k ≠ 488 + 4 * a 6 + 1 ∧ k ≠ 488 + 4 * a 6 + 2 ∧ k ≠ 488 + 4 * a 6 + 3) : ad_wis a x0 x1 x2 x3 k = a k := by
  unfold ad_wis
  rw [updN_n hk.1, updN_n hk.2.2.2.2, updN_n hk.2.2.2.1, updN_n hk.2.2.1, updN_n hk.2.1]
theorem ad_wis_c {x0 x1 x2 x3 : Nat} : ad_wis a x0 x1 x2 x3 6 = a 6 + 1 := updN_s
theorem ad_wis_v0 {x0 x1 x2 x3 : Nat} (hn : a 6 ≤ 6) : ad_wis a x0 x1 x2 x3 (488 + 4 * a 6) = x0 := by
  unfold ad_wis
  rw [updN_n (by omega), updN_n (by omega), updN_n (by omega), updN_n (by omega), updN_s]
theorem ad_wis_v1 {x0 x1 x2 x3 : Nat} (hn : a 6 ≤ 6) : ad_wis a x0 x1 x2 x3 (488 + 4 * a 6 + 1) = x1 := by
  unfold ad_wis
  rw [updN_n (by omega), updN_n (by omega), updN_n (by omega), updN_s]
theorem ad_wis_v2 {x0 x1 x2 x3 : Nat} (hn : a 6 ≤ 6) : ad_wis a x0 x1 x2 x3 (488 + 4 * a 6 + 2) = x2 := by
  unfold ad_wis
  rw [updN_n (by omega), updN_n (by omega), updN_s]
theorem ad_wis_v3 {x0 x1 x2 x3 : Nat} (hn : a 6 ≤ 6) : ad_wis a x0 x1 x2 x3 (488 + 4 * a 6 + 3) = x3 := by
  unfold ad_wis
  rw [updN_n (by omega), updN_s]
theorem kad_wis (hV : VA a) (hC : Cz a M) (hn : a 6 < 6)  {x0 x1 x2 x3 : Nat} : Cz (ad_wis a x0 x1 x2 x3) (mset (mset (mset (mset (mset M 111 2 (I (a 6 + 1))) (111 + 2 + a 6) 0 (I x0)) (111 + 2 + a 6) 1 (I x1)) (111 + 2 + a 6) 2 (I x2)) (111 + 2 + a 6) 3 (I x3)) ∧ Ot M (mset (mset (mset (mset (mset M 111 2 (I (a 6 + 1))) (111 + 2 + a 6) 0 (I x0)) (111 + 2 + a 6) 1 (I x1)) (111 + 2 + a 6) 2 (I x2)) (111 + 2 + a 6) 3 (I x3)) := by
  generalize hM : mset (mset (mset (mset (mset M 111 2 (I (a 6 + 1))) (111 + 2 + a 6) 0 (I x0)) (111 + 2 + a 6) 1 (I x1)) (111 + 2 + a 6) 2 (I x2)) (111 + 2 + a 6) 3 (I x3) = M'
  refine ⟨⟨?_, ?_⟩, ?_⟩
  · refine hC.1.up_w hV (fun i h1 h2 h3 => ?_) (fun k h1 h2 => ad_wis_n (by omega)) ⟨?_, fun j hj c hc => ?_⟩
    · subst hM; rw [mset_ne (by omega), mset_ne (by omega), mset_ne (by omega), mset_ne (by omega), mset_ne (by omega)]
    · subst hM; rw [mset_ne (by omega), mset_ne (by omega), mset_ne (by omega), mset_ne (by omega), mset_v, if_pos rfl, ad_wis_c]
    · rw [ad_wis_c] at hj
      rw [show 1 + 112 + j = 111 + 2 + j by omega]
      by_cases q : j = a 6
      · subst q
        subst hM
        have hcc : c = 0 ∨ c = 1 ∨ c = 2 ∨ c = 3 := by omega
        rcases hcc with rfl | rfl | rfl | rfl
        · rw [mset_v, if_neg (by decide), mset_v, if_neg (by decide), mset_v, if_neg (by decide), mset_v, if_pos rfl]; exact congrArg I ((congrArg (ad_wis a x0 x1 x2 x3) (show 488 + 4 * a 6 + 0 = 488 + 4 * a 6 by omega)).trans (ad_wis_v0 (Nat.le_of_lt hn))).symm
        · rw [mset_v, if_neg (by decide), mset_v, if_neg (by decide), mset_v, if_pos rfl]; exact congrArg I ((congrArg (ad_wis a x0 x1 x2 x3) (show 488 + 4 * a 6 + 1 = 488 + 4 * a 6 + 1 by omega)).trans (ad_wis_v1 (Nat.le_of_lt hn))).symm
        · rw [mset_v, if_neg (by decide), mset_v, if_pos rfl]; exact congrArg I ((congrArg (ad_wis a x0 x1 x2 x3) (show 488 + 4 * a 6 + 2 = 488 + 4 * a 6 + 2 by omega)).trans (ad_wis_v2 (Nat.le_of_lt hn))).symm
        · rw [mset_v, if_pos rfl]; exact congrArg I ((congrArg (ad_wis a x0 x1 x2 x3) (show 488 + 4 * a 6 + 3 = 488 + 4 * a 6 + 3 by omega)).trans (ad_wis_v3 (Nat.le_of_lt hn))).symm
      · rw [ad_wis_n (by omega)]
        have := hC.1.2.2.2.2.2.2.2.1.2 j (by omega) c hc
        rw [show 1 + 112 + j = 111 + 2 + j by omega] at this
        rw [← this]
        subst hM
        rw [mset_ne (by omega), mset_ne (by omega), mset_ne (by omega), mset_ne (by omega), mset_ne (by omega)]
  · subst hM
    exact (((((hC.2.set (Or.inl (by decide))).set (Or.inr (fun o ho => by omega))).set (Or.inr (fun o ho => by omega))).set (Or.inr (fun o ho => by omega))).set (Or.inr (fun o ho => by omega)))
  · subst hM
    exact (((((Ot.set (Or.inl (by omega))).trans (Ot.set (Or.inl (by omega)))).trans (Ot.set (Or.inl (by omega)))).trans (Ot.set (Or.inl (by omega)))).trans (Ot.set (Or.inl (by omega))))
end Ad2

