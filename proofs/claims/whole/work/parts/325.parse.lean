/-! ===== THE CLASS reads a text ===== -/
section Pb4
variable {M M' M1 M2 : Mem} {n : Nat} {u : Nat → Nat} {Q : Int32 → Mem → Prop} {QP : Mem → Prop}
/-- only the place and the table of commands change -/
def Fh (M M' : Mem) : Prop := M'.2 = M.2 ∧ (∀ j, j ≠ 1551 → ¬ (1553 ≤ j ∧ j < 1582) → M'.1 j = M.1 j) ∧ (∀ k, k ≠ 2 → M'.1 1551 k = M.1 1551 k)
theorem Fh.trans (e : Fh M M1) (e2 : Fh M1 M2) : Fh M M2 := ⟨e2.1.trans e.1, fun j j1 j2 => (e2.2.1 j j1 j2).trans (e.2.1 j j1 j2), fun k hk => (e2.2.2 k hk).trans (e.2.2 k hk)⟩
theorem UC.fh (hU : UC n u M) (e : Fh M M') : UC n u M' := ⟨hU.1, (e.2.2 1 (by decide)).trans hU.2.1, fun k hk => by rw [e.2.1 1552 (by decide) (by decide)]; exact hU.2.2 k hk⟩
theorem Fg.fh {c : Nat} (hc : c < 27) (e : Fg (1555 + c) c M M') : Fh M M' := ⟨e.1, fun j j1 j2 => e.2.1 j j1 (fun z => j2 (by omega)) (fun z => j2 (by omega)), e.2.2.1⟩
theorem CC.fg {c j : Nat} {x : CTt} (w : CC j x M) (e : Fg (1555 + c) c M M') (hj : j < c) : CC j x M' := by
  have e1 : M'.1 (1555 + j) = M.1 (1555 + j) := e.2.1 (1555 + j) (by omega) (by omega) (by omega)
  unfold CC
  rw [e1]
  exact w
theorem CC.pl {j : Nat} {x : CTt} {v : Int32} (w : CC j x M) : CC j x (mset M 1551 2 v) := by
  unfold CC
  rw [mset_ne (show 1555 + j ≠ 1551 by omega)]
  exact w
theorem k_fe : ∀ (m k : Nat) (M : Mem), m + k = 28 → 3 * k ≤ psn n u k → psn n u k ≤ n → UC n u M → M.1 1551 2 = I (psn n u k) → M.1 1553 2 = I k → (∀ j, j < k → CC j (cmd n u (psn n u j)).2 M) → (∀ M', Fh M M' → ((txt n u m k).1 = true → M'.1 1553 2 = I (txt n u m k).2 ∧ ∀ j, j < (txt n u m k).2 → CC j (cmd n u (psn n u j)).2 M') → Q (tva (txt n u m k)) M') → T_X5_findError_14 Q m 1551 (I k) M
  | 0, k, M, h1, h2, h3, hU, _, _, _, _ => by
    have := hU.1
    omega
  | m + 1, k, M, h1, h2, h3, hU, hp, ht, hC, h => by
    have hn := hU.1
    have b := cmd_b (n := n) (u := u) (p := psn n u k)
    have et : txt n u (m + 1) k = if (cmd n u (psn n u k)).1.1 = true then (if n ≤ (cmd n u (psn n u k)).1.2 then (true, k + 1) else if sgn n u 59 (cmd n u (psn n u k)).1.2 = true then txt n u m (k + 1) else (false, (cmd n u (psn n u k)).1.2)) else (false, (cmd n u (psn n u k)).1.2) := rfl
    have ep : psn n u (k + 1) = (cmd n u (psn n u k)).1.2 + 1 := rfl
    unfold T_X5_findError_14
    rw [I_27, if_neg (by rw [I_le (by decide) (by omega)]; omega)]
    refine ⟨kn_1551, k_cmd hU hp (by omega) (show k < 27 by omega) ht (fun M3 f3 q3 w3 => ?_)⟩
    have fh3 := Fg.fh (show k < 27 by omega) f3
    by_cases c1 : (cmd n u (psn n u k)).1.1 = true
    · have b3 := b.2.2.1 c1
      rw [if_pos c1] at et ⊢
      rw [if_neg (by decide), q3, fh3.2.2 1 (by decide), hU.2.1]
      by_cases c2 : n ≤ (cmd n u (psn n u k)).1.2
      · rw [if_pos c2] at et
        rw [if_pos (show I (cmd n u (psn n u k)).1.2 = I n by rw [show (cmd n u (psn n u k)).1.2 = n by omega])]
        have g := h M3 fh3 (fun _ => by
          rw [et]
          refine ⟨f3.2.2.2.2, fun j hj => ?_⟩
          by_cases cj : j = k
          · subst cj; exact w3 c1
          · have hj' : j < k + 1 := hj
            exact (hC j (by omega)).fg f3 (by omega))
        rw [et] at g
        exact g
      · rw [if_neg c2] at et
        rw [if_neg (show ¬ I (cmd n u (psn n u k)).1.2 = I n by rw [I_eq (by omega) (by omega)]; omega)]
        refine k_sign (c := 59) (hU.fh fh3) q3 (by omega) (by decide) (fun c3 => ?_) (fun c3 => ?_)
        · rw [if_pos c3] at et
          rw [if_neg (by decide)]
          rintro x7 rfl
          rw [I_1, I_add]
          have fh4 : Fh M (mset M3 1551 2 (I ((cmd n u (psn n u k)).1.2 + 1))) := fh3.trans ⟨rfl, fun j j1 j2 => mset_ne j1, fun k hk => by rw [mset_v, if_neg hk]⟩
          refine k_fe m (k + 1) _ (by omega) (by omega) (by omega) (hU.fh fh4) (by rw [mset_v, if_pos rfl, ep]) (by rw [mset_ne (by decide)]; exact f3.2.2.2.2) (fun j hj => ?_) (fun M4 f4 g4 => ?_)
          · by_cases cj : j = k
            · subst cj; exact (w3 c1).pl
            · exact ((hC j (by omega)).fg f3 (by omega)).pl
          · rw [et] at h
            exact h M4 (fh4.trans f4) g4
        · rw [if_neg c3] at et
          rw [if_pos (show I 0 = 0 from rfl), q3]
          have g := h M3 fh3 (fun z => by rw [et] at z; cases z)
          rw [et] at g
          exact g
    · rw [if_neg c1] at et ⊢
      rw [if_pos (show I 0 = 0 from rfl), q3]
      have g := h M3 fh3 (fun z => by rw [et] at z; cases z)
      rw [et] at g
      exact g
theorem k_find (hU : UC n u M) (h : ∀ M', Fh M M' → ((txt n u 28 0).1 = true → M'.1 1553 2 = I (txt n u 28 0).2 ∧ ∀ j, j < (txt n u 28 0).2 → CC j (cmd n u (psn n u j)).2 M') → Q (tva (txt n u 28 0)) M') : T_X5_findError Q 1551 M := by
  unfold T_X5_findError
  refine ⟨kn_1551, ?_⟩
  rintro M2 rfl
  rw [rn_1551_3]
  refine ⟨kn_1553, ?_⟩
  unfold T_X4_clear
  refine ⟨kn_1553, ?_⟩
  rintro M3 rfl
  have fh : Fh M (mset (mset M 1551 2 0) 1553 2 0) := ⟨rfl, fun j j1 j2 => by rw [mset_ne (fun z => j2 (by omega)), mset_ne j1], fun k hk => by rw [mset_ne (by decide), mset_v, if_neg hk]⟩
  have q : (mset (mset M 1551 2 0) 1553 2 0).1 1551 2 = I 0 := by rw [mset_ne (by decide), mset_v, if_pos rfl]; rfl
  have q2 : (mset (mset M 1551 2 0) 1553 2 0).1 1553 2 = I 0 := by rw [mset_v, if_pos rfl]; rfl
  exact ⟨28, k_fe 28 0 _ rfl (Nat.zero_le _) (Nat.zero_le _) (hU.fh fh) q q2 (fun j hj => absurd hj (Nat.not_lt_zero _)) (fun M' f' g' => h M' (fh.trans f') g')⟩
end Pb4

