/-! ===== what the objects hold when they are new ===== -/
abbrev zF : Nat → Int32 := fun _ => 0
def tI (w : Nat) : Nat → Int32 := fun k => if k = 1 then Int32.ofNat w else 0
def iniS (o : Nat) : Nat → Int32 := if o = 1 then (fun k => if k = 0 then 1 else if k = 1 then 2 else if k = 2 then 3 else if k = 3 then 4 else 0) else if sKd o = 4 then tI (sLn (o + 2)) else zF
def ini (i : Nat) : Nat → Int32 := if i = 0 then zF else if i < 281 then iniS ((i - 1) % 140) else if i < 283 then zF else if i < 1543 then iniS ((i - 283) % 140) else if i = 1543 then (fun k => if k = 6 then -1 else 0) else if i = 1546 then tI 2 else if i = 1553 then tI 5
  else if i = 1583 then (fun k => if k = 8 then 1 else if k = 9 then 2 else if k = 10 then 3 else if k = 11 then 4 else 0) else zF
def ZF (N : Nat) (ν : NU) (M : Mem) : Prop := ∀ i, N ≤ i → M.1 i = zF ∧ ν i = fun _ => false
def okI (ν : NU) (i : Nat) : Prop := ∀ k, ((kd i = 10 ∧ k < ln i) ∨ (kd i < 8 ∧ isI (kd i) k = false ∧ k < nfC (kd i))) → ν i k = true
def SG (inc : Nat → Prop) (b e : Nat) (ν0 : NU) (M0 : Mem) (ν : NU) (M : Mem) : Prop := ZF e ν M ∧ (∀ i, i < b → M.1 i = M0.1 i ∧ ν i = ν0 i) ∧ (∀ i, b ≤ i → i < e → ¬ inc i → M.1 i = ini i ∧ okI ν i) ∧ M.2 = M0.2
def CP (b e : Nat) (ν0 : NU) (M0 : Mem) : Nat → NU → Mem → Prop := fun N ν M => N = e ∧ SG (fun _ => False) b e ν0 M0 ν M
section SGs
variable {inc : Nat → Prop} {b e e2 i k N' : Nat} {v : Int32} {ν0 ν ν' : NU} {M0 M M' : Mem}
theorem SG_start (h : ZF (b + 1) ν M) (hi : inc b) : SG inc b (b + 1) ν M ν M := ⟨h, fun _ _ => ⟨rfl, rfl⟩, fun i h1 h2 h3 => absurd (show inc i by rw [show i = b by omega]; exact hi) h3, rfl⟩
theorem ZF_up (h : ZF e ν M) : ZF (e + 1) ν M := fun i hi => h i (by omega)
theorem SG_sub (h : SG inc b e ν0 M0 ν M) (hb : b ≤ e) (c : CP e e2 ν M N' ν' M') : SG inc b e2 ν0 M0 ν' M' := by
  obtain ⟨h1, h2, h3, h4⟩ := h
  obtain ⟨-, c1, c2, c3, c4⟩ := c
  refine ⟨c1, fun i hi => ⟨(c2 i (by omega)).1.trans (h2 i hi).1, (c2 i (by omega)).2.trans (h2 i hi).2⟩, fun i g1 g2 g3 => ?_, c4.trans h4⟩
  by_cases q : i < e
  · have := h3 i g1 q g3
    exact ⟨(c2 i q).1.trans this.1, fun k hk => by rw [(c2 i q).2]; exact this.2 k hk⟩
  · exact c3 i (by omega) g2 (fun x => x)
theorem SG_nu (h : SG inc b e ν0 M0 ν M) (hi : b ≤ i) (hi2 : i < e) : SG inc b e ν0 M0 (nuset ν i k) M := by
  obtain ⟨h1, h2, h3, h4⟩ := h
  refine ⟨fun j hj => ⟨(h1 j hj).1, (nuset_ne (by omega)).trans (h1 j hj).2⟩, fun j hj => ⟨(h2 j hj).1, (nuset_ne (by omega)).trans (h2 j hj).2⟩, fun j g1 g2 g3 => ⟨(h3 j g1 g2 g3).1, fun k' hk => ?_⟩, h4⟩
  have := (h3 j g1 g2 g3).2 k' hk
  unfold nuset
  rw [this]; rfl
theorem SG_ms (h : SG inc b e ν0 M0 ν M) (hi : b ≤ i) (hi2 : i < e) (hc : inc i) : SG inc b e ν0 M0 ν (mset M i k v) := by
  obtain ⟨h1, h2, h3, h4⟩ := h
  refine ⟨fun j hj => ⟨(mset_ne (by omega)).trans (h1 j hj).1, (h1 j hj).2⟩, fun j hj => ⟨(mset_ne (by omega)).trans (h2 j hj).1, (h2 j hj).2⟩, fun j g1 g2 g3 => ⟨(mset_ne (fun q => g3 (by rw [q]; exact hc))).trans (h3 j g1 g2 g3).1, (h3 j g1 g2 g3).2⟩, h4⟩
theorem SG_arr (h : SG inc b e ν0 M0 ν M) (hb : b ≤ e) (hc : inc e ∨ (ini e = zF ∧ 8 ≤ kd e ∧ kd e ≠ 10)) : SG inc b (e + 1) ν0 M0 ν M := by
  obtain ⟨h1, h2, h3, h4⟩ := h
  refine ⟨ZF_up h1, h2, fun j g1 g2 g3 => ?_, h4⟩
  by_cases q : j = e
  · subst q
    rcases hc with hc | ⟨hc, h8, h9⟩
    · exact absurd hc g3
    · exact ⟨(h1 j (Nat.le_refl _)).1.trans hc.symm, fun k hk => by rcases hk with ⟨hk, -⟩ | ⟨hk, -⟩ <;> omega⟩
  · exact h3 j g1 (by omega) g3
theorem SG_done (h : SG inc b e ν0 M0 ν M) (hd : ∀ i, inc i → M.1 i = ini i ∧ okI ν i) : CP b e ν0 M0 e ν M := by
  obtain ⟨h1, h2, h3, h4⟩ := h
  refine ⟨rfl, h1, h2, fun j g1 g2 _ => ?_, h4⟩
  by_cases q : inc j
  · exact hd j q
  · exact h3 j g1 g2 q
theorem CP_at (c : CP e e2 ν M N' ν' M') (hi : i < e) : M'.1 i = M.1 i ∧ ν' i = ν i := c.2.2.1 i hi
end SGs
theorem upd_zF (k : Nat) : upd zF k 0 = zF := by
  funext j
  by_cases h : j = k
  · subst h; rw [pk_us]
  · rw [pk_un h]
theorem iniS_t {o : Nat} (h : o ≠ 1) (h2 : sKd o = 4) : iniS o = tI (sLn (o + 2)) := by unfold iniS; rw [if_neg h, if_pos h2]
theorem iniS_z {o : Nat} (h : o ≠ 1) (h2 : sKd o ≠ 4) : iniS o = zF := by unfold iniS; rw [if_neg h, if_neg h2]
theorem rf3 {b k : Nat} (h : kd b = 3) : rf b k = b + sOff k := by unfold rf; rw [if_neg (by omega), if_neg (by omega), if_pos h]
theorem rf4 {b k : Nat} (h : kd b = 4) : rf b k = b + 1 := by unfold rf; rw [if_pos h]
theorem rf11 {b k : Nat} (h : kd b = 11) : rf b k = b + 1 + k := by unfold rf; rw [if_neg (by omega), if_pos h]
section RowsN
variable {g : GG} {d : Nat} {y : Mth} {pc : Nat} {L : List (Option Value)} {st : List Value} {N n : Nat} {n0 : Int32} {ν : NU} {M : Mem} {kc ks : Nat} {Q : QC}
theorem aw_ai : Cond.arrayClass .int ∈ AW := aw_t 64 (by decide +kernel) (by decide +kernel)
theorem aw_ac : Cond.arrayClass .char ∈ AW := aw_t 202 (by decide +kernel) (by decide +kernel)
theorem aw_al : Cond.arrayClass .long ∈ AW := aw_t 1470 (by decide +kernel) (by decide +kernel)
theorem aw_ad : Cond.arrayClass .double ∈ AW := aw_t 1471 (by decide +kernel) (by decide +kernel)
theorem C_newI (hk : kd N = 9) (hl : ln N = n) (hz : M.1 N = zF) (h0 : ¬ n0 < 0) (hn : n0.toNatClampNeg = n) (hb : n ≤ 10000) (hkc : 1 ≤ kc) (hks : n ≤ ks) (hd : decode y.2.1 pc = .ok (.newarray .int, 2)) (kk : WPc g d y (pc + 2) L (.ref (g.1 + N) :: st) (N + 1) ν M (kc - 1) (ks - n) Q) : WPc g d y pc L (.int n0 :: st) N ν M kc ks Q :=
  C_newa (atype := .int) (t := 1) (a0 := (ln N, .inl (M.1 N))) aw_ai ⟨_, rfl, (cellC_n g ν M (by omega) (by omega)).trans (cell_9 g M hk)⟩ (fun cA => by rw [vp_cell_i, hl, hz]; rfl) (fun _ _ h => h) h0 hn (by show n * 4 ≤ _; omega) hkc hks hd kk
theorem C_newCh (hk : kd N = 8) (hl : ln N = n) (hz : M.1 N = zF) (h0 : ¬ n0 < 0) (hn : n0.toNatClampNeg = n) (hb : n ≤ 10000) (hkc : 1 ≤ kc) (hks : n ≤ ks) (hd : decode y.2.1 pc = .ok (.newarray .char, 2)) (kk : WPc g d y (pc + 2) L (.ref (g.1 + N) :: st) (N + 1) ν M (kc - 1) (ks - n) Q) : WPc g d y pc L (.int n0 :: st) N ν M kc ks Q :=
  C_newa (atype := .char) (t := 0) (a0 := (ln N, .inl (M.1 N))) aw_ac ⟨_, rfl, (cellC_n g ν M (by omega) (by omega)).trans (cell_8 g M hk)⟩ (fun cA => by rw [vp_cell_i, hl, hz]; rfl) (fun _ _ h => h) h0 hn (by show n * 2 ≤ _; omega) hkc hks hd kk
theorem C_newL (hk : kd N = 12) (hl : ln N = n) (hz : M.2.1 = fun _ => 0) (h0 : ¬ n0 < 0) (hn : n0.toNatClampNeg = n) (hb : n ≤ 10000) (hkc : 1 ≤ kc) (hks : n ≤ ks) (hd : decode y.2.1 pc = .ok (.newarray .long, 2)) (kk : WPc g d y (pc + 2) L (.ref (g.1 + N) :: st) (N + 1) ν M (kc - 1) (ks - n) Q) : WPc g d y pc L (.int n0 :: st) N ν M kc ks Q :=
  C_newa (atype := .long) (t := 4) (a0 := (ln N, .inr (.inl M.2.1))) aw_al ⟨_, rfl, (cellC_n g ν M (by omega) (by omega)).trans (cell_12 g M hk)⟩ (fun cA => by rw [vp_cell_l, hl, hz]; rfl) (fun _ _ h => h) h0 hn (by show n * 8 ≤ _; omega) hkc hks hd kk
theorem C_newD (hk : kd N = 13) (hl : ln N = n) (hz : M.2.2 = fun _ => 0) (h0 : ¬ n0 < 0) (hn : n0.toNatClampNeg = n) (hb : n ≤ 10000) (hkc : 1 ≤ kc) (hks : n ≤ ks) (hd : decode y.2.1 pc = .ok (.newarray .double, 2)) (kk : WPc g d y (pc + 2) L (.ref (g.1 + N) :: st) (N + 1) ν M (kc - 1) (ks - n) Q) : WPc g d y pc L (.int n0 :: st) N ν M kc ks Q :=
  C_newa (atype := .double) (t := 5) (a0 := (ln N, .inr (.inr (.inr (.inl M.2.2))))) aw_ad ⟨_, rfl, (cellC_n g ν M (by omega) (by omega)).trans (cell_13 g M hk)⟩ (fun cA => by rw [vp_cell_d, hl, hz]; rfl) (fun _ _ h => h) h0 hn (by show n * 8 ≤ _; omega) hkc hks hd kk
end RowsN

theorem ins_0 : Cond.instantiable RX0 (nfC 0) ∈ AW := aw_t 166 (by decide +kernel) (by decide +kernel)
theorem inz_0 : Cond.initialized RX0 ∈ AW := aw_t 6 (by decide +kernel) (by decide +kernel)
theorem inm_0 : Cond.instanceMethod mX0_init.1 ∈ AW := aw_t 168 (by decide +kernel) (by decide +kernel)
theorem dfl_0 : ∀ k, k < nfC 0 → defaultValue (tyX0 k) = if isI 0 k = true then .int 0 else .null := by decide
theorem ins_1 : Cond.instantiable RX1 (nfC 1) ∈ AW := aw_t 114 (by decide +kernel) (by decide +kernel)
theorem inz_1 : Cond.initialized RX1 ∈ AW := aw_t 4 (by decide +kernel) (by decide +kernel)
theorem inm_1 : Cond.instanceMethod mX1_init.1 ∈ AW := aw_t 116 (by decide +kernel) (by decide +kernel)
theorem dfl_1 : ∀ k, k < nfC 1 → defaultValue (tyX1 k) = if isI 1 k = true then .int 0 else .null := by decide
theorem ins_2 : Cond.instantiable RX2 (nfC 2) ∈ AW := aw_t 134 (by decide +kernel) (by decide +kernel)
theorem inz_2 : Cond.initialized RX2 ∈ AW := aw_t 5 (by decide +kernel) (by decide +kernel)
theorem inm_2 : Cond.instanceMethod mX2_init.1 ∈ AW := aw_t 136 (by decide +kernel) (by decide +kernel)
theorem dfl_2 : ∀ k, k < nfC 2 → defaultValue (tyX2 k) = if isI 2 k = true then .int 0 else .null := by decide
theorem ins_3 : Cond.instantiable RX3 (nfC 3) ∈ AW := aw_t 33 (by decide +kernel) (by decide +kernel)
theorem inz_3 : Cond.initialized RX3 ∈ AW := aw_t 2 (by decide +kernel) (by decide +kernel)
theorem inm_3 : Cond.instanceMethod mX3_init.1 ∈ AW := aw_t 35 (by decide +kernel) (by decide +kernel)
theorem dfl_3 : ∀ k, k < nfC 3 → defaultValue (tyX3 k) = if isI 3 k = true then .int 0 else .null := by decide
theorem ins_4 : Cond.instantiable RX4 (nfC 4) ∈ AW := aw_t 39 (by decide +kernel) (by decide +kernel)
theorem inz_4 : Cond.initialized RX4 ∈ AW := aw_t 3 (by decide +kernel) (by decide +kernel)
theorem inm_4 : Cond.instanceMethod mX4_init.1 ∈ AW := aw_t 41 (by decide +kernel) (by decide +kernel)
theorem dfl_4 : ∀ k, k < nfC 4 → defaultValue (tyX4 k) = if isI 4 k = true then .int 0 else .null := by decide
theorem ins_5 : Cond.instantiable RX5 (nfC 5) ∈ AW := aw_t 181 (by decide +kernel) (by decide +kernel)
theorem inz_5 : Cond.initialized RX5 ∈ AW := aw_t 7 (by decide +kernel) (by decide +kernel)
theorem inm_5 : Cond.instanceMethod mX5_init.1 ∈ AW := aw_t 183 (by decide +kernel) (by decide +kernel)
theorem dfl_5 : ∀ k, k < nfC 5 → defaultValue (tyX5 k) = if isI 5 k = true then .int 0 else .null := by decide
theorem ins_6 : Cond.instantiable RX6 (nfC 6) ∈ AW := aw_t 25 (by decide +kernel) (by decide +kernel)
theorem inz_6 : Cond.initialized RX6 ∈ AW := aw_t 1 (by decide +kernel) (by decide +kernel)
theorem inm_6 : Cond.instanceMethod mX6_init.1 ∈ AW := aw_t 27 (by decide +kernel) (by decide +kernel)
theorem dfl_6 : ∀ k, k < nfC 6 → defaultValue (tyX6 k) = if isI 6 k = true then .int 0 else .null := by decide
theorem ins_7 : Cond.instantiable RX7 (nfC 7) ∈ AW := aw_t 1022 (by decide +kernel) (by decide +kernel)
theorem inz_7 : Cond.initialized RX7 ∈ AW := aw_t 8 (by decide +kernel) (by decide +kernel)
theorem inm_7 : Cond.instanceMethod mX7_init.1 ∈ AW := aw_t 1024 (by decide +kernel) (by decide +kernel)
theorem dfl_7 : ∀ k, k < nfC 7 → defaultValue (tyX7 k) = if isI 7 k = true then .int 0 else .null := by decide
theorem d_X4_init_0 : decode mX4_init.2.1 0 = .ok (.aload_n 0, 1) := by decide +kernel
theorem d_X4_init_1 : decode mX4_init.2.1 1 = .ok (.invokespecial 1, 3) := by decide +kernel
theorem d_X4_init_4 : decode mX4_init.2.1 4 = .ok (.aload_n 0, 1) := by decide +kernel
theorem d_X4_init_5 : decode mX4_init.2.1 5 = .ok (.iload_n 1, 1) := by decide +kernel
theorem d_X4_init_6 : decode mX4_init.2.1 6 = .ok (.iload_n 2, 1) := by decide +kernel
theorem d_X4_init_7 : decode mX4_init.2.1 7 = .ok (.multianewarray 7 2, 4) := by decide +kernel
theorem d_X4_init_11 : decode mX4_init.2.1 11 = .ok (.putfield 9, 3) := by decide +kernel
theorem d_X4_init_14 : decode mX4_init.2.1 14 = .ok (.aload_n 0, 1) := by decide +kernel
theorem d_X4_init_15 : decode mX4_init.2.1 15 = .ok (.iload_n 2, 1) := by decide +kernel
theorem d_X4_init_16 : decode mX4_init.2.1 16 = .ok (.putfield 14, 3) := by decide +kernel
theorem d_X4_init_19 : decode mX4_init.2.1 19 = .ok (.aload_n 0, 1) := by decide +kernel
theorem d_X4_init_20 : decode mX4_init.2.1 20 = .ok (.iconst 0, 1) := by decide +kernel
theorem d_X4_init_21 : decode mX4_init.2.1 21 = .ok (.putfield 18, 3) := by decide +kernel
theorem d_X4_init_24 : decode mX4_init.2.1 24 = .ok (.return_, 1) := by decide +kernel
theorem oi_RX4 : Cond.methodLink RX4 1 objectInit ∈ AW := aw_t 43 (by decide +kernel) (by decide +kernel)
theorem cln_RX4_7 : Cond.classLink RX4 7 "[[I" ∈ AW := aw_t 44 (by decide +kernel) (by decide +kernel)
theorem c_X4_init {g : GG} {b n w e : Nat} {n0 w0 : Int32} {ν : NU} {M : Mem} (he : e = b + 2 + n) (hk : kd b = 4) (hk1 : kd (b + 1) = 11) (hl1 : ln (b + 1) = n) (hi0 : ini b = tI w) (hz : ∀ q, b < q → q < b + 2 + n → ini q = zF) (hk2 : ∀ k, k < n → kd (b + 2 + k) = 9 ∧ ln (b + 2 + k) = w) (h0 : ¬ n0 < 0) (hn : n0.toNatClampNeg = n) (h1 : ¬ w0 < 0) (hw : w0.toNatClampNeg = w) (hbd : n ≤ 60 ∧ w ≤ 6 ∧ w0 = Int32.ofNat w) (hZ : ZF (b + 1) ν M) (hm0 : M.1 b = zF) : CTc g 2 mX4_init [.ref (g.1 + b), .int n0, .int w0] (b + 1) ν M (1 + n) (n + n * w) (CP b e ν M) := by
  refine CTc_of (L := [some (.ref (g.1 + b)), some (.int n0), some (.int w0)]) (by decide) rfl rfl (Nat.le_of_ble_eq_true rfl) rfl ?_
  refine C_aload_n (pc := 0) d_X4_init_0 rfl rfl ?_
  refine C_objInit (pc := 1) rfl oi_RX4 (Nat.le_of_ble_eq_true rfl) (by decide) d_X4_init_1 ?_
  refine C_aload_n (pc := 4) d_X4_init_4 rfl rfl ?_
  refine C_iload_n (pc := 5) d_X4_init_5 rfl rfl ?_
  refine C_iload_n (pc := 6) d_X4_init_6 rfl rfl ?_
  refine C_multi (pc := 7) (n := n) (w := w) rfl cln_RX4_7 aw_ai hk1 hl1 (fun k => rf11 hk1) (fun k hk9 => ⟨(hk2 k hk9).1, (hk2 k hk9).2, fun j => congrFun (hZ _ (by omega)).1 j⟩) h0 hn h1 hw (by omega) (by omega) (Nat.le_refl _) (Nat.le_refl _) d_X4_init_7 ?_
  refine C_putR (pc := 11) (j := b + 1) fld_RX4_9 rfl rfl (Or.inr ⟨rfl, rfl⟩) hk (by omega) (rf4 hk) rfl rfl d_X4_init_11 ?_
  refine C_aload_n (pc := 14) d_X4_init_14 rfl rfl ?_
  refine C_iload_n (pc := 15) d_X4_init_15 rfl rfl ?_
  refine C_putI (pc := 16) fld_RX4_14 rfl rfl (Or.inr ⟨rfl, rfl⟩) hk (by omega) rfl rfl d_X4_init_16 ?_
  refine C_aload_n (pc := 19) d_X4_init_19 rfl rfl ?_
  refine C_iconst (pc := 20) (v := 0) d_X4_init_20 (by decide) ?_
  refine C_putI (pc := 21) fld_RX4_18 rfl rfl (Or.inr ⟨rfl, rfl⟩) hk (by omega) rfl rfl d_X4_init_21 ?_
  refine C_exit ⟨d_X4_init_24, rfl, ?_⟩
  refine ⟨by omega, fun i hi => ⟨?_, ?_⟩, fun i hi => ⟨?_, ?_⟩, fun i g1 g2 _ => ?_, rfl⟩
  · rw [mset_ne (by omega), mset_ne (by omega)]; exact (hZ i (by omega)).1
  · rw [nuset_ne (by omega)]; exact (hZ i (by omega)).2
  · rw [mset_ne (by omega), mset_ne (by omega)]
  · rw [nuset_ne (by omega)]
  · by_cases q : i = b
    · subst q
      refine ⟨?_, fun k hk9 => ?_⟩
      · rw [mset_at, mset_at, hm0, hi0, hbd.2.2]
        funext j
        unfold tI
        by_cases q2 : j = 2
        · subst q2; rw [pk_us]; rfl
        · rw [pk_un q2]
          by_cases q1 : j = 1
          · subst q1; rw [pk_us]; rfl
          · rw [pk_un q1, if_neg q1]
      · rcases hk9 with ⟨h9, -⟩ | ⟨-, h8, h9⟩
        · omega
        · rw [hk] at h8 h9
          have : k = 0 := by
            unfold nfC at h9
            have : k < 3 := h9
            rcases (show k = 0 ∨ k = 1 ∨ k = 2 by omega) with rfl | rfl | rfl
            · rfl
            · exact absurd h8 (by decide)
            · exact absurd h8 (by decide)
          subst this
          simp [nuset]
    · refine ⟨?_, fun k hk9 => ?_⟩
      · rw [mset_ne q, mset_ne q, (hZ i (by omega)).1, hz i (by omega) (by omega)]
      · exfalso
        have : kd i = 11 ∨ kd i = 9 := by
          by_cases q1 : i = b + 1
          · subst q1; exact Or.inl hk1
          · have := (hk2 (i - (b + 2)) (by omega)).1
            rw [show b + 2 + (i - (b + 2)) = i by omega] at this
            exact Or.inr this
        rcases hk9 with ⟨h9, -⟩ | ⟨h8, -⟩ <;> omega
theorem tS {b o n : Nat} (hb : ∀ o, o < 140 → kd (b + o) = sKd o ∧ ln (b + o) = sLn o ∧ ini (b + o) = iniS o) (h1 : o + 2 + n ≤ 140) (h2 : 1 ≤ o) (h3 : ∀ q, q < 2 + n → 0 < q → sKd (o + q) ≠ 4) : ∀ q, b + o < q → q < b + o + 2 + n → ini q = zF := fun q g1 g2 => by
  have := (hb (q - b) (by omega)).2.2
  rw [show b + (q - b) = q by omega] at this
  rw [this]
  refine iniS_z (by omega) ?_
  have h9 := h3 (q - b - o) (by omega) (by omega)
  rwa [show o + (q - b - o) = q - b by omega] at h9
theorem tK {b o n w : Nat} (hb : ∀ o, o < 140 → kd (b + o) = sKd o ∧ ln (b + o) = sLn o ∧ ini (b + o) = iniS o) (h1 : o + 2 + n ≤ 140) (h3 : ∀ k, k < n → sKd (o + 2 + k) = 9 ∧ sLn (o + 2 + k) = w) : ∀ k, k < n → kd (b + o + 2 + k) = 9 ∧ ln (b + o + 2 + k) = w := fun k hk => by
  have := hb (o + 2 + k) (by omega)
  rw [show b + o + 2 + k = b + (o + 2 + k) by omega]
  exact ⟨this.1.trans (h3 k hk).1, this.2.1.trans (h3 k hk).2⟩
theorem oi_RX3 : Cond.methodLink RX3 3 objectInit ∈ AW := aw_t 37 (by decide +kernel) (by decide +kernel)
theorem cln_RX3_19 : Cond.classLink RX3 19 RX4 ∈ AW := aw_t 38 (by decide +kernel) (by decide +kernel)
theorem cal_RX3_21 : calOK RX3 21 mX4_init 2 := ⟨rfl, by decide, aw_t 40 (by decide +kernel) (by decide +kernel), aw_t 42 (by decide +kernel) (by decide +kernel), aw_t 3 (by decide +kernel) (by decide +kernel), ⟨by decide, by decide⟩, by decide +kernel⟩
theorem d_X3_init_0 : decode mX3_init.2.1 0 = .ok (.aload_n 0, 1) := by decide +kernel
theorem d_X3_init_1 : decode mX3_init.2.1 1 = .ok (.invokespecial 3, 3) := by decide +kernel
theorem d_X3_init_4 : decode mX3_init.2.1 4 = .ok (.aload_n 0, 1) := by decide +kernel
theorem d_X3_init_5 : decode mX3_init.2.1 5 = .ok (.iconst 0, 1) := by decide +kernel
theorem d_X3_init_6 : decode mX3_init.2.1 6 = .ok (.putfield 9, 3) := by decide +kernel
theorem d_X3_init_9 : decode mX3_init.2.1 9 = .ok (.aload_n 0, 1) := by decide +kernel
theorem d_X3_init_10 : decode mX3_init.2.1 10 = .ok (.iconst 4, 1) := by decide +kernel
theorem d_X3_init_11 : decode mX3_init.2.1 11 = .ok (.newarray .int, 2) := by decide +kernel
theorem d_X3_init_13 : decode mX3_init.2.1 13 = .ok (.dup, 1) := by decide +kernel
theorem d_X3_init_14 : decode mX3_init.2.1 14 = .ok (.iconst 0, 1) := by decide +kernel
theorem d_X3_init_15 : decode mX3_init.2.1 15 = .ok (.iconst 1, 1) := by decide +kernel
theorem d_X3_init_16 : decode mX3_init.2.1 16 = .ok (.iastore, 1) := by decide +kernel
theorem d_X3_init_17 : decode mX3_init.2.1 17 = .ok (.dup, 1) := by decide +kernel
theorem d_X3_init_18 : decode mX3_init.2.1 18 = .ok (.iconst 1, 1) := by decide +kernel
theorem d_X3_init_19 : decode mX3_init.2.1 19 = .ok (.iconst 2, 1) := by decide +kernel
theorem d_X3_init_20 : decode mX3_init.2.1 20 = .ok (.iastore, 1) := by decide +kernel
theorem d_X3_init_21 : decode mX3_init.2.1 21 = .ok (.dup, 1) := by decide +kernel
theorem d_X3_init_22 : decode mX3_init.2.1 22 = .ok (.iconst 2, 1) := by decide +kernel
theorem d_X3_init_23 : decode mX3_init.2.1 23 = .ok (.iconst 3, 1) := by decide +kernel
theorem d_X3_init_24 : decode mX3_init.2.1 24 = .ok (.iastore, 1) := by decide +kernel
theorem d_X3_init_25 : decode mX3_init.2.1 25 = .ok (.dup, 1) := by decide +kernel
theorem d_X3_init_26 : decode mX3_init.2.1 26 = .ok (.iconst 3, 1) := by decide +kernel
theorem d_X3_init_27 : decode mX3_init.2.1 27 = .ok (.iconst 4, 1) := by decide +kernel
theorem d_X3_init_28 : decode mX3_init.2.1 28 = .ok (.iastore, 1) := by decide +kernel
theorem d_X3_init_29 : decode mX3_init.2.1 29 = .ok (.putfield 15, 3) := by decide +kernel
theorem d_X3_init_32 : decode mX3_init.2.1 32 = .ok (.aload_n 0, 1) := by decide +kernel
theorem d_X3_init_33 : decode mX3_init.2.1 33 = .ok (.new 19, 3) := by decide +kernel
theorem d_X3_init_36 : decode mX3_init.2.1 36 = .ok (.dup, 1) := by decide +kernel
theorem d_X3_init_37 : decode mX3_init.2.1 37 = .ok (.bipush 10, 2) := by decide +kernel
theorem d_X3_init_39 : decode mX3_init.2.1 39 = .ok (.iconst 3, 1) := by decide +kernel
theorem d_X3_init_40 : decode mX3_init.2.1 40 = .ok (.invokespecial 21, 3) := by decide +kernel
theorem d_X3_init_43 : decode mX3_init.2.1 43 = .ok (.putfield 24, 3) := by decide +kernel
theorem d_X3_init_46 : decode mX3_init.2.1 46 = .ok (.aload_n 0, 1) := by decide +kernel
theorem d_X3_init_47 : decode mX3_init.2.1 47 = .ok (.new 19, 3) := by decide +kernel
theorem d_X3_init_50 : decode mX3_init.2.1 50 = .ok (.dup, 1) := by decide +kernel
theorem d_X3_init_51 : decode mX3_init.2.1 51 = .ok (.bipush 12, 2) := by decide +kernel
theorem d_X3_init_53 : decode mX3_init.2.1 53 = .ok (.iconst 1, 1) := by decide +kernel
theorem d_X3_init_54 : decode mX3_init.2.1 54 = .ok (.invokespecial 21, 3) := by decide +kernel
theorem d_X3_init_57 : decode mX3_init.2.1 57 = .ok (.putfield 28, 3) := by decide +kernel
theorem d_X3_init_60 : decode mX3_init.2.1 60 = .ok (.aload_n 0, 1) := by decide +kernel
theorem d_X3_init_61 : decode mX3_init.2.1 61 = .ok (.new 19, 3) := by decide +kernel
theorem d_X3_init_64 : decode mX3_init.2.1 64 = .ok (.dup, 1) := by decide +kernel
theorem d_X3_init_65 : decode mX3_init.2.1 65 = .ok (.bipush 6, 2) := by decide +kernel
theorem d_X3_init_67 : decode mX3_init.2.1 67 = .ok (.iconst 4, 1) := by decide +kernel
theorem d_X3_init_68 : decode mX3_init.2.1 68 = .ok (.invokespecial 21, 3) := by decide +kernel
theorem d_X3_init_71 : decode mX3_init.2.1 71 = .ok (.putfield 31, 3) := by decide +kernel
theorem d_X3_init_74 : decode mX3_init.2.1 74 = .ok (.aload_n 0, 1) := by decide +kernel
theorem d_X3_init_75 : decode mX3_init.2.1 75 = .ok (.new 19, 3) := by decide +kernel
theorem d_X3_init_78 : decode mX3_init.2.1 78 = .ok (.dup, 1) := by decide +kernel
theorem d_X3_init_79 : decode mX3_init.2.1 79 = .ok (.bipush 60, 2) := by decide +kernel
theorem d_X3_init_81 : decode mX3_init.2.1 81 = .ok (.bipush 6, 2) := by decide +kernel
theorem d_X3_init_83 : decode mX3_init.2.1 83 = .ok (.invokespecial 21, 3) := by decide +kernel
theorem d_X3_init_86 : decode mX3_init.2.1 86 = .ok (.putfield 34, 3) := by decide +kernel
theorem d_X3_init_89 : decode mX3_init.2.1 89 = .ok (.aload_n 0, 1) := by decide +kernel
theorem d_X3_init_90 : decode mX3_init.2.1 90 = .ok (.new 19, 3) := by decide +kernel
theorem d_X3_init_93 : decode mX3_init.2.1 93 = .ok (.dup, 1) := by decide +kernel
theorem d_X3_init_94 : decode mX3_init.2.1 94 = .ok (.bipush 10, 2) := by decide +kernel
theorem d_X3_init_96 : decode mX3_init.2.1 96 = .ok (.iconst 5, 1) := by decide +kernel
theorem d_X3_init_97 : decode mX3_init.2.1 97 = .ok (.invokespecial 21, 3) := by decide +kernel
theorem d_X3_init_100 : decode mX3_init.2.1 100 = .ok (.putfield 37, 3) := by decide +kernel
theorem d_X3_init_103 : decode mX3_init.2.1 103 = .ok (.aload_n 0, 1) := by decide +kernel
theorem d_X3_init_104 : decode mX3_init.2.1 104 = .ok (.new 19, 3) := by decide +kernel
theorem d_X3_init_107 : decode mX3_init.2.1 107 = .ok (.dup, 1) := by decide +kernel
theorem d_X3_init_108 : decode mX3_init.2.1 108 = .ok (.bipush 6, 2) := by decide +kernel
theorem d_X3_init_110 : decode mX3_init.2.1 110 = .ok (.iconst 4, 1) := by decide +kernel
theorem d_X3_init_111 : decode mX3_init.2.1 111 = .ok (.invokespecial 21, 3) := by decide +kernel
theorem d_X3_init_114 : decode mX3_init.2.1 114 = .ok (.putfield 40, 3) := by decide +kernel
theorem d_X3_init_117 : decode mX3_init.2.1 117 = .ok (.aload_n 0, 1) := by decide +kernel
theorem d_X3_init_118 : decode mX3_init.2.1 118 = .ok (.new 19, 3) := by decide +kernel
theorem d_X3_init_121 : decode mX3_init.2.1 121 = .ok (.dup, 1) := by decide +kernel
theorem d_X3_init_122 : decode mX3_init.2.1 122 = .ok (.bipush 20, 2) := by decide +kernel
theorem d_X3_init_124 : decode mX3_init.2.1 124 = .ok (.iconst 2, 1) := by decide +kernel
theorem d_X3_init_125 : decode mX3_init.2.1 125 = .ok (.invokespecial 21, 3) := by decide +kernel
theorem d_X3_init_128 : decode mX3_init.2.1 128 = .ok (.putfield 43, 3) := by decide +kernel
theorem d_X3_init_131 : decode mX3_init.2.1 131 = .ok (.return_, 1) := by decide +kernel
set_option maxRecDepth 100000 in
set_option maxHeartbeats 4000000 in
theorem c_X3_init {g : GG} {b e : Nat} {ν : NU} {M : Mem} (he : e = b + 140) (hb0 : ∀ o, o < 140 → kd (b + o) = sKd o ∧ ln (b + o) = sLn o ∧ ini (b + o) = iniS o) (hZ : ZF (b + 1) ν M) (hm0 : M.1 b = zF) : CTc g 3 mX3_init [.ref (g.1 + b)] (b + 1) ν M 139 689 (CP b e ν M) := by
  subst he
  have hb := hb0
  have hk : kd b = 3 := (hb 0 (by omega)).1
  have hS : SG (fun i => i = b ∨ i = b + 1) b (b + 1) ν M ν M := SG_start hZ (Or.inl rfl)
  refine CTc_of (L := [some (.ref (g.1 + b))]) (by decide) rfl rfl (Nat.le_of_ble_eq_true rfl) rfl ?_
  refine C_aload_n (pc := 0) d_X3_init_0 rfl rfl ?_
  refine C_objInit (pc := 1) rfl oi_RX3 (Nat.le_of_ble_eq_true rfl) (by decide) d_X3_init_1 ?_
  refine C_aload_n (pc := 4) d_X3_init_4 rfl rfl ?_
  refine C_iconst (pc := 5) (v := 0) d_X3_init_5 (by decide) ?_
  refine C_putI (pc := 6) fld_RX3_9 rfl rfl (Or.inr ⟨rfl, rfl⟩) hk (by omega) (by decide) (by decide) d_X3_init_6 ?_
  have hS := SG_ms (i := b) (k := 0) (v := 0) hS (by omega) (by omega) (by omega)
  have hm0 := (mset_at (M := M) (i := b) (k := 0) (v := 0)).trans (congrArg (fun f => upd f 0 0) hm0)
  try dsimp only at hm0
  generalize mset M (b) 0 0 = M1 at hS hm0 ⊢
  refine C_aload_n (pc := 9) d_X3_init_9 rfl rfl ?_
  refine C_iconst (pc := 10) (v := 4) d_X3_init_10 (by decide) ?_
  refine C_newI (pc := 11) (n := 4) (hb 1 (by omega)).1 (hb 1 (by omega)).2.1 (hS.1 (b + 1) (by omega)).1 (by decide) (by decide) (by decide) (by decide) (by decide) d_X3_init_11 ?_
  have hm1 := (hS.1 (b + 1) (by omega)).1
  have hS := SG_arr hS (by omega) (Or.inl (by omega))
  show WPc g _ _ _ _ _ (b + 2) _ _ _ _ _
  refine C_dup (pc := 13) d_X3_init_13 rfl ?_
  refine C_iconst (pc := 14) (v := 0) d_X3_init_14 (by decide) ?_
  refine C_iconst (pc := 15) (v := 1) d_X3_init_15 (by decide) ?_
  refine C_iast (pc := 16) (i := b + 1) (j := 0) (hb 1 (by omega)).1 (by omega) (by rw [(hb 1 (by omega)).2.1]; unfold vp_in; decide) d_X3_init_16 ?_
  rw [show Int32.toNatClampNeg 0 = 0 by decide]
  have hS := SG_ms (i := b + 1) (k := 0) (v := 1) hS (by omega) (by omega) (by omega)
  have hm0 := (mset_ne (M := M1) (i := b + 1) (k := 0) (v := 1) (j := b) (by omega)).trans hm0
  have hm1 := (mset_at (M := M1) (i := b + 1) (k := 0) (v := 1)).trans (congrArg (fun f => upd f 0 1) hm1)
  try dsimp only at hm1
  generalize mset M1 (b + 1) 0 1 = M2 at hS hm0 hm1 ⊢
  refine C_dup (pc := 17) d_X3_init_17 rfl ?_
  refine C_iconst (pc := 18) (v := 1) d_X3_init_18 (by decide) ?_
  refine C_iconst (pc := 19) (v := 2) d_X3_init_19 (by decide) ?_
  refine C_iast (pc := 20) (i := b + 1) (j := 1) (hb 1 (by omega)).1 (by omega) (by rw [(hb 1 (by omega)).2.1]; unfold vp_in; decide) d_X3_init_20 ?_
  rw [show Int32.toNatClampNeg 1 = 1 by decide]
  have hS := SG_ms (i := b + 1) (k := 1) (v := 2) hS (by omega) (by omega) (by omega)
  have hm0 := (mset_ne (M := M2) (i := b + 1) (k := 1) (v := 2) (j := b) (by omega)).trans hm0
  have hm1 := (mset_at (M := M2) (i := b + 1) (k := 1) (v := 2)).trans (congrArg (fun f => upd f 1 2) hm1)
  try dsimp only at hm1
  generalize mset M2 (b + 1) 1 2 = M3 at hS hm0 hm1 ⊢
  refine C_dup (pc := 21) d_X3_init_21 rfl ?_
  refine C_iconst (pc := 22) (v := 2) d_X3_init_22 (by decide) ?_
  refine C_iconst (pc := 23) (v := 3) d_X3_init_23 (by decide) ?_
  refine C_iast (pc := 24) (i := b + 1) (j := 2) (hb 1 (by omega)).1 (by omega) (by rw [(hb 1 (by omega)).2.1]; unfold vp_in; decide) d_X3_init_24 ?_
  rw [show Int32.toNatClampNeg 2 = 2 by decide]
  have hS := SG_ms (i := b + 1) (k := 2) (v := 3) hS (by omega) (by omega) (by omega)
  have hm0 := (mset_ne (M := M3) (i := b + 1) (k := 2) (v := 3) (j := b) (by omega)).trans hm0
  have hm1 := (mset_at (M := M3) (i := b + 1) (k := 2) (v := 3)).trans (congrArg (fun f => upd f 2 3) hm1)
  try dsimp only at hm1
  generalize mset M3 (b + 1) 2 3 = M4 at hS hm0 hm1 ⊢
  refine C_dup (pc := 25) d_X3_init_25 rfl ?_
  refine C_iconst (pc := 26) (v := 3) d_X3_init_26 (by decide) ?_
  refine C_iconst (pc := 27) (v := 4) d_X3_init_27 (by decide) ?_
  refine C_iast (pc := 28) (i := b + 1) (j := 3) (hb 1 (by omega)).1 (by omega) (by rw [(hb 1 (by omega)).2.1]; unfold vp_in; decide) d_X3_init_28 ?_
  rw [show Int32.toNatClampNeg 3 = 3 by decide]
  have hS := SG_ms (i := b + 1) (k := 3) (v := 4) hS (by omega) (by omega) (by omega)
  have hm0 := (mset_ne (M := M4) (i := b + 1) (k := 3) (v := 4) (j := b) (by omega)).trans hm0
  have hm1 := (mset_at (M := M4) (i := b + 1) (k := 3) (v := 4)).trans (congrArg (fun f => upd f 3 4) hm1)
  try dsimp only at hm1
  generalize mset M4 (b + 1) 3 4 = M5 at hS hm0 hm1 ⊢
  refine C_putR (pc := 29) (j := b + 1) fld_RX3_15 rfl rfl (Or.inr ⟨rfl, rfl⟩) hk (by omega) (rf3 hk) (by rfl) (by rfl) d_X3_init_29 ?_
  have hS := SG_nu (i := b) (k := 1) hS (by omega) (by omega)
  have hn6 : nuset ν (b) 1 (b) 1 = true := by simp [nuset]
  generalize nuset ν (b) 1 = ν7 at hS hn6 ⊢
  refine C_aload_n (pc := 32) d_X3_init_32 rfl rfl ?_
  refine C_new (pc := 33) (n := 3) clsOK4 rfl cln_RX3_19 ins_4 inz_4 (hb 2 (by omega)).1 rfl (fun k => congrFun (hS.1 (b + 2) (by omega)).1 k) (fun k => congrFun (hS.1 (b + 2) (by omega)).2 k) dfl_4 (by decide) (by decide) d_X3_init_33 ?_
  refine C_dup (pc := 36) d_X3_init_36 rfl ?_
  refine C_bipush (pc := 37) (v := 10) d_X3_init_37 (by decide) ?_
  refine C_iconst (pc := 39) (v := 3) d_X3_init_39 (by decide) ?_
  refine C_call (pc := 40) (As := [.int 10, .int 3]) (rest := [.ref (g.1 + (b + 2)), .ref (g.1 + b)]) (c_X4_init (g := g) (b := b + 2) (n := 10) (w := 3) (e := b + 14) (by omega) (hb 2 (by omega)).1 (hb 3 (by omega)).1 (hb 3 (by omega)).2.1 ((hb 2 (by omega)).2.2.trans (iniS_t (by decide) (by decide))) (tS hb (by decide) (by decide) (by decide)) (tK hb (by decide) (by decide)) (by decide) (by decide) (by decide) (by decide) (by decide) (ZF_up hS.1) (hS.1 _ (Nat.le_refl _)).1) rfl cal_RX3_21 rfl rfl inm_4 (by decide) (by decide) (by decide) rfl rfl (Nat.le_of_ble_eq_true rfl) d_X3_init_40 (fun N9 ν9 M8 h10 => ?_)
  have q9 := h10.1
  subst q9
  have hS := SG_sub hS (by omega) h10
  have hm0 := (CP_at h10 (i := b) (by omega)).1.trans hm0
  have hm1 := (CP_at h10 (i := b + 1) (by omega)).1.trans hm1
  have hn6 : ν9 (b) (1) = true := (congrFun (CP_at h10 (i := b) (by omega)).2 _).trans hn6
  refine C_putR (pc := 43) (j := b + 2) fld_RX3_24 rfl rfl (Or.inr ⟨rfl, rfl⟩) hk (by omega) (rf3 hk) (by rfl) (by rfl) d_X3_init_43 ?_
  have hS := SG_nu (i := b) (k := 2) hS (by omega) (by omega)
  have hn6 : nuset ν9 (b) 2 (b) 1 = true := by simp [nuset, hn6]
  have hn11 : nuset ν9 (b) 2 (b) 2 = true := by simp [nuset]
  generalize nuset ν9 (b) 2 = ν12 at hS hn6 hn11 ⊢
  refine C_aload_n (pc := 46) d_X3_init_46 rfl rfl ?_
  refine C_new (pc := 47) (n := 3) clsOK4 rfl cln_RX3_19 ins_4 inz_4 (hb 14 (by omega)).1 rfl (fun k => congrFun (hS.1 (b + 14) (by omega)).1 k) (fun k => congrFun (hS.1 (b + 14) (by omega)).2 k) dfl_4 (by decide) (by decide) d_X3_init_47 ?_
  refine C_dup (pc := 50) d_X3_init_50 rfl ?_
  refine C_bipush (pc := 51) (v := 12) d_X3_init_51 (by decide) ?_
  refine C_iconst (pc := 53) (v := 1) d_X3_init_53 (by decide) ?_
  refine C_call (pc := 54) (As := [.int 12, .int 1]) (rest := [.ref (g.1 + (b + 14)), .ref (g.1 + b)]) (c_X4_init (g := g) (b := b + 14) (n := 12) (w := 1) (e := b + 28) (by omega) (hb 14 (by omega)).1 (hb 15 (by omega)).1 (hb 15 (by omega)).2.1 ((hb 14 (by omega)).2.2.trans (iniS_t (by decide) (by decide))) (tS hb (by decide) (by decide) (by decide)) (tK hb (by decide) (by decide)) (by decide) (by decide) (by decide) (by decide) (by decide) (ZF_up hS.1) (hS.1 _ (Nat.le_refl _)).1) rfl cal_RX3_21 rfl rfl inm_4 (by decide) (by decide) (by decide) rfl rfl (Nat.le_of_ble_eq_true rfl) d_X3_init_54 (fun N9 ν14 M13 h15 => ?_)
  have q9 := h15.1
  subst q9
  have hS := SG_sub hS (by omega) h15
  have hm0 := (CP_at h15 (i := b) (by omega)).1.trans hm0
  have hm1 := (CP_at h15 (i := b + 1) (by omega)).1.trans hm1
  have hn6 : ν14 (b) (1) = true := (congrFun (CP_at h15 (i := b) (by omega)).2 _).trans hn6
  have hn11 : ν14 (b) (2) = true := (congrFun (CP_at h15 (i := b) (by omega)).2 _).trans hn11
  refine C_putR (pc := 57) (j := b + 14) fld_RX3_28 rfl rfl (Or.inr ⟨rfl, rfl⟩) hk (by omega) (rf3 hk) (by rfl) (by rfl) d_X3_init_57 ?_
  have hS := SG_nu (i := b) (k := 3) hS (by omega) (by omega)
  have hn6 : nuset ν14 (b) 3 (b) 1 = true := by simp [nuset, hn6]
  have hn11 : nuset ν14 (b) 3 (b) 2 = true := by simp [nuset, hn11]
  have hn16 : nuset ν14 (b) 3 (b) 3 = true := by simp [nuset]
  generalize nuset ν14 (b) 3 = ν17 at hS hn6 hn11 hn16 ⊢
  refine C_aload_n (pc := 60) d_X3_init_60 rfl rfl ?_
  refine C_new (pc := 61) (n := 3) clsOK4 rfl cln_RX3_19 ins_4 inz_4 (hb 28 (by omega)).1 rfl (fun k => congrFun (hS.1 (b + 28) (by omega)).1 k) (fun k => congrFun (hS.1 (b + 28) (by omega)).2 k) dfl_4 (by decide) (by decide) d_X3_init_61 ?_
  refine C_dup (pc := 64) d_X3_init_64 rfl ?_
  refine C_bipush (pc := 65) (v := 6) d_X3_init_65 (by decide) ?_
  refine C_iconst (pc := 67) (v := 4) d_X3_init_67 (by decide) ?_
  refine C_call (pc := 68) (As := [.int 6, .int 4]) (rest := [.ref (g.1 + (b + 28)), .ref (g.1 + b)]) (c_X4_init (g := g) (b := b + 28) (n := 6) (w := 4) (e := b + 36) (by omega) (hb 28 (by omega)).1 (hb 29 (by omega)).1 (hb 29 (by omega)).2.1 ((hb 28 (by omega)).2.2.trans (iniS_t (by decide) (by decide))) (tS hb (by decide) (by decide) (by decide)) (tK hb (by decide) (by decide)) (by decide) (by decide) (by decide) (by decide) (by decide) (ZF_up hS.1) (hS.1 _ (Nat.le_refl _)).1) rfl cal_RX3_21 rfl rfl inm_4 (by decide) (by decide) (by decide) rfl rfl (Nat.le_of_ble_eq_true rfl) d_X3_init_68 (fun N9 ν19 M18 h20 => ?_)
  have q9 := h20.1
  subst q9
  have hS := SG_sub hS (by omega) h20
  have hm0 := (CP_at h20 (i := b) (by omega)).1.trans hm0
  have hm1 := (CP_at h20 (i := b + 1) (by omega)).1.trans hm1
  have hn6 : ν19 (b) (1) = true := (congrFun (CP_at h20 (i := b) (by omega)).2 _).trans hn6
  have hn11 : ν19 (b) (2) = true := (congrFun (CP_at h20 (i := b) (by omega)).2 _).trans hn11
  have hn16 : ν19 (b) (3) = true := (congrFun (CP_at h20 (i := b) (by omega)).2 _).trans hn16
  refine C_putR (pc := 71) (j := b + 28) fld_RX3_31 rfl rfl (Or.inr ⟨rfl, rfl⟩) hk (by omega) (rf3 hk) (by rfl) (by rfl) d_X3_init_71 ?_
  have hS := SG_nu (i := b) (k := 4) hS (by omega) (by omega)
  have hn6 : nuset ν19 (b) 4 (b) 1 = true := by simp [nuset, hn6]
  have hn11 : nuset ν19 (b) 4 (b) 2 = true := by simp [nuset, hn11]
  have hn16 : nuset ν19 (b) 4 (b) 3 = true := by simp [nuset, hn16]
  have hn21 : nuset ν19 (b) 4 (b) 4 = true := by simp [nuset]
  generalize nuset ν19 (b) 4 = ν22 at hS hn6 hn11 hn16 hn21 ⊢
  refine C_aload_n (pc := 74) d_X3_init_74 rfl rfl ?_
  refine C_new (pc := 75) (n := 3) clsOK4 rfl cln_RX3_19 ins_4 inz_4 (hb 36 (by omega)).1 rfl (fun k => congrFun (hS.1 (b + 36) (by omega)).1 k) (fun k => congrFun (hS.1 (b + 36) (by omega)).2 k) dfl_4 (by decide) (by decide) d_X3_init_75 ?_
  refine C_dup (pc := 78) d_X3_init_78 rfl ?_
  refine C_bipush (pc := 79) (v := 60) d_X3_init_79 (by decide) ?_
  refine C_bipush (pc := 81) (v := 6) d_X3_init_81 (by decide) ?_
  refine C_call (pc := 83) (As := [.int 60, .int 6]) (rest := [.ref (g.1 + (b + 36)), .ref (g.1 + b)]) (c_X4_init (g := g) (b := b + 36) (n := 60) (w := 6) (e := b + 98) (by omega) (hb 36 (by omega)).1 (hb 37 (by omega)).1 (hb 37 (by omega)).2.1 ((hb 36 (by omega)).2.2.trans (iniS_t (by decide) (by decide))) (tS hb (by decide) (by decide) (by decide)) (tK hb (by decide) (by decide)) (by decide) (by decide) (by decide) (by decide) (by decide) (ZF_up hS.1) (hS.1 _ (Nat.le_refl _)).1) rfl cal_RX3_21 rfl rfl inm_4 (by decide) (by decide) (by decide) rfl rfl (Nat.le_of_ble_eq_true rfl) d_X3_init_83 (fun N9 ν24 M23 h25 => ?_)
  have q9 := h25.1
  subst q9
  have hS := SG_sub hS (by omega) h25
  have hm0 := (CP_at h25 (i := b) (by omega)).1.trans hm0
  have hm1 := (CP_at h25 (i := b + 1) (by omega)).1.trans hm1
  have hn6 : ν24 (b) (1) = true := (congrFun (CP_at h25 (i := b) (by omega)).2 _).trans hn6
  have hn11 : ν24 (b) (2) = true := (congrFun (CP_at h25 (i := b) (by omega)).2 _).trans hn11
  have hn16 : ν24 (b) (3) = true := (congrFun (CP_at h25 (i := b) (by omega)).2 _).trans hn16
  have hn21 : ν24 (b) (4) = true := (congrFun (CP_at h25 (i := b) (by omega)).2 _).trans hn21
  refine C_putR (pc := 86) (j := b + 36) fld_RX3_34 rfl rfl (Or.inr ⟨rfl, rfl⟩) hk (by omega) (rf3 hk) (by rfl) (by rfl) d_X3_init_86 ?_
  have hS := SG_nu (i := b) (k := 5) hS (by omega) (by omega)
  have hn6 : nuset ν24 (b) 5 (b) 1 = true := by simp [nuset, hn6]
  have hn11 : nuset ν24 (b) 5 (b) 2 = true := by simp [nuset, hn11]
  have hn16 : nuset ν24 (b) 5 (b) 3 = true := by simp [nuset, hn16]
  have hn21 : nuset ν24 (b) 5 (b) 4 = true := by simp [nuset, hn21]
  have hn26 : nuset ν24 (b) 5 (b) 5 = true := by simp [nuset]
  generalize nuset ν24 (b) 5 = ν27 at hS hn6 hn11 hn16 hn21 hn26 ⊢
  refine C_aload_n (pc := 89) d_X3_init_89 rfl rfl ?_
  refine C_new (pc := 90) (n := 3) clsOK4 rfl cln_RX3_19 ins_4 inz_4 (hb 98 (by omega)).1 rfl (fun k => congrFun (hS.1 (b + 98) (by omega)).1 k) (fun k => congrFun (hS.1 (b + 98) (by omega)).2 k) dfl_4 (by decide) (by decide) d_X3_init_90 ?_
  refine C_dup (pc := 93) d_X3_init_93 rfl ?_
  refine C_bipush (pc := 94) (v := 10) d_X3_init_94 (by decide) ?_
  refine C_iconst (pc := 96) (v := 5) d_X3_init_96 (by decide) ?_
  refine C_call (pc := 97) (As := [.int 10, .int 5]) (rest := [.ref (g.1 + (b + 98)), .ref (g.1 + b)]) (c_X4_init (g := g) (b := b + 98) (n := 10) (w := 5) (e := b + 110) (by omega) (hb 98 (by omega)).1 (hb 99 (by omega)).1 (hb 99 (by omega)).2.1 ((hb 98 (by omega)).2.2.trans (iniS_t (by decide) (by decide))) (tS hb (by decide) (by decide) (by decide)) (tK hb (by decide) (by decide)) (by decide) (by decide) (by decide) (by decide) (by decide) (ZF_up hS.1) (hS.1 _ (Nat.le_refl _)).1) rfl cal_RX3_21 rfl rfl inm_4 (by decide) (by decide) (by decide) rfl rfl (Nat.le_of_ble_eq_true rfl) d_X3_init_97 (fun N9 ν29 M28 h30 => ?_)
  have q9 := h30.1
  subst q9
  have hS := SG_sub hS (by omega) h30
  have hm0 := (CP_at h30 (i := b) (by omega)).1.trans hm0
  have hm1 := (CP_at h30 (i := b + 1) (by omega)).1.trans hm1
  have hn6 : ν29 (b) (1) = true := (congrFun (CP_at h30 (i := b) (by omega)).2 _).trans hn6
  have hn11 : ν29 (b) (2) = true := (congrFun (CP_at h30 (i := b) (by omega)).2 _).trans hn11
  have hn16 : ν29 (b) (3) = true := (congrFun (CP_at h30 (i := b) (by omega)).2 _).trans hn16
  have hn21 : ν29 (b) (4) = true := (congrFun (CP_at h30 (i := b) (by omega)).2 _).trans hn21
  have hn26 : ν29 (b) (5) = true := (congrFun (CP_at h30 (i := b) (by omega)).2 _).trans hn26
  refine C_putR (pc := 100) (j := b + 98) fld_RX3_37 rfl rfl (Or.inr ⟨rfl, rfl⟩) hk (by omega) (rf3 hk) (by rfl) (by rfl) d_X3_init_100 ?_
  have hS := SG_nu (i := b) (k := 6) hS (by omega) (by omega)
  have hn6 : nuset ν29 (b) 6 (b) 1 = true := by simp [nuset, hn6]
  have hn11 : nuset ν29 (b) 6 (b) 2 = true := by simp [nuset, hn11]
  have hn16 : nuset ν29 (b) 6 (b) 3 = true := by simp [nuset, hn16]
  have hn21 : nuset ν29 (b) 6 (b) 4 = true := by simp [nuset, hn21]
  have hn26 : nuset ν29 (b) 6 (b) 5 = true := by simp [nuset, hn26]
  have hn31 : nuset ν29 (b) 6 (b) 6 = true := by simp [nuset]
  generalize nuset ν29 (b) 6 = ν32 at hS hn6 hn11 hn16 hn21 hn26 hn31 ⊢
  refine C_aload_n (pc := 103) d_X3_init_103 rfl rfl ?_
  refine C_new (pc := 104) (n := 3) clsOK4 rfl cln_RX3_19 ins_4 inz_4 (hb 110 (by omega)).1 rfl (fun k => congrFun (hS.1 (b + 110) (by omega)).1 k) (fun k => congrFun (hS.1 (b + 110) (by omega)).2 k) dfl_4 (by decide) (by decide) d_X3_init_104 ?_
  refine C_dup (pc := 107) d_X3_init_107 rfl ?_
  refine C_bipush (pc := 108) (v := 6) d_X3_init_108 (by decide) ?_
  refine C_iconst (pc := 110) (v := 4) d_X3_init_110 (by decide) ?_
  refine C_call (pc := 111) (As := [.int 6, .int 4]) (rest := [.ref (g.1 + (b + 110)), .ref (g.1 + b)]) (c_X4_init (g := g) (b := b + 110) (n := 6) (w := 4) (e := b + 118) (by omega) (hb 110 (by omega)).1 (hb 111 (by omega)).1 (hb 111 (by omega)).2.1 ((hb 110 (by omega)).2.2.trans (iniS_t (by decide) (by decide))) (tS hb (by decide) (by decide) (by decide)) (tK hb (by decide) (by decide)) (by decide) (by decide) (by decide) (by decide) (by decide) (ZF_up hS.1) (hS.1 _ (Nat.le_refl _)).1) rfl cal_RX3_21 rfl rfl inm_4 (by decide) (by decide) (by decide) rfl rfl (Nat.le_of_ble_eq_true rfl) d_X3_init_111 (fun N9 ν34 M33 h35 => ?_)
  have q9 := h35.1
  subst q9
  have hS := SG_sub hS (by omega) h35
  have hm0 := (CP_at h35 (i := b) (by omega)).1.trans hm0
  have hm1 := (CP_at h35 (i := b + 1) (by omega)).1.trans hm1
  have hn6 : ν34 (b) (1) = true := (congrFun (CP_at h35 (i := b) (by omega)).2 _).trans hn6
  have hn11 : ν34 (b) (2) = true := (congrFun (CP_at h35 (i := b) (by omega)).2 _).trans hn11
  have hn16 : ν34 (b) (3) = true := (congrFun (CP_at h35 (i := b) (by omega)).2 _).trans hn16
  have hn21 : ν34 (b) (4) = true := (congrFun (CP_at h35 (i := b) (by omega)).2 _).trans hn21
  have hn26 : ν34 (b) (5) = true := (congrFun (CP_at h35 (i := b) (by omega)).2 _).trans hn26
  have hn31 : ν34 (b) (6) = true := (congrFun (CP_at h35 (i := b) (by omega)).2 _).trans hn31
  refine C_putR (pc := 114) (j := b + 110) fld_RX3_40 rfl rfl (Or.inr ⟨rfl, rfl⟩) hk (by omega) (rf3 hk) (by rfl) (by rfl) d_X3_init_114 ?_
  have hS := SG_nu (i := b) (k := 7) hS (by omega) (by omega)
  have hn6 : nuset ν34 (b) 7 (b) 1 = true := by simp [nuset, hn6]
  have hn11 : nuset ν34 (b) 7 (b) 2 = true := by simp [nuset, hn11]
  have hn16 : nuset ν34 (b) 7 (b) 3 = true := by simp [nuset, hn16]
  have hn21 : nuset ν34 (b) 7 (b) 4 = true := by simp [nuset, hn21]
  have hn26 : nuset ν34 (b) 7 (b) 5 = true := by simp [nuset, hn26]
  have hn31 : nuset ν34 (b) 7 (b) 6 = true := by simp [nuset, hn31]
  have hn36 : nuset ν34 (b) 7 (b) 7 = true := by simp [nuset]
  generalize nuset ν34 (b) 7 = ν37 at hS hn6 hn11 hn16 hn21 hn26 hn31 hn36 ⊢
  refine C_aload_n (pc := 117) d_X3_init_117 rfl rfl ?_
  refine C_new (pc := 118) (n := 3) clsOK4 rfl cln_RX3_19 ins_4 inz_4 (hb 118 (by omega)).1 rfl (fun k => congrFun (hS.1 (b + 118) (by omega)).1 k) (fun k => congrFun (hS.1 (b + 118) (by omega)).2 k) dfl_4 (by decide) (by decide) d_X3_init_118 ?_
  refine C_dup (pc := 121) d_X3_init_121 rfl ?_
  refine C_bipush (pc := 122) (v := 20) d_X3_init_122 (by decide) ?_
  refine C_iconst (pc := 124) (v := 2) d_X3_init_124 (by decide) ?_
  refine C_call (pc := 125) (As := [.int 20, .int 2]) (rest := [.ref (g.1 + (b + 118)), .ref (g.1 + b)]) (c_X4_init (g := g) (b := b + 118) (n := 20) (w := 2) (e := b + 140) (by omega) (hb 118 (by omega)).1 (hb 119 (by omega)).1 (hb 119 (by omega)).2.1 ((hb 118 (by omega)).2.2.trans (iniS_t (by decide) (by decide))) (tS hb (by decide) (by decide) (by decide)) (tK hb (by decide) (by decide)) (by decide) (by decide) (by decide) (by decide) (by decide) (ZF_up hS.1) (hS.1 _ (Nat.le_refl _)).1) rfl cal_RX3_21 rfl rfl inm_4 (by decide) (by decide) (by decide) rfl rfl (Nat.le_of_ble_eq_true rfl) d_X3_init_125 (fun N9 ν39 M38 h40 => ?_)
  have q9 := h40.1
  subst q9
  have hS := SG_sub hS (by omega) h40
  have hm0 := (CP_at h40 (i := b) (by omega)).1.trans hm0
  have hm1 := (CP_at h40 (i := b + 1) (by omega)).1.trans hm1
  have hn6 : ν39 (b) (1) = true := (congrFun (CP_at h40 (i := b) (by omega)).2 _).trans hn6
  have hn11 : ν39 (b) (2) = true := (congrFun (CP_at h40 (i := b) (by omega)).2 _).trans hn11
  have hn16 : ν39 (b) (3) = true := (congrFun (CP_at h40 (i := b) (by omega)).2 _).trans hn16
  have hn21 : ν39 (b) (4) = true := (congrFun (CP_at h40 (i := b) (by omega)).2 _).trans hn21
  have hn26 : ν39 (b) (5) = true := (congrFun (CP_at h40 (i := b) (by omega)).2 _).trans hn26
  have hn31 : ν39 (b) (6) = true := (congrFun (CP_at h40 (i := b) (by omega)).2 _).trans hn31
  have hn36 : ν39 (b) (7) = true := (congrFun (CP_at h40 (i := b) (by omega)).2 _).trans hn36
  refine C_putR (pc := 128) (j := b + 118) fld_RX3_43 rfl rfl (Or.inr ⟨rfl, rfl⟩) hk (by omega) (rf3 hk) (by rfl) (by rfl) d_X3_init_128 ?_
  have hS := SG_nu (i := b) (k := 8) hS (by omega) (by omega)
  have hn6 : nuset ν39 (b) 8 (b) 1 = true := by simp [nuset, hn6]
  have hn11 : nuset ν39 (b) 8 (b) 2 = true := by simp [nuset, hn11]
  have hn16 : nuset ν39 (b) 8 (b) 3 = true := by simp [nuset, hn16]
  have hn21 : nuset ν39 (b) 8 (b) 4 = true := by simp [nuset, hn21]
  have hn26 : nuset ν39 (b) 8 (b) 5 = true := by simp [nuset, hn26]
  have hn31 : nuset ν39 (b) 8 (b) 6 = true := by simp [nuset, hn31]
  have hn36 : nuset ν39 (b) 8 (b) 7 = true := by simp [nuset, hn36]
  have hn41 : nuset ν39 (b) 8 (b) 8 = true := by simp [nuset]
  generalize nuset ν39 (b) 8 = ν42 at hS hn6 hn11 hn16 hn21 hn26 hn31 hn36 hn41 ⊢
  refine C_exit ⟨d_X3_init_131, rfl, ?_⟩
  refine SG_done hS (fun i hi => ?_)
  rcases hi with hi | hi
  · rw [hi]
    refine ⟨?_, fun k hk9 => ?_⟩
    · rw [hm0, show ini b = iniS 0 from (hb 0 (by omega)).2.2, iniS_z (by decide) (by decide)]; exact upd_zF 0
    · rcases hk9 with ⟨h9, -⟩ | ⟨-, h8, h9⟩
      · omega
      · rw [hk] at h8 h9
        have h9 : k < 9 := h9
        rcases (show k = 0 ∨ k = 1 ∨ k = 2 ∨ k = 3 ∨ k = 4 ∨ k = 5 ∨ k = 6 ∨ k = 7 ∨ k = 8 by omega) with rfl | rfl | rfl | rfl | rfl | rfl | rfl | rfl | rfl
        · exact absurd h8 (by decide)
        all_goals assumption
  · rw [hi]
    refine ⟨?_, fun k hk9 => ?_⟩
    · rw [hm1, (hb 1 (by omega)).2.2]
      funext j
      unfold iniS
      rw [if_pos rfl]
      by_cases q3 : j = 3
      · subst q3; rw [pk_us]; rfl
      rw [pk_un q3]
      by_cases q2 : j = 2
      · subst q2; rw [pk_us]; rfl
      rw [pk_un q2]
      by_cases q1 : j = 1
      · subst q1; rw [pk_us]; rfl
      rw [pk_un q1]
      by_cases q0 : j = 0
      · subst q0; rw [pk_us]; rfl
      rw [pk_un q0, if_neg q0, if_neg q1, if_neg q2, if_neg q3]
    · exfalso
      have := (hb 1 (by omega)).1
      rw [this] at hk9
      rcases hk9 with ⟨h9, -⟩ | ⟨h8, -⟩
      · exact absurd h9 (by decide)
      · exact absurd h8 (by decide)
theorem sB1 : ∀ o, o < 140 → kd (1 + o) = sKd o ∧ ln (1 + o) = sLn o ∧ ini (1 + o) = iniS o := fun o h => by
  refine ⟨?_, ?_, ?_⟩
  · unfold kd; rw [if_neg (by omega), if_pos (by omega), show (1 + o - 1) % 140 = o by omega]
  · unfold ln; rw [if_pos (by omega), show (1 + o - 1) % 140 = o by omega]
  · unfold ini; rw [if_neg (by omega), if_pos (by omega), show (1 + o - 1) % 140 = o by omega]
theorem sB141 : ∀ o, o < 140 → kd (141 + o) = sKd o ∧ ln (141 + o) = sLn o ∧ ini (141 + o) = iniS o := fun o h => by
  refine ⟨?_, ?_, ?_⟩
  · unfold kd; rw [if_neg (by omega), if_pos (by omega), show (141 + o - 1) % 140 = o by omega]
  · unfold ln; rw [if_pos (by omega), show (141 + o - 1) % 140 = o by omega]
  · unfold ini; rw [if_neg (by omega), if_pos (by omega), show (141 + o - 1) % 140 = o by omega]
theorem sBh (j : Nat) (hj : j < 9) : ∀ o, o < 140 → kd (283 + 140 * j + o) = sKd o ∧ ln (283 + 140 * j + o) = sLn o ∧ ini (283 + 140 * j + o) = iniS o := fun o h => by
  refine ⟨?_, ?_, ?_⟩
  · unfold kd; rw [if_neg (by omega), if_neg (by omega), if_neg (by omega), if_neg (by omega), if_pos (by omega), show (283 + 140 * j + o - 283) % 140 = o by omega]
  · unfold ln; rw [if_neg (by omega), if_neg (by omega), if_pos (by omega), show (283 + 140 * j + o - 283) % 140 = o by omega]
  · unfold ini; rw [if_neg (by omega), if_neg (by omega), if_neg (by omega), if_pos (by omega), show (283 + 140 * j + o - 283) % 140 = o by omega]
theorem tz1546 : ∀ q, 1546 < q → q < 1546 + 2 + 3 → ini q = zF := fun q h1 h2 => by unfold ini; rw [if_neg (by omega), if_neg (by omega), if_neg (by omega), if_neg (by omega), if_neg (by omega), if_neg (by omega), if_neg (by omega), if_neg (by omega)]
theorem tz1553 : ∀ q, 1553 < q → q < 1553 + 2 + 27 → ini q = zF := fun q h1 h2 => by unfold ini; rw [if_neg (by omega), if_neg (by omega), if_neg (by omega), if_neg (by omega), if_neg (by omega), if_neg (by omega), if_neg (by omega), if_neg (by omega)]
theorem sB283 : ∀ o, o < 140 → kd (283 + o) = sKd o ∧ ln (283 + o) = sLn o ∧ ini (283 + o) = iniS o := sBh 0 (by decide)
theorem sB423 : ∀ o, o < 140 → kd (423 + o) = sKd o ∧ ln (423 + o) = sLn o ∧ ini (423 + o) = iniS o := sBh 1 (by decide)
theorem sB563 : ∀ o, o < 140 → kd (563 + o) = sKd o ∧ ln (563 + o) = sLn o ∧ ini (563 + o) = iniS o := sBh 2 (by decide)
theorem sB703 : ∀ o, o < 140 → kd (703 + o) = sKd o ∧ ln (703 + o) = sLn o ∧ ini (703 + o) = iniS o := sBh 3 (by decide)
theorem sB843 : ∀ o, o < 140 → kd (843 + o) = sKd o ∧ ln (843 + o) = sLn o ∧ ini (843 + o) = iniS o := sBh 4 (by decide)
theorem sB983 : ∀ o, o < 140 → kd (983 + o) = sKd o ∧ ln (983 + o) = sLn o ∧ ini (983 + o) = iniS o := sBh 5 (by decide)
theorem sB1123 : ∀ o, o < 140 → kd (1123 + o) = sKd o ∧ ln (1123 + o) = sLn o ∧ ini (1123 + o) = iniS o := sBh 6 (by decide)
theorem sB1263 : ∀ o, o < 140 → kd (1263 + o) = sKd o ∧ ln (1263 + o) = sLn o ∧ ini (1263 + o) = iniS o := sBh 7 (by decide)
theorem sB1403 : ∀ o, o < 140 → kd (1403 + o) = sKd o ∧ ln (1403 + o) = sLn o ∧ ini (1403 + o) = iniS o := sBh 8 (by decide)
theorem upd_j : upd zF 6 (-1) = ini 1543 := by
  funext j
  by_cases h : j = 6
  · subst h; rw [pk_us]; rfl
  · rw [pk_un h]
    exact (if_neg h).symm
theorem upd_s : upd (upd (upd (upd zF 8 1) 9 2) 10 3) 11 4 = ini 1583 := by
  funext j
  show _ = (fun k => if k = 8 then 1 else if k = 9 then 2 else if k = 10 then 3 else if k = 11 then 4 else 0) j
  by_cases q3 : j = 11
  · subst q3; rw [pk_us]; rfl
  rw [pk_un q3]
  by_cases q2 : j = 10
  · subst q2; rw [pk_us]; rfl
  rw [pk_un q2]
  by_cases q1 : j = 9
  · subst q1; rw [pk_us]; rfl
  rw [pk_un q1]
  by_cases q0 : j = 8
  · subst q0; rw [pk_us]; rfl
  rw [pk_un q0]
  simp only [if_neg q0, if_neg q1, if_neg q2, if_neg q3]
theorem oi_RX2 : Cond.methodLink RX2 3 objectInit ∈ AW := aw_t 138 (by decide +kernel) (by decide +kernel)
theorem d_X2_init_0 : decode mX2_init.2.1 0 = .ok (.aload_n 0, 1) := by decide +kernel
theorem d_X2_init_1 : decode mX2_init.2.1 1 = .ok (.invokespecial 3, 3) := by decide +kernel
theorem d_X2_init_4 : decode mX2_init.2.1 4 = .ok (.aload_n 0, 1) := by decide +kernel
theorem d_X2_init_5 : decode mX2_init.2.1 5 = .ok (.aload_n 1, 1) := by decide +kernel
theorem d_X2_init_6 : decode mX2_init.2.1 6 = .ok (.putfield 9, 3) := by decide +kernel
theorem d_X2_init_9 : decode mX2_init.2.1 9 = .ok (.aload_n 0, 1) := by decide +kernel
theorem d_X2_init_10 : decode mX2_init.2.1 10 = .ok (.bipush 10, 2) := by decide +kernel
theorem d_X2_init_12 : decode mX2_init.2.1 12 = .ok (.newarray .int, 2) := by decide +kernel
theorem d_X2_init_14 : decode mX2_init.2.1 14 = .ok (.putfield 15, 3) := by decide +kernel
theorem d_X2_init_17 : decode mX2_init.2.1 17 = .ok (.aload_n 0, 1) := by decide +kernel
theorem d_X2_init_18 : decode mX2_init.2.1 18 = .ok (.iconst 0, 1) := by decide +kernel
theorem d_X2_init_19 : decode mX2_init.2.1 19 = .ok (.putfield 19, 3) := by decide +kernel
theorem d_X2_init_22 : decode mX2_init.2.1 22 = .ok (.aload_n 0, 1) := by decide +kernel
theorem d_X2_init_23 : decode mX2_init.2.1 23 = .ok (.iconst 0, 1) := by decide +kernel
theorem d_X2_init_24 : decode mX2_init.2.1 24 = .ok (.putfield 23, 3) := by decide +kernel
theorem d_X2_init_27 : decode mX2_init.2.1 27 = .ok (.aload_n 0, 1) := by decide +kernel
theorem d_X2_init_28 : decode mX2_init.2.1 28 = .ok (.iconst 0, 1) := by decide +kernel
theorem d_X2_init_29 : decode mX2_init.2.1 29 = .ok (.putfield 26, 3) := by decide +kernel
theorem d_X2_init_32 : decode mX2_init.2.1 32 = .ok (.aload_n 0, 1) := by decide +kernel
theorem d_X2_init_33 : decode mX2_init.2.1 33 = .ok (.iconst 0, 1) := by decide +kernel
theorem d_X2_init_34 : decode mX2_init.2.1 34 = .ok (.putfield 29, 3) := by decide +kernel
theorem d_X2_init_37 : decode mX2_init.2.1 37 = .ok (.aload_n 0, 1) := by decide +kernel
theorem d_X2_init_38 : decode mX2_init.2.1 38 = .ok (.iconst (-1), 1) := by decide +kernel
theorem d_X2_init_39 : decode mX2_init.2.1 39 = .ok (.putfield 32, 3) := by decide +kernel
theorem d_X2_init_42 : decode mX2_init.2.1 42 = .ok (.return_, 1) := by decide +kernel
set_option maxRecDepth 100000 in
set_option maxHeartbeats 4000000 in
theorem c_X2_init {g : GG} {ν : NU} {M : Mem} (hZ : ZF (1543 + 1) ν M) (hm0 : M.1 1543 = zF) : CTc g 2 mX2_init [.ref (g.1 + 1543), .ref (g.1 + 1)] (1543 + 1) ν M 1 10 (CP 1543 1545 ν M) := by
  have hS : SG (fun i => i = 1543) 1543 (1543 + 1) ν M ν M := SG_start hZ rfl
  refine CTc_of (L := [some (.ref (g.1 + 1543)), some (.ref (g.1 + 1))]) (by decide) rfl rfl (Nat.le_of_ble_eq_true rfl) rfl ?_
  refine C_aload_n (pc := 0) d_X2_init_0 rfl rfl ?_
  refine C_objInit (pc := 1) rfl oi_RX2 (Nat.le_of_ble_eq_true rfl) (by decide) d_X2_init_1 ?_
  refine C_aload_n (pc := 4) d_X2_init_4 rfl rfl ?_
  refine C_aload_n (pc := 5) d_X2_init_5 rfl rfl ?_
  refine C_putR (pc := 6) (j := 1) fld_RX2_9 rfl rfl (Or.inr ⟨rfl, rfl⟩) (by decide) (by omega) (by decide) (by rfl) (by rfl) d_X2_init_6 ?_
  have hS := SG_nu (i := 1543) (k := 0) hS (by omega) (by omega)
  have hn1 : nuset ν (1543) 0 (1543) 0 = true := by simp [nuset]
  generalize nuset ν (1543) 0 = ν2 at hS hn1 ⊢
  refine C_aload_n (pc := 9) d_X2_init_9 rfl rfl ?_
  refine C_bipush (pc := 10) (v := 10) d_X2_init_10 (by decide) ?_
  refine C_newI (pc := 12) (n := 10) (by decide) (by decide) (hS.1 (1544) (by omega)).1 (by decide) (by decide) (by decide) (by decide) (by decide) d_X2_init_12 ?_
  have hS := SG_arr hS (by omega) (Or.inr ⟨by rfl, by decide, by decide⟩)
  show WPc g _ _ _ _ _ (1545) _ _ _ _ _
  refine C_putR (pc := 14) (j := 1544) fld_RX2_15 rfl rfl (Or.inr ⟨rfl, rfl⟩) (by decide) (by omega) (by decide) (by rfl) (by rfl) d_X2_init_14 ?_
  have hS := SG_nu (i := 1543) (k := 1) hS (by omega) (by omega)
  have hn1 : nuset ν2 (1543) 1 (1543) 0 = true := by simp [nuset, hn1]
  have hn3 : nuset ν2 (1543) 1 (1543) 1 = true := by simp [nuset]
  generalize nuset ν2 (1543) 1 = ν4 at hS hn1 hn3 ⊢
  refine C_aload_n (pc := 17) d_X2_init_17 rfl rfl ?_
  refine C_iconst (pc := 18) (v := 0) d_X2_init_18 (by decide) ?_
  refine C_putI (pc := 19) fld_RX2_19 rfl rfl (Or.inr ⟨rfl, rfl⟩) (by decide) (by omega) (by decide) (by decide) d_X2_init_19 ?_
  have hS := SG_ms (i := 1543) (k := 2) (v := 0) hS (by omega) (by omega) (by omega)
  have hm0 := (mset_at (M := M) (i := 1543) (k := 2) (v := 0)).trans (congrArg (fun f => upd f 2 0) hm0)
  try dsimp only at hm0
  generalize mset M (1543) 2 0 = M5 at hS hm0 ⊢
  refine C_aload_n (pc := 22) d_X2_init_22 rfl rfl ?_
  refine C_iconst (pc := 23) (v := 0) d_X2_init_23 (by decide) ?_
  refine C_putI (pc := 24) fld_RX2_23 rfl rfl (Or.inr ⟨rfl, rfl⟩) (by decide) (by omega) (by decide) (by decide) d_X2_init_24 ?_
  have hS := SG_ms (i := 1543) (k := 3) (v := 0) hS (by omega) (by omega) (by omega)
  have hm0 := (mset_at (M := M5) (i := 1543) (k := 3) (v := 0)).trans (congrArg (fun f => upd f 3 0) hm0)
  try dsimp only at hm0
  generalize mset M5 (1543) 3 0 = M6 at hS hm0 ⊢
  refine C_aload_n (pc := 27) d_X2_init_27 rfl rfl ?_
  refine C_iconst (pc := 28) (v := 0) d_X2_init_28 (by decide) ?_
  refine C_putI (pc := 29) fld_RX2_26 rfl rfl (Or.inr ⟨rfl, rfl⟩) (by decide) (by omega) (by decide) (by decide) d_X2_init_29 ?_
  have hS := SG_ms (i := 1543) (k := 4) (v := 0) hS (by omega) (by omega) (by omega)
  have hm0 := (mset_at (M := M6) (i := 1543) (k := 4) (v := 0)).trans (congrArg (fun f => upd f 4 0) hm0)
  try dsimp only at hm0
  generalize mset M6 (1543) 4 0 = M7 at hS hm0 ⊢
  refine C_aload_n (pc := 32) d_X2_init_32 rfl rfl ?_
  refine C_iconst (pc := 33) (v := 0) d_X2_init_33 (by decide) ?_
  refine C_putI (pc := 34) fld_RX2_29 rfl rfl (Or.inr ⟨rfl, rfl⟩) (by decide) (by omega) (by decide) (by decide) d_X2_init_34 ?_
  have hS := SG_ms (i := 1543) (k := 5) (v := 0) hS (by omega) (by omega) (by omega)
  have hm0 := (mset_at (M := M7) (i := 1543) (k := 5) (v := 0)).trans (congrArg (fun f => upd f 5 0) hm0)
  try dsimp only at hm0
  generalize mset M7 (1543) 5 0 = M8 at hS hm0 ⊢
  refine C_aload_n (pc := 37) d_X2_init_37 rfl rfl ?_
  refine C_iconst (pc := 38) (v := (-1)) d_X2_init_38 (by decide) ?_
  refine C_putI (pc := 39) fld_RX2_32 rfl rfl (Or.inr ⟨rfl, rfl⟩) (by decide) (by omega) (by decide) (by decide) d_X2_init_39 ?_
  have hS := SG_ms (i := 1543) (k := 6) (v := (-1)) hS (by omega) (by omega) (by omega)
  have hm0 := (mset_at (M := M8) (i := 1543) (k := 6) (v := (-1))).trans (congrArg (fun f => upd f 6 (-1)) hm0)
  try dsimp only at hm0
  generalize mset M8 (1543) 6 (-1) = M9 at hS hm0 ⊢
  refine C_exit ⟨d_X2_init_42, rfl, ?_⟩
  refine SG_done hS (fun i hi => ?_)
  rw [hi]
  refine ⟨?_, fun k hk9 => ?_⟩
  · rw [hm0]; simp only [upd_zF]; exact upd_j
  · rcases hk9 with ⟨h9, -⟩ | ⟨-, h8, h9⟩
    · exact absurd h9 (by decide)
    · have h9 : k < 7 := h9
      rcases (show k = 0 ∨ k = 1 ∨ k = 2 ∨ k = 3 ∨ k = 4 ∨ k = 5 ∨ k = 6 by omega) with rfl | rfl | rfl | rfl | rfl | rfl | rfl
      all_goals first | assumption | exact absurd h8 (by decide)
theorem oi_RX0 : Cond.methodLink RX0 3 objectInit ∈ AW := aw_t 170 (by decide +kernel) (by decide +kernel)
theorem d_X0_init_0 : decode mX0_init.2.1 0 = .ok (.aload_n 0, 1) := by decide +kernel
theorem d_X0_init_1 : decode mX0_init.2.1 1 = .ok (.invokespecial 3, 3) := by decide +kernel
theorem d_X0_init_4 : decode mX0_init.2.1 4 = .ok (.aload_n 0, 1) := by decide +kernel
theorem d_X0_init_5 : decode mX0_init.2.1 5 = .ok (.aload_n 1, 1) := by decide +kernel
theorem d_X0_init_6 : decode mX0_init.2.1 6 = .ok (.putfield 9, 3) := by decide +kernel
theorem d_X0_init_9 : decode mX0_init.2.1 9 = .ok (.aload_n 0, 1) := by decide +kernel
theorem d_X0_init_10 : decode mX0_init.2.1 10 = .ok (.aload_n 2, 1) := by decide +kernel
theorem d_X0_init_11 : decode mX0_init.2.1 11 = .ok (.putfield 15, 3) := by decide +kernel
theorem d_X0_init_14 : decode mX0_init.2.1 14 = .ok (.return_, 1) := by decide +kernel
set_option maxRecDepth 100000 in
set_option maxHeartbeats 4000000 in
theorem c_X0_init {g : GG} {ν : NU} {M : Mem} (hZ : ZF (1545 + 1) ν M) (hm0 : M.1 1545 = zF) : CTc g 2 mX0_init [.ref (g.1 + 1545), .ref (g.1 + 1), .ref (g.1 + 1543)] (1545 + 1) ν M 0 0 (CP 1545 1546 ν M) := by
  have hS : SG (fun i => i = 1545) 1545 (1545 + 1) ν M ν M := SG_start hZ rfl
  refine CTc_of (L := [some (.ref (g.1 + 1545)), some (.ref (g.1 + 1)), some (.ref (g.1 + 1543))]) (by decide) rfl rfl (Nat.le_of_ble_eq_true rfl) rfl ?_
  refine C_aload_n (pc := 0) d_X0_init_0 rfl rfl ?_
  refine C_objInit (pc := 1) rfl oi_RX0 (Nat.le_of_ble_eq_true rfl) (by decide) d_X0_init_1 ?_
  refine C_aload_n (pc := 4) d_X0_init_4 rfl rfl ?_
  refine C_aload_n (pc := 5) d_X0_init_5 rfl rfl ?_
  refine C_putR (pc := 6) (j := 1) fld_RX0_9 rfl rfl (Or.inr ⟨rfl, rfl⟩) (by decide) (by omega) (by decide) (by rfl) (by rfl) d_X0_init_6 ?_
  have hS := SG_nu (i := 1545) (k := 0) hS (by omega) (by omega)
  have hn1 : nuset ν (1545) 0 (1545) 0 = true := by simp [nuset]
  generalize nuset ν (1545) 0 = ν2 at hS hn1 ⊢
  refine C_aload_n (pc := 9) d_X0_init_9 rfl rfl ?_
  refine C_aload_n (pc := 10) d_X0_init_10 rfl rfl ?_
  refine C_putR (pc := 11) (j := 1543) fld_RX0_15 rfl rfl (Or.inr ⟨rfl, rfl⟩) (by decide) (by omega) (by decide) (by rfl) (by rfl) d_X0_init_11 ?_
  have hS := SG_nu (i := 1545) (k := 1) hS (by omega) (by omega)
  have hn1 : nuset ν2 (1545) 1 (1545) 0 = true := by simp [nuset, hn1]
  have hn3 : nuset ν2 (1545) 1 (1545) 1 = true := by simp [nuset]
  generalize nuset ν2 (1545) 1 = ν4 at hS hn1 hn3 ⊢
  refine C_exit ⟨d_X0_init_14, rfl, ?_⟩
  refine SG_done hS (fun i hi => ?_)
  rw [hi]
  refine ⟨?_, fun k hk9 => ?_⟩
  · exact hm0.trans rfl
  · rcases hk9 with ⟨h9, -⟩ | ⟨-, h8, h9⟩
    · exact absurd h9 (by decide)
    · have h9 : k < 2 := h9
      rcases (show k = 0 ∨ k = 1 by omega) with rfl | rfl
      all_goals first | assumption | exact absurd h8 (by decide)
theorem oi_RX5 : Cond.methodLink RX5 3 objectInit ∈ AW := aw_t 185 (by decide +kernel) (by decide +kernel)
theorem cln_RX5_22 : Cond.classLink RX5 22 RX4 ∈ AW := aw_t 186 (by decide +kernel) (by decide +kernel)
theorem cal_RX5_24 : calOK RX5 24 mX4_init 2 := ⟨rfl, by decide, aw_t 187 (by decide +kernel) (by decide +kernel), aw_t 42 (by decide +kernel) (by decide +kernel), aw_t 3 (by decide +kernel) (by decide +kernel), ⟨by decide, by decide⟩, by decide +kernel⟩
theorem d_X5_init_0 : decode mX5_init.2.1 0 = .ok (.aload_n 0, 1) := by decide +kernel
theorem d_X5_init_1 : decode mX5_init.2.1 1 = .ok (.invokespecial 3, 3) := by decide +kernel
theorem d_X5_init_4 : decode mX5_init.2.1 4 = .ok (.aload_n 0, 1) := by decide +kernel
theorem d_X5_init_5 : decode mX5_init.2.1 5 = .ok (.bipush 80, 2) := by decide +kernel
theorem d_X5_init_7 : decode mX5_init.2.1 7 = .ok (.newarray .char, 2) := by decide +kernel
theorem d_X5_init_9 : decode mX5_init.2.1 9 = .ok (.putfield 9, 3) := by decide +kernel
theorem d_X5_init_12 : decode mX5_init.2.1 12 = .ok (.aload_n 0, 1) := by decide +kernel
theorem d_X5_init_13 : decode mX5_init.2.1 13 = .ok (.iconst 0, 1) := by decide +kernel
theorem d_X5_init_14 : decode mX5_init.2.1 14 = .ok (.putfield 15, 3) := by decide +kernel
theorem d_X5_init_17 : decode mX5_init.2.1 17 = .ok (.aload_n 0, 1) := by decide +kernel
theorem d_X5_init_18 : decode mX5_init.2.1 18 = .ok (.iconst 0, 1) := by decide +kernel
theorem d_X5_init_19 : decode mX5_init.2.1 19 = .ok (.putfield 19, 3) := by decide +kernel
theorem d_X5_init_22 : decode mX5_init.2.1 22 = .ok (.aload_n 0, 1) := by decide +kernel
theorem d_X5_init_23 : decode mX5_init.2.1 23 = .ok (.new 22, 3) := by decide +kernel
theorem d_X5_init_26 : decode mX5_init.2.1 26 = .ok (.dup, 1) := by decide +kernel
theorem d_X5_init_27 : decode mX5_init.2.1 27 = .ok (.bipush 27, 2) := by decide +kernel
theorem d_X5_init_29 : decode mX5_init.2.1 29 = .ok (.iconst 5, 1) := by decide +kernel
theorem d_X5_init_30 : decode mX5_init.2.1 30 = .ok (.invokespecial 24, 3) := by decide +kernel
theorem d_X5_init_33 : decode mX5_init.2.1 33 = .ok (.putfield 27, 3) := by decide +kernel
theorem d_X5_init_36 : decode mX5_init.2.1 36 = .ok (.return_, 1) := by decide +kernel
set_option maxRecDepth 100000 in
set_option maxHeartbeats 4000000 in
theorem c_X5_init {g : GG} {ν : NU} {M : Mem} (hZ : ZF (1551 + 1) ν M) (hm0 : M.1 1551 = zF) : CTc g 3 mX5_init [.ref (g.1 + 1551)] (1551 + 1) ν M 30 245 (CP 1551 1582 ν M) := by
  have hS : SG (fun i => i = 1551) 1551 (1551 + 1) ν M ν M := SG_start hZ rfl
  refine CTc_of (L := [some (.ref (g.1 + 1551))]) (by decide) rfl rfl (Nat.le_of_ble_eq_true rfl) rfl ?_
  refine C_aload_n (pc := 0) d_X5_init_0 rfl rfl ?_
  refine C_objInit (pc := 1) rfl oi_RX5 (Nat.le_of_ble_eq_true rfl) (by decide) d_X5_init_1 ?_
  refine C_aload_n (pc := 4) d_X5_init_4 rfl rfl ?_
  refine C_bipush (pc := 5) (v := 80) d_X5_init_5 (by decide) ?_
  refine C_newCh (pc := 7) (n := 80) (by decide) (by decide) (hS.1 (1552) (by omega)).1 (by decide) (by decide) (by decide) (by decide) (by decide) d_X5_init_7 ?_
  have hS := SG_arr hS (by omega) (Or.inr ⟨by rfl, by decide, by decide⟩)
  show WPc g _ _ _ _ _ (1553) _ _ _ _ _
  refine C_putR (pc := 9) (j := 1552) fld_RX5_9 rfl rfl (Or.inr ⟨rfl, rfl⟩) (by decide) (by omega) (by decide) (by rfl) (by rfl) d_X5_init_9 ?_
  have hS := SG_nu (i := 1551) (k := 0) hS (by omega) (by omega)
  have hn1 : nuset ν (1551) 0 (1551) 0 = true := by simp [nuset]
  generalize nuset ν (1551) 0 = ν2 at hS hn1 ⊢
  refine C_aload_n (pc := 12) d_X5_init_12 rfl rfl ?_
  refine C_iconst (pc := 13) (v := 0) d_X5_init_13 (by decide) ?_
  refine C_putI (pc := 14) fld_RX5_15 rfl rfl (Or.inr ⟨rfl, rfl⟩) (by decide) (by omega) (by decide) (by decide) d_X5_init_14 ?_
  have hS := SG_ms (i := 1551) (k := 1) (v := 0) hS (by omega) (by omega) (by omega)
  have hm0 := (mset_at (M := M) (i := 1551) (k := 1) (v := 0)).trans (congrArg (fun f => upd f 1 0) hm0)
  try dsimp only at hm0
  generalize mset M (1551) 1 0 = M3 at hS hm0 ⊢
  refine C_aload_n (pc := 17) d_X5_init_17 rfl rfl ?_
  refine C_iconst (pc := 18) (v := 0) d_X5_init_18 (by decide) ?_
  refine C_putI (pc := 19) fld_RX5_19 rfl rfl (Or.inr ⟨rfl, rfl⟩) (by decide) (by omega) (by decide) (by decide) d_X5_init_19 ?_
  have hS := SG_ms (i := 1551) (k := 2) (v := 0) hS (by omega) (by omega) (by omega)
  have hm0 := (mset_at (M := M3) (i := 1551) (k := 2) (v := 0)).trans (congrArg (fun f => upd f 2 0) hm0)
  try dsimp only at hm0
  generalize mset M3 (1551) 2 0 = M4 at hS hm0 ⊢
  refine C_aload_n (pc := 22) d_X5_init_22 rfl rfl ?_
  refine C_new (pc := 23) (n := 3) clsOK4 rfl cln_RX5_22 ins_4 inz_4 (by decide) rfl (fun k => congrFun (hS.1 (1553) (by omega)).1 k) (fun k => congrFun (hS.1 (1553) (by omega)).2 k) dfl_4 (by decide) (by decide) d_X5_init_23 ?_
  refine C_dup (pc := 26) d_X5_init_26 rfl ?_
  refine C_bipush (pc := 27) (v := 27) d_X5_init_27 (by decide) ?_
  refine C_iconst (pc := 29) (v := 5) d_X5_init_29 (by decide) ?_
  refine C_call (pc := 30) (As := [.int 27, .int 5]) (rest := [.ref (g.1 + 1553), .ref (g.1 + 1551)]) (c_X4_init (g := g) (b := 1553) (n := 27) (w := 5) (e := 1582) rfl (by decide) (by decide) (by decide) rfl (fun q h1 h2 => tz1553 q h1 h2) (by decide) (by decide) (by decide) (by decide) (by decide) (by decide) (ZF_up hS.1) (hS.1 _ (Nat.le_refl _)).1) rfl cal_RX5_24 rfl rfl inm_4 (by decide) (by decide) (by decide) rfl rfl (Nat.le_of_ble_eq_true rfl) d_X5_init_30 (fun N9 ν6 M5 h7 => ?_)
  have q9 := h7.1
  subst q9
  have hS := SG_sub hS (by omega) h7
  have hm0 := (CP_at h7 (i := 1551) (by omega)).1.trans hm0
  have hn1 : ν6 (1551) (0) = true := (congrFun (CP_at h7 (i := 1551) (by omega)).2 _).trans hn1
  refine C_putR (pc := 33) (j := 1553) fld_RX5_27 rfl rfl (Or.inr ⟨rfl, rfl⟩) (by decide) (by omega) (by decide) (by rfl) (by rfl) d_X5_init_33 ?_
  have hS := SG_nu (i := 1551) (k := 3) hS (by omega) (by omega)
  have hn1 : nuset ν6 (1551) 3 (1551) 0 = true := by simp [nuset, hn1]
  have hn8 : nuset ν6 (1551) 3 (1551) 3 = true := by simp [nuset]
  generalize nuset ν6 (1551) 3 = ν9 at hS hn1 hn8 ⊢
  refine C_exit ⟨d_X5_init_36, rfl, ?_⟩
  refine SG_done hS (fun i hi => ?_)
  rw [hi]
  refine ⟨?_, fun k hk9 => ?_⟩
  · rw [hm0]; simp only [upd_zF]; rfl
  · rcases hk9 with ⟨h9, -⟩ | ⟨-, h8, h9⟩
    · exact absurd h9 (by decide)
    · have h9 : k < 4 := h9
      rcases (show k = 0 ∨ k = 1 ∨ k = 2 ∨ k = 3 by omega) with rfl | rfl | rfl | rfl
      all_goals first | assumption | exact absurd h8 (by decide)
theorem oi_RX7 : Cond.methodLink RX7 1 objectInit ∈ AW := aw_t 1026 (by decide +kernel) (by decide +kernel)
theorem d_X7_init_0 : decode mX7_init.2.1 0 = .ok (.aload_n 0, 1) := by decide +kernel
theorem d_X7_init_1 : decode mX7_init.2.1 1 = .ok (.invokespecial 1, 3) := by decide +kernel
theorem d_X7_init_4 : decode mX7_init.2.1 4 = .ok (.aload_n 0, 1) := by decide +kernel
theorem d_X7_init_5 : decode mX7_init.2.1 5 = .ok (.sipush 552, 3) := by decide +kernel
theorem d_X7_init_8 : decode mX7_init.2.1 8 = .ok (.newarray .int, 2) := by decide +kernel
theorem d_X7_init_10 : decode mX7_init.2.1 10 = .ok (.putfield 7, 3) := by decide +kernel
theorem d_X7_init_13 : decode mX7_init.2.1 13 = .ok (.aload_n 0, 1) := by decide +kernel
theorem d_X7_init_14 : decode mX7_init.2.1 14 = .ok (.sipush 552, 3) := by decide +kernel
theorem d_X7_init_17 : decode mX7_init.2.1 17 = .ok (.newarray .int, 2) := by decide +kernel
theorem d_X7_init_19 : decode mX7_init.2.1 19 = .ok (.putfield 13, 3) := by decide +kernel
theorem d_X7_init_22 : decode mX7_init.2.1 22 = .ok (.aload_n 0, 1) := by decide +kernel
theorem d_X7_init_23 : decode mX7_init.2.1 23 = .ok (.sipush 552, 3) := by decide +kernel
theorem d_X7_init_26 : decode mX7_init.2.1 26 = .ok (.newarray .int, 2) := by decide +kernel
theorem d_X7_init_28 : decode mX7_init.2.1 28 = .ok (.putfield 16, 3) := by decide +kernel
theorem d_X7_init_31 : decode mX7_init.2.1 31 = .ok (.aload_n 0, 1) := by decide +kernel
theorem d_X7_init_32 : decode mX7_init.2.1 32 = .ok (.sipush 4416, 3) := by decide +kernel
theorem d_X7_init_35 : decode mX7_init.2.1 35 = .ok (.newarray .int, 2) := by decide +kernel
theorem d_X7_init_37 : decode mX7_init.2.1 37 = .ok (.putfield 19, 3) := by decide +kernel
theorem d_X7_init_40 : decode mX7_init.2.1 40 = .ok (.aload_n 0, 1) := by decide +kernel
theorem d_X7_init_41 : decode mX7_init.2.1 41 = .ok (.bipush 80, 2) := by decide +kernel
theorem d_X7_init_43 : decode mX7_init.2.1 43 = .ok (.newarray .int, 2) := by decide +kernel
theorem d_X7_init_45 : decode mX7_init.2.1 45 = .ok (.putfield 22, 3) := by decide +kernel
theorem d_X7_init_48 : decode mX7_init.2.1 48 = .ok (.aload_n 0, 1) := by decide +kernel
theorem d_X7_init_49 : decode mX7_init.2.1 49 = .ok (.iconst 3, 1) := by decide +kernel
theorem d_X7_init_50 : decode mX7_init.2.1 50 = .ok (.newarray .int, 2) := by decide +kernel
theorem d_X7_init_52 : decode mX7_init.2.1 52 = .ok (.putfield 25, 3) := by decide +kernel
theorem d_X7_init_55 : decode mX7_init.2.1 55 = .ok (.aload_n 0, 1) := by decide +kernel
theorem d_X7_init_56 : decode mX7_init.2.1 56 = .ok (.iconst 3, 1) := by decide +kernel
theorem d_X7_init_57 : decode mX7_init.2.1 57 = .ok (.newarray .int, 2) := by decide +kernel
theorem d_X7_init_59 : decode mX7_init.2.1 59 = .ok (.putfield 28, 3) := by decide +kernel
theorem d_X7_init_62 : decode mX7_init.2.1 62 = .ok (.aload_n 0, 1) := by decide +kernel
theorem d_X7_init_63 : decode mX7_init.2.1 63 = .ok (.bipush 42, 2) := by decide +kernel
theorem d_X7_init_65 : decode mX7_init.2.1 65 = .ok (.newarray .int, 2) := by decide +kernel
theorem d_X7_init_67 : decode mX7_init.2.1 67 = .ok (.putfield 31, 3) := by decide +kernel
theorem d_X7_init_70 : decode mX7_init.2.1 70 = .ok (.aload_n 0, 1) := by decide +kernel
theorem d_X7_init_71 : decode mX7_init.2.1 71 = .ok (.sipush 168, 3) := by decide +kernel
theorem d_X7_init_74 : decode mX7_init.2.1 74 = .ok (.newarray .int, 2) := by decide +kernel
theorem d_X7_init_76 : decode mX7_init.2.1 76 = .ok (.putfield 34, 3) := by decide +kernel
theorem d_X7_init_79 : decode mX7_init.2.1 79 = .ok (.iconst 0, 1) := by decide +kernel
theorem d_X7_init_80 : decode mX7_init.2.1 80 = .ok (.istore_n 1, 1) := by decide +kernel
theorem d_X7_init_81 : decode mX7_init.2.1 81 = .ok (.iload_n 1, 1) := by decide +kernel
theorem d_X7_init_82 : decode mX7_init.2.1 82 = .ok (.iconst 3, 1) := by decide +kernel
theorem d_X7_init_83 : decode mX7_init.2.1 83 = .ok (.if_icmp .ge 21, 3) := by decide +kernel
theorem d_X7_init_86 : decode mX7_init.2.1 86 = .ok (.aload_n 0, 1) := by decide +kernel
theorem d_X7_init_87 : decode mX7_init.2.1 87 = .ok (.getfield 7, 3) := by decide +kernel
theorem d_X7_init_90 : decode mX7_init.2.1 90 = .ok (.bipush 8, 2) := by decide +kernel
theorem d_X7_init_92 : decode mX7_init.2.1 92 = .ok (.iload_n 1, 1) := by decide +kernel
theorem d_X7_init_93 : decode mX7_init.2.1 93 = .ok (.iadd, 1) := by decide +kernel
theorem d_X7_init_94 : decode mX7_init.2.1 94 = .ok (.iload_n 1, 1) := by decide +kernel
theorem d_X7_init_95 : decode mX7_init.2.1 95 = .ok (.iconst 1, 1) := by decide +kernel
theorem d_X7_init_96 : decode mX7_init.2.1 96 = .ok (.iadd, 1) := by decide +kernel
theorem d_X7_init_97 : decode mX7_init.2.1 97 = .ok (.iastore, 1) := by decide +kernel
theorem d_X7_init_98 : decode mX7_init.2.1 98 = .ok (.iinc 1 1, 3) := by decide +kernel
theorem d_X7_init_101 : decode mX7_init.2.1 101 = .ok (.goto (-20), 3) := by decide +kernel
theorem d_X7_init_104 : decode mX7_init.2.1 104 = .ok (.aload_n 0, 1) := by decide +kernel
theorem d_X7_init_105 : decode mX7_init.2.1 105 = .ok (.getfield 7, 3) := by decide +kernel
theorem d_X7_init_108 : decode mX7_init.2.1 108 = .ok (.bipush 11, 2) := by decide +kernel
theorem d_X7_init_110 : decode mX7_init.2.1 110 = .ok (.iconst 4, 1) := by decide +kernel
theorem d_X7_init_111 : decode mX7_init.2.1 111 = .ok (.iastore, 1) := by decide +kernel
theorem d_X7_init_112 : decode mX7_init.2.1 112 = .ok (.return_, 1) := by decide +kernel
set_option maxRecDepth 100000 in
set_option maxHeartbeats 4000000 in
theorem c_X7_init {g : GG} {ν : NU} {M : Mem} (hZ : ZF (1582 + 1) ν M) (hm0 : M.1 1582 = zF) : CTc g 2 mX7_init [.ref (g.1 + 1582)] (1582 + 1) ν M 9 6368 (CP 1582 1592 ν M) := by
  have hS : SG (fun i => i = 1582 ∨ i = 1583) 1582 (1582 + 1) ν M ν M := SG_start hZ (Or.inl rfl)
  refine CTc_of (L := [some (.ref (g.1 + 1582)), none]) (by decide) rfl rfl (Nat.le_of_ble_eq_true rfl) rfl ?_
  refine C_aload_n (pc := 0) d_X7_init_0 rfl rfl ?_
  refine C_objInit (pc := 1) rfl oi_RX7 (Nat.le_of_ble_eq_true rfl) (by decide) d_X7_init_1 ?_
  refine C_aload_n (pc := 4) d_X7_init_4 rfl rfl ?_
  refine C_sipush (pc := 5) (v := 552) d_X7_init_5 (by decide) ?_
  refine C_newI (pc := 8) (n := 552) (by decide) (by decide) (hS.1 (1583) (by omega)).1 (by decide) (by decide) (by decide) (by decide) (by decide) d_X7_init_8 ?_
  have hm1583 := (hS.1 (1583) (by omega)).1
  have hS := SG_arr hS (by omega) (Or.inl (by omega))
  show WPc g _ _ _ _ _ (1584) _ _ _ _ _
  refine C_putR (pc := 10) (j := 1583) fld_RX7_7 rfl rfl (Or.inr ⟨rfl, rfl⟩) (by decide) (by omega) (by decide) (by rfl) (by rfl) d_X7_init_10 ?_
  have hS := SG_nu (i := 1582) (k := 1) hS (by omega) (by omega)
  have hn1 : nuset ν (1582) 1 (1582) 1 = true := by simp [nuset]
  generalize nuset ν (1582) 1 = ν2 at hS hn1 ⊢
  refine C_aload_n (pc := 13) d_X7_init_13 rfl rfl ?_
  refine C_sipush (pc := 14) (v := 552) d_X7_init_14 (by decide) ?_
  refine C_newI (pc := 17) (n := 552) (by decide) (by decide) (hS.1 (1584) (by omega)).1 (by decide) (by decide) (by decide) (by decide) (by decide) d_X7_init_17 ?_
  have hS := SG_arr hS (by omega) (Or.inr ⟨by rfl, by decide, by decide⟩)
  show WPc g _ _ _ _ _ (1585) _ _ _ _ _
  refine C_putR (pc := 19) (j := 1584) fld_RX7_13 rfl rfl (Or.inr ⟨rfl, rfl⟩) (by decide) (by omega) (by decide) (by rfl) (by rfl) d_X7_init_19 ?_
  have hS := SG_nu (i := 1582) (k := 2) hS (by omega) (by omega)
  have hn1 : nuset ν2 (1582) 2 (1582) 1 = true := by simp [nuset, hn1]
  have hn3 : nuset ν2 (1582) 2 (1582) 2 = true := by simp [nuset]
  generalize nuset ν2 (1582) 2 = ν4 at hS hn1 hn3 ⊢
  refine C_aload_n (pc := 22) d_X7_init_22 rfl rfl ?_
  refine C_sipush (pc := 23) (v := 552) d_X7_init_23 (by decide) ?_
  refine C_newI (pc := 26) (n := 552) (by decide) (by decide) (hS.1 (1585) (by omega)).1 (by decide) (by decide) (by decide) (by decide) (by decide) d_X7_init_26 ?_
  have hS := SG_arr hS (by omega) (Or.inr ⟨by rfl, by decide, by decide⟩)
  show WPc g _ _ _ _ _ (1586) _ _ _ _ _
  refine C_putR (pc := 28) (j := 1585) fld_RX7_16 rfl rfl (Or.inr ⟨rfl, rfl⟩) (by decide) (by omega) (by decide) (by rfl) (by rfl) d_X7_init_28 ?_
  have hS := SG_nu (i := 1582) (k := 3) hS (by omega) (by omega)
  have hn1 : nuset ν4 (1582) 3 (1582) 1 = true := by simp [nuset, hn1]
  have hn3 : nuset ν4 (1582) 3 (1582) 2 = true := by simp [nuset, hn3]
  have hn5 : nuset ν4 (1582) 3 (1582) 3 = true := by simp [nuset]
  generalize nuset ν4 (1582) 3 = ν6 at hS hn1 hn3 hn5 ⊢
  refine C_aload_n (pc := 31) d_X7_init_31 rfl rfl ?_
  refine C_sipush (pc := 32) (v := 4416) d_X7_init_32 (by decide) ?_
  refine C_newI (pc := 35) (n := 4416) (by decide) (by decide) (hS.1 (1586) (by omega)).1 (by decide) (by decide) (by decide) (by decide) (by decide) d_X7_init_35 ?_
  have hS := SG_arr hS (by omega) (Or.inr ⟨by rfl, by decide, by decide⟩)
  show WPc g _ _ _ _ _ (1587) _ _ _ _ _
  refine C_putR (pc := 37) (j := 1586) fld_RX7_19 rfl rfl (Or.inr ⟨rfl, rfl⟩) (by decide) (by omega) (by decide) (by rfl) (by rfl) d_X7_init_37 ?_
  have hS := SG_nu (i := 1582) (k := 4) hS (by omega) (by omega)
  have hn1 : nuset ν6 (1582) 4 (1582) 1 = true := by simp [nuset, hn1]
  have hn3 : nuset ν6 (1582) 4 (1582) 2 = true := by simp [nuset, hn3]
  have hn5 : nuset ν6 (1582) 4 (1582) 3 = true := by simp [nuset, hn5]
  have hn7 : nuset ν6 (1582) 4 (1582) 4 = true := by simp [nuset]
  generalize nuset ν6 (1582) 4 = ν8 at hS hn1 hn3 hn5 hn7 ⊢
  refine C_aload_n (pc := 40) d_X7_init_40 rfl rfl ?_
  refine C_bipush (pc := 41) (v := 80) d_X7_init_41 (by decide) ?_
  refine C_newI (pc := 43) (n := 80) (by decide) (by decide) (hS.1 (1587) (by omega)).1 (by decide) (by decide) (by decide) (by decide) (by decide) d_X7_init_43 ?_
  have hS := SG_arr hS (by omega) (Or.inr ⟨by rfl, by decide, by decide⟩)
  show WPc g _ _ _ _ _ (1588) _ _ _ _ _
  refine C_putR (pc := 45) (j := 1587) fld_RX7_22 rfl rfl (Or.inr ⟨rfl, rfl⟩) (by decide) (by omega) (by decide) (by rfl) (by rfl) d_X7_init_45 ?_
  have hS := SG_nu (i := 1582) (k := 7) hS (by omega) (by omega)
  have hn1 : nuset ν8 (1582) 7 (1582) 1 = true := by simp [nuset, hn1]
  have hn3 : nuset ν8 (1582) 7 (1582) 2 = true := by simp [nuset, hn3]
  have hn5 : nuset ν8 (1582) 7 (1582) 3 = true := by simp [nuset, hn5]
  have hn7 : nuset ν8 (1582) 7 (1582) 4 = true := by simp [nuset, hn7]
  have hn9 : nuset ν8 (1582) 7 (1582) 7 = true := by simp [nuset]
  generalize nuset ν8 (1582) 7 = ν10 at hS hn1 hn3 hn5 hn7 hn9 ⊢
  refine C_aload_n (pc := 48) d_X7_init_48 rfl rfl ?_
  refine C_iconst (pc := 49) (v := 3) d_X7_init_49 (by decide) ?_
  refine C_newI (pc := 50) (n := 3) (by decide) (by decide) (hS.1 (1588) (by omega)).1 (by decide) (by decide) (by decide) (by decide) (by decide) d_X7_init_50 ?_
  have hS := SG_arr hS (by omega) (Or.inr ⟨by rfl, by decide, by decide⟩)
  show WPc g _ _ _ _ _ (1589) _ _ _ _ _
  refine C_putR (pc := 52) (j := 1588) fld_RX7_25 rfl rfl (Or.inr ⟨rfl, rfl⟩) (by decide) (by omega) (by decide) (by rfl) (by rfl) d_X7_init_52 ?_
  have hS := SG_nu (i := 1582) (k := 9) hS (by omega) (by omega)
  have hn1 : nuset ν10 (1582) 9 (1582) 1 = true := by simp [nuset, hn1]
  have hn3 : nuset ν10 (1582) 9 (1582) 2 = true := by simp [nuset, hn3]
  have hn5 : nuset ν10 (1582) 9 (1582) 3 = true := by simp [nuset, hn5]
  have hn7 : nuset ν10 (1582) 9 (1582) 4 = true := by simp [nuset, hn7]
  have hn9 : nuset ν10 (1582) 9 (1582) 7 = true := by simp [nuset, hn9]
  have hn11 : nuset ν10 (1582) 9 (1582) 9 = true := by simp [nuset]
  generalize nuset ν10 (1582) 9 = ν12 at hS hn1 hn3 hn5 hn7 hn9 hn11 ⊢
  refine C_aload_n (pc := 55) d_X7_init_55 rfl rfl ?_
  refine C_iconst (pc := 56) (v := 3) d_X7_init_56 (by decide) ?_
  refine C_newI (pc := 57) (n := 3) (by decide) (by decide) (hS.1 (1589) (by omega)).1 (by decide) (by decide) (by decide) (by decide) (by decide) d_X7_init_57 ?_
  have hS := SG_arr hS (by omega) (Or.inr ⟨by rfl, by decide, by decide⟩)
  show WPc g _ _ _ _ _ (1590) _ _ _ _ _
  refine C_putR (pc := 59) (j := 1589) fld_RX7_28 rfl rfl (Or.inr ⟨rfl, rfl⟩) (by decide) (by omega) (by decide) (by rfl) (by rfl) d_X7_init_59 ?_
  have hS := SG_nu (i := 1582) (k := 10) hS (by omega) (by omega)
  have hn1 : nuset ν12 (1582) 10 (1582) 1 = true := by simp [nuset, hn1]
  have hn3 : nuset ν12 (1582) 10 (1582) 2 = true := by simp [nuset, hn3]
  have hn5 : nuset ν12 (1582) 10 (1582) 3 = true := by simp [nuset, hn5]
  have hn7 : nuset ν12 (1582) 10 (1582) 4 = true := by simp [nuset, hn7]
  have hn9 : nuset ν12 (1582) 10 (1582) 7 = true := by simp [nuset, hn9]
  have hn11 : nuset ν12 (1582) 10 (1582) 9 = true := by simp [nuset, hn11]
  have hn13 : nuset ν12 (1582) 10 (1582) 10 = true := by simp [nuset]
  generalize nuset ν12 (1582) 10 = ν14 at hS hn1 hn3 hn5 hn7 hn9 hn11 hn13 ⊢
  refine C_aload_n (pc := 62) d_X7_init_62 rfl rfl ?_
  refine C_bipush (pc := 63) (v := 42) d_X7_init_63 (by decide) ?_
  refine C_newI (pc := 65) (n := 42) (by decide) (by decide) (hS.1 (1590) (by omega)).1 (by decide) (by decide) (by decide) (by decide) (by decide) d_X7_init_65 ?_
  have hS := SG_arr hS (by omega) (Or.inr ⟨by rfl, by decide, by decide⟩)
  show WPc g _ _ _ _ _ (1591) _ _ _ _ _
  refine C_putR (pc := 67) (j := 1590) fld_RX7_31 rfl rfl (Or.inr ⟨rfl, rfl⟩) (by decide) (by omega) (by decide) (by rfl) (by rfl) d_X7_init_67 ?_
  have hS := SG_nu (i := 1582) (k := 20) hS (by omega) (by omega)
  have hn1 : nuset ν14 (1582) 20 (1582) 1 = true := by simp [nuset, hn1]
  have hn3 : nuset ν14 (1582) 20 (1582) 2 = true := by simp [nuset, hn3]
  have hn5 : nuset ν14 (1582) 20 (1582) 3 = true := by simp [nuset, hn5]
  have hn7 : nuset ν14 (1582) 20 (1582) 4 = true := by simp [nuset, hn7]
  have hn9 : nuset ν14 (1582) 20 (1582) 7 = true := by simp [nuset, hn9]
  have hn11 : nuset ν14 (1582) 20 (1582) 9 = true := by simp [nuset, hn11]
  have hn13 : nuset ν14 (1582) 20 (1582) 10 = true := by simp [nuset, hn13]
  have hn15 : nuset ν14 (1582) 20 (1582) 20 = true := by simp [nuset]
  generalize nuset ν14 (1582) 20 = ν16 at hS hn1 hn3 hn5 hn7 hn9 hn11 hn13 hn15 ⊢
  refine C_aload_n (pc := 70) d_X7_init_70 rfl rfl ?_
  refine C_sipush (pc := 71) (v := 168) d_X7_init_71 (by decide) ?_
  refine C_newI (pc := 74) (n := 168) (by decide) (by decide) (hS.1 (1591) (by omega)).1 (by decide) (by decide) (by decide) (by decide) (by decide) d_X7_init_74 ?_
  have hS := SG_arr hS (by omega) (Or.inr ⟨by rfl, by decide, by decide⟩)
  show WPc g _ _ _ _ _ (1592) _ _ _ _ _
  refine C_putR (pc := 76) (j := 1591) fld_RX7_34 rfl rfl (Or.inr ⟨rfl, rfl⟩) (by decide) (by omega) (by decide) (by rfl) (by rfl) d_X7_init_76 ?_
  have hS := SG_nu (i := 1582) (k := 21) hS (by omega) (by omega)
  have hn1 : nuset ν16 (1582) 21 (1582) 1 = true := by simp [nuset, hn1]
  have hn3 : nuset ν16 (1582) 21 (1582) 2 = true := by simp [nuset, hn3]
  have hn5 : nuset ν16 (1582) 21 (1582) 3 = true := by simp [nuset, hn5]
  have hn7 : nuset ν16 (1582) 21 (1582) 4 = true := by simp [nuset, hn7]
  have hn9 : nuset ν16 (1582) 21 (1582) 7 = true := by simp [nuset, hn9]
  have hn11 : nuset ν16 (1582) 21 (1582) 9 = true := by simp [nuset, hn11]
  have hn13 : nuset ν16 (1582) 21 (1582) 10 = true := by simp [nuset, hn13]
  have hn15 : nuset ν16 (1582) 21 (1582) 20 = true := by simp [nuset, hn15]
  have hn17 : nuset ν16 (1582) 21 (1582) 21 = true := by simp [nuset]
  generalize nuset ν16 (1582) 21 = ν18 at hS hn1 hn3 hn5 hn7 hn9 hn11 hn13 hn15 hn17 ⊢
  refine C_iconst (pc := 79) (v := 0) d_X7_init_79 (by decide) ?_
  refine C_istore_n (pc := 80) (L' := [some (.ref (g.1 + 1582)), some (.int 0)]) d_X7_init_80 rfl (by decide) rfl ?_
  refine C_iload_n (pc := 81) d_X7_init_81 rfl rfl ?_
  refine C_iconst (pc := 82) (v := 3) d_X7_init_82 (by decide) ?_
  refine C_icmp_ge (pc := 83) (tgt := 104) d_X7_init_83 (by decide) (fun h9 => absurd h9 (by decide)) (fun _ => ?_)
  refine C_aload_n (pc := 86) d_X7_init_86 rfl rfl ?_
  refine C_getR (pc := 87) fld_RX7_7 rfl rfl (by decide) (by omega) hn1 d_X7_init_87 ?_
  rw [show rf (1582) 1 = 1583 by decide]
  refine C_bipush (pc := 90) (v := 8) d_X7_init_90 (by decide) ?_
  refine C_iload_n (pc := 92) d_X7_init_92 rfl rfl ?_
  refine C_iadd (pc := 93) d_X7_init_93 ?_
  rw [show (8 : Int32) + 0 = 8 by decide]
  refine C_iload_n (pc := 94) d_X7_init_94 rfl rfl ?_
  refine C_iconst (pc := 95) (v := 1) d_X7_init_95 (by decide) ?_
  refine C_iadd (pc := 96) d_X7_init_96 ?_
  rw [show (0 : Int32) + 1 = 1 by decide]
  refine C_iast (pc := 97) (i := 1583) (j := 8) (by decide) (by omega) (by unfold vp_in; decide) d_X7_init_97 ?_
  rw [show Int32.toNatClampNeg 8 = 8 by decide]
  have hS := SG_ms (i := 1583) (k := 8) (v := 1) hS (by omega) (by omega) (by omega)
  have hm0 := (mset_ne (M := M) (i := 1583) (k := 8) (v := 1) (j := 1582) (by omega)).trans hm0
  have hm1583 := (mset_at (M := M) (i := 1583) (k := 8) (v := 1)).trans (congrArg (fun f => upd f 8 1) hm1583)
  try dsimp only at hm1583
  generalize mset M (1583) 8 1 = M19 at hS hm0 hm1583 ⊢
  refine C_iinc (pc := 98) (v := 1) (L' := [some (.ref (g.1 + 1582)), some (.int 1)]) d_X7_init_98 rfl (by decide) (by decide) rfl ?_
  refine C_goto (pc := 101) (tgt := 81) d_X7_init_101 (by decide) ?_
  refine C_iload_n (pc := 81) d_X7_init_81 rfl rfl ?_
  refine C_iconst (pc := 82) (v := 3) d_X7_init_82 (by decide) ?_
  refine C_icmp_ge (pc := 83) (tgt := 104) d_X7_init_83 (by decide) (fun h9 => absurd h9 (by decide)) (fun _ => ?_)
  refine C_aload_n (pc := 86) d_X7_init_86 rfl rfl ?_
  refine C_getR (pc := 87) fld_RX7_7 rfl rfl (by decide) (by omega) hn1 d_X7_init_87 ?_
  rw [show rf (1582) 1 = 1583 by decide]
  refine C_bipush (pc := 90) (v := 8) d_X7_init_90 (by decide) ?_
  refine C_iload_n (pc := 92) d_X7_init_92 rfl rfl ?_
  refine C_iadd (pc := 93) d_X7_init_93 ?_
  rw [show (8 : Int32) + 1 = 9 by decide]
  refine C_iload_n (pc := 94) d_X7_init_94 rfl rfl ?_
  refine C_iconst (pc := 95) (v := 1) d_X7_init_95 (by decide) ?_
  refine C_iadd (pc := 96) d_X7_init_96 ?_
  rw [show (1 : Int32) + 1 = 2 by decide]
  refine C_iast (pc := 97) (i := 1583) (j := 9) (by decide) (by omega) (by unfold vp_in; decide) d_X7_init_97 ?_
  rw [show Int32.toNatClampNeg 9 = 9 by decide]
  have hS := SG_ms (i := 1583) (k := 9) (v := 2) hS (by omega) (by omega) (by omega)
  have hm0 := (mset_ne (M := M19) (i := 1583) (k := 9) (v := 2) (j := 1582) (by omega)).trans hm0
  have hm1583 := (mset_at (M := M19) (i := 1583) (k := 9) (v := 2)).trans (congrArg (fun f => upd f 9 2) hm1583)
  try dsimp only at hm1583
  generalize mset M19 (1583) 9 2 = M20 at hS hm0 hm1583 ⊢
  refine C_iinc (pc := 98) (v := 2) (L' := [some (.ref (g.1 + 1582)), some (.int 2)]) d_X7_init_98 rfl (by decide) (by decide) rfl ?_
  refine C_goto (pc := 101) (tgt := 81) d_X7_init_101 (by decide) ?_
  refine C_iload_n (pc := 81) d_X7_init_81 rfl rfl ?_
  refine C_iconst (pc := 82) (v := 3) d_X7_init_82 (by decide) ?_
  refine C_icmp_ge (pc := 83) (tgt := 104) d_X7_init_83 (by decide) (fun h9 => absurd h9 (by decide)) (fun _ => ?_)
  refine C_aload_n (pc := 86) d_X7_init_86 rfl rfl ?_
  refine C_getR (pc := 87) fld_RX7_7 rfl rfl (by decide) (by omega) hn1 d_X7_init_87 ?_
  rw [show rf (1582) 1 = 1583 by decide]
  refine C_bipush (pc := 90) (v := 8) d_X7_init_90 (by decide) ?_
  refine C_iload_n (pc := 92) d_X7_init_92 rfl rfl ?_
  refine C_iadd (pc := 93) d_X7_init_93 ?_
  rw [show (8 : Int32) + 2 = 10 by decide]
  refine C_iload_n (pc := 94) d_X7_init_94 rfl rfl ?_
  refine C_iconst (pc := 95) (v := 1) d_X7_init_95 (by decide) ?_
  refine C_iadd (pc := 96) d_X7_init_96 ?_
  rw [show (2 : Int32) + 1 = 3 by decide]
  refine C_iast (pc := 97) (i := 1583) (j := 10) (by decide) (by omega) (by unfold vp_in; decide) d_X7_init_97 ?_
  rw [show Int32.toNatClampNeg 10 = 10 by decide]
  have hS := SG_ms (i := 1583) (k := 10) (v := 3) hS (by omega) (by omega) (by omega)
  have hm0 := (mset_ne (M := M20) (i := 1583) (k := 10) (v := 3) (j := 1582) (by omega)).trans hm0
  have hm1583 := (mset_at (M := M20) (i := 1583) (k := 10) (v := 3)).trans (congrArg (fun f => upd f 10 3) hm1583)
  try dsimp only at hm1583
  generalize mset M20 (1583) 10 3 = M21 at hS hm0 hm1583 ⊢
  refine C_iinc (pc := 98) (v := 3) (L' := [some (.ref (g.1 + 1582)), some (.int 3)]) d_X7_init_98 rfl (by decide) (by decide) rfl ?_
  refine C_goto (pc := 101) (tgt := 81) d_X7_init_101 (by decide) ?_
  refine C_iload_n (pc := 81) d_X7_init_81 rfl rfl ?_
  refine C_iconst (pc := 82) (v := 3) d_X7_init_82 (by decide) ?_
  refine C_icmp_ge (pc := 83) (tgt := 104) d_X7_init_83 (by decide) (fun _ => ?_) (fun h9 => absurd (by decide) h9)
  refine C_aload_n (pc := 104) d_X7_init_104 rfl rfl ?_
  refine C_getR (pc := 105) fld_RX7_7 rfl rfl (by decide) (by omega) hn1 d_X7_init_105 ?_
  rw [show rf (1582) 1 = 1583 by decide]
  refine C_bipush (pc := 108) (v := 11) d_X7_init_108 (by decide) ?_
  refine C_iconst (pc := 110) (v := 4) d_X7_init_110 (by decide) ?_
  refine C_iast (pc := 111) (i := 1583) (j := 11) (by decide) (by omega) (by unfold vp_in; decide) d_X7_init_111 ?_
  rw [show Int32.toNatClampNeg 11 = 11 by decide]
  have hS := SG_ms (i := 1583) (k := 11) (v := 4) hS (by omega) (by omega) (by omega)
  have hm0 := (mset_ne (M := M21) (i := 1583) (k := 11) (v := 4) (j := 1582) (by omega)).trans hm0
  have hm1583 := (mset_at (M := M21) (i := 1583) (k := 11) (v := 4)).trans (congrArg (fun f => upd f 11 4) hm1583)
  try dsimp only at hm1583
  generalize mset M21 (1583) 11 4 = M22 at hS hm0 hm1583 ⊢
  refine C_exit ⟨d_X7_init_112, rfl, ?_⟩
  refine SG_done hS (fun i hi => ?_)
  rcases hi with hi | hi
  · rw [hi]
    refine ⟨?_, fun k hk9 => ?_⟩
    · exact hm0.trans rfl
    · rcases hk9 with ⟨h9, -⟩ | ⟨-, h8, h9⟩
      · exact absurd h9 (by decide)
      · have h9 : k < 23 := h9
        rcases (show k = 0 ∨ k = 1 ∨ k = 2 ∨ k = 3 ∨ k = 4 ∨ k = 5 ∨ k = 6 ∨ k = 7 ∨ k = 8 ∨ k = 9 ∨ k = 10 ∨ k = 11 ∨ k = 12 ∨ k = 13 ∨ k = 14 ∨ k = 15 ∨ k = 16 ∨ k = 17 ∨ k = 18 ∨ k = 19 ∨ k = 20 ∨ k = 21 ∨ k = 22 by omega) with rfl | rfl | rfl | rfl | rfl | rfl | rfl | rfl | rfl | rfl | rfl | rfl | rfl | rfl | rfl | rfl | rfl | rfl | rfl | rfl | rfl | rfl | rfl
        all_goals first | assumption | exact absurd h8 (by decide)
  · rw [hi]
    refine ⟨hm1583.trans upd_s, fun k hk9 => ?_⟩
    rcases hk9 with ⟨h9, -⟩ | ⟨h8, -⟩
    · exact absurd h9 (by decide)
    · exact absurd h8 (by decide)
theorem oi_RX1 : Cond.methodLink RX1 3 objectInit ∈ AW := aw_t 118 (by decide +kernel) (by decide +kernel)
theorem cln_RX1_11 : Cond.classLink RX1 11 "VisitBooking$State" ∈ AW := aw_t 119 (by decide +kernel) (by decide +kernel)
theorem cal_RX1_17 : calOK RX1 17 mX3_init 0 := ⟨rfl, by decide, aw_t 121 (by decide +kernel) (by decide +kernel), aw_t 36 (by decide +kernel) (by decide +kernel), aw_t 2 (by decide +kernel) (by decide +kernel), ⟨by decide, by decide⟩, by decide +kernel⟩
theorem d_X1_init_0 : decode mX1_init.2.1 0 = .ok (.aload_n 0, 1) := by decide +kernel
theorem d_X1_init_1 : decode mX1_init.2.1 1 = .ok (.invokespecial 3, 3) := by decide +kernel
theorem d_X1_init_4 : decode mX1_init.2.1 4 = .ok (.aload_n 0, 1) := by decide +kernel
theorem d_X1_init_5 : decode mX1_init.2.1 5 = .ok (.bipush 9, 2) := by decide +kernel
theorem d_X1_init_7 : decode mX1_init.2.1 7 = .ok (.anewarray 11, 3) := by decide +kernel
theorem d_X1_init_10 : decode mX1_init.2.1 10 = .ok (.putfield 13, 3) := by decide +kernel
theorem d_X1_init_13 : decode mX1_init.2.1 13 = .ok (.iconst 0, 1) := by decide +kernel
theorem d_X1_init_14 : decode mX1_init.2.1 14 = .ok (.istore_n 1, 1) := by decide +kernel
theorem d_X1_init_15 : decode mX1_init.2.1 15 = .ok (.iload_n 1, 1) := by decide +kernel
theorem d_X1_init_16 : decode mX1_init.2.1 16 = .ok (.bipush 9, 2) := by decide +kernel
theorem d_X1_init_18 : decode mX1_init.2.1 18 = .ok (.if_icmp .ge 22, 3) := by decide +kernel
theorem d_X1_init_21 : decode mX1_init.2.1 21 = .ok (.aload_n 0, 1) := by decide +kernel
theorem d_X1_init_22 : decode mX1_init.2.1 22 = .ok (.getfield 13, 3) := by decide +kernel
theorem d_X1_init_25 : decode mX1_init.2.1 25 = .ok (.iload_n 1, 1) := by decide +kernel
theorem d_X1_init_26 : decode mX1_init.2.1 26 = .ok (.new 11, 3) := by decide +kernel
theorem d_X1_init_29 : decode mX1_init.2.1 29 = .ok (.dup, 1) := by decide +kernel
theorem d_X1_init_30 : decode mX1_init.2.1 30 = .ok (.invokespecial 17, 3) := by decide +kernel
theorem d_X1_init_33 : decode mX1_init.2.1 33 = .ok (.aastore, 1) := by decide +kernel
theorem d_X1_init_34 : decode mX1_init.2.1 34 = .ok (.iinc 1 1, 3) := by decide +kernel
theorem d_X1_init_37 : decode mX1_init.2.1 37 = .ok (.goto (-22), 3) := by decide +kernel
theorem d_X1_init_40 : decode mX1_init.2.1 40 = .ok (.aload_n 0, 1) := by decide +kernel
theorem d_X1_init_41 : decode mX1_init.2.1 41 = .ok (.iconst 0, 1) := by decide +kernel
theorem d_X1_init_42 : decode mX1_init.2.1 42 = .ok (.putfield 18, 3) := by decide +kernel
theorem d_X1_init_45 : decode mX1_init.2.1 45 = .ok (.aload_n 0, 1) := by decide +kernel
theorem d_X1_init_46 : decode mX1_init.2.1 46 = .ok (.iconst 0, 1) := by decide +kernel
theorem d_X1_init_47 : decode mX1_init.2.1 47 = .ok (.putfield 22, 3) := by decide +kernel
theorem d_X1_init_50 : decode mX1_init.2.1 50 = .ok (.return_, 1) := by decide +kernel
set_option maxRecDepth 100000 in
set_option maxHeartbeats 4000000 in
theorem c_X1_init {g : GG} {ν : NU} {M : Mem} (hZ : ZF (281 + 1) ν M) (hm0 : M.1 281 = zF) : CTc g 4 mX1_init [.ref (g.1 + 281)] (281 + 1) ν M 1261 6291 (CP 281 1543 ν M) := by
  have hS : SG (fun i => i = 281 ∨ i = 282) 281 (281 + 1) ν M ν M := SG_start hZ (Or.inl rfl)
  refine CTc_of (L := [some (.ref (g.1 + 281)), none]) (by decide) rfl rfl (Nat.le_of_ble_eq_true rfl) rfl ?_
  refine C_aload_n (pc := 0) d_X1_init_0 rfl rfl ?_
  refine C_objInit (pc := 1) rfl oi_RX1 (Nat.le_of_ble_eq_true rfl) (by decide) d_X1_init_1 ?_
  refine C_aload_n (pc := 4) d_X1_init_4 rfl rfl ?_
  refine C_bipush (pc := 5) (v := 9) d_X1_init_5 (by decide) ?_
  refine C_anew (pc := 7) (n := 9) rfl cln_RX1_11 (by decide) (by decide) (fun k => congrFun (hS.1 282 (by omega)).2 k) (by decide) (by decide) (by decide) (by decide) (by decide) d_X1_init_7 ?_
  have hm282 := (hS.1 (282) (by omega)).1
  have hS := SG_arr hS (by omega) (Or.inl (by omega))
  show WPc g _ _ _ _ _ (283) _ _ _ _ _
  refine C_putR (pc := 10) (j := 282) fld_RX1_13 rfl rfl (Or.inr ⟨rfl, rfl⟩) (by decide) (by omega) (by decide) (by rfl) (by rfl) d_X1_init_10 ?_
  have hS := SG_nu (i := 281) (k := 0) hS (by omega) (by omega)
  have hn1 : nuset ν (281) 0 (281) 0 = true := by simp [nuset]
  generalize nuset ν (281) 0 = ν2 at hS hn1 ⊢
  refine C_iconst (pc := 13) (v := 0) d_X1_init_13 (by decide) ?_
  refine C_istore_n (pc := 14) (L' := [some (.ref (g.1 + 281)), some (.int 0)]) d_X1_init_14 rfl (by decide) rfl ?_
  refine C_iload_n (pc := 15) d_X1_init_15 rfl rfl ?_
  refine C_bipush (pc := 16) (v := 9) d_X1_init_16 (by decide) ?_
  refine C_icmp_ge (pc := 18) (tgt := 40) d_X1_init_18 (by decide) (fun h9 => absurd h9 (by decide)) (fun _ => ?_)
  refine C_aload_n (pc := 21) d_X1_init_21 rfl rfl ?_
  refine C_getR (pc := 22) fld_RX1_13 rfl rfl (by decide) (by omega) hn1 d_X1_init_22 ?_
  rw [show rf (281) 0 = 282 by decide]
  refine C_iload_n (pc := 25) d_X1_init_25 rfl rfl ?_
  refine C_new (pc := 26) (n := 9) clsOK3 rfl cln_RX1_11 ins_3 inz_3 (by decide) rfl (fun k => congrFun (hS.1 (283) (by omega)).1 k) (fun k => congrFun (hS.1 (283) (by omega)).2 k) dfl_3 (by decide) (by decide) d_X1_init_26 ?_
  refine C_dup (pc := 29) d_X1_init_29 rfl ?_
  refine C_call (pc := 30) (As := []) (rest := [.ref (g.1 + 283), .int 0, .ref (g.1 + 282)]) (c_X3_init (g := g) (b := 283) (e := 423) rfl (sB283) (ZF_up hS.1) (hS.1 _ (Nat.le_refl _)).1) rfl cal_RX1_17 rfl rfl inm_3 (by decide) (by decide) (by decide) rfl rfl (Nat.le_of_ble_eq_true rfl) d_X1_init_30 (fun N9 ν4 M3 h5 => ?_)
  have q9 := h5.1
  subst q9
  have hS := SG_sub hS (by omega) h5
  have hm0 := (CP_at h5 (i := 281) (by omega)).1.trans hm0
  have hm282 := (CP_at h5 (i := 282) (by omega)).1.trans hm282
  have hn1 : ν4 (281) (0) = true := (congrFun (CP_at h5 (i := 281) (by omega)).2 _).trans hn1
  refine C_aast (pc := 33) (i := 282) (v := 283) (j := 0) (by decide) (by omega) (by omega) (by decide) (by decide) (by unfold vp_in; decide) d_X1_init_33 ?_
  rw [show Int32.toNatClampNeg 0 = 0 by decide]
  have hS := SG_nu (i := 282) (k := 0) hS (by omega) (by omega)
  have hn1 : nuset ν4 (282) 0 (281) 0 = true := by simp [nuset, hn1]
  have hn6 : nuset ν4 (282) 0 (282) 0 = true := by simp [nuset]
  generalize nuset ν4 (282) 0 = ν7 at hS hn1 hn6 ⊢
  refine C_iinc (pc := 34) (v := 1) (L' := [some (.ref (g.1 + 281)), some (.int 1)]) d_X1_init_34 rfl (by decide) (by decide) rfl ?_
  refine C_goto (pc := 37) (tgt := 15) d_X1_init_37 (by decide) ?_
  refine C_iload_n (pc := 15) d_X1_init_15 rfl rfl ?_
  refine C_bipush (pc := 16) (v := 9) d_X1_init_16 (by decide) ?_
  refine C_icmp_ge (pc := 18) (tgt := 40) d_X1_init_18 (by decide) (fun h9 => absurd h9 (by decide)) (fun _ => ?_)
  refine C_aload_n (pc := 21) d_X1_init_21 rfl rfl ?_
  refine C_getR (pc := 22) fld_RX1_13 rfl rfl (by decide) (by omega) hn1 d_X1_init_22 ?_
  rw [show rf (281) 0 = 282 by decide]
  refine C_iload_n (pc := 25) d_X1_init_25 rfl rfl ?_
  refine C_new (pc := 26) (n := 9) clsOK3 rfl cln_RX1_11 ins_3 inz_3 (by decide) rfl (fun k => congrFun (hS.1 (423) (by omega)).1 k) (fun k => congrFun (hS.1 (423) (by omega)).2 k) dfl_3 (by decide) (by decide) d_X1_init_26 ?_
  refine C_dup (pc := 29) d_X1_init_29 rfl ?_
  refine C_call (pc := 30) (As := []) (rest := [.ref (g.1 + 423), .int 1, .ref (g.1 + 282)]) (c_X3_init (g := g) (b := 423) (e := 563) rfl (sB423) (ZF_up hS.1) (hS.1 _ (Nat.le_refl _)).1) rfl cal_RX1_17 rfl rfl inm_3 (by decide) (by decide) (by decide) rfl rfl (Nat.le_of_ble_eq_true rfl) d_X1_init_30 (fun N9 ν9 M8 h10 => ?_)
  have q9 := h10.1
  subst q9
  have hS := SG_sub hS (by omega) h10
  have hm0 := (CP_at h10 (i := 281) (by omega)).1.trans hm0
  have hm282 := (CP_at h10 (i := 282) (by omega)).1.trans hm282
  have hn1 : ν9 (281) (0) = true := (congrFun (CP_at h10 (i := 281) (by omega)).2 _).trans hn1
  have hn6 : ν9 (282) (0) = true := (congrFun (CP_at h10 (i := 282) (by omega)).2 _).trans hn6
  refine C_aast (pc := 33) (i := 282) (v := 423) (j := 1) (by decide) (by omega) (by omega) (by decide) (by decide) (by unfold vp_in; decide) d_X1_init_33 ?_
  rw [show Int32.toNatClampNeg 1 = 1 by decide]
  have hS := SG_nu (i := 282) (k := 1) hS (by omega) (by omega)
  have hn1 : nuset ν9 (282) 1 (281) 0 = true := by simp [nuset, hn1]
  have hn6 : nuset ν9 (282) 1 (282) 0 = true := by simp [nuset, hn6]
  have hn11 : nuset ν9 (282) 1 (282) 1 = true := by simp [nuset]
  generalize nuset ν9 (282) 1 = ν12 at hS hn1 hn6 hn11 ⊢
  refine C_iinc (pc := 34) (v := 2) (L' := [some (.ref (g.1 + 281)), some (.int 2)]) d_X1_init_34 rfl (by decide) (by decide) rfl ?_
  refine C_goto (pc := 37) (tgt := 15) d_X1_init_37 (by decide) ?_
  refine C_iload_n (pc := 15) d_X1_init_15 rfl rfl ?_
  refine C_bipush (pc := 16) (v := 9) d_X1_init_16 (by decide) ?_
  refine C_icmp_ge (pc := 18) (tgt := 40) d_X1_init_18 (by decide) (fun h9 => absurd h9 (by decide)) (fun _ => ?_)
  refine C_aload_n (pc := 21) d_X1_init_21 rfl rfl ?_
  refine C_getR (pc := 22) fld_RX1_13 rfl rfl (by decide) (by omega) hn1 d_X1_init_22 ?_
  rw [show rf (281) 0 = 282 by decide]
  refine C_iload_n (pc := 25) d_X1_init_25 rfl rfl ?_
  refine C_new (pc := 26) (n := 9) clsOK3 rfl cln_RX1_11 ins_3 inz_3 (by decide) rfl (fun k => congrFun (hS.1 (563) (by omega)).1 k) (fun k => congrFun (hS.1 (563) (by omega)).2 k) dfl_3 (by decide) (by decide) d_X1_init_26 ?_
  refine C_dup (pc := 29) d_X1_init_29 rfl ?_
  refine C_call (pc := 30) (As := []) (rest := [.ref (g.1 + 563), .int 2, .ref (g.1 + 282)]) (c_X3_init (g := g) (b := 563) (e := 703) rfl (sB563) (ZF_up hS.1) (hS.1 _ (Nat.le_refl _)).1) rfl cal_RX1_17 rfl rfl inm_3 (by decide) (by decide) (by decide) rfl rfl (Nat.le_of_ble_eq_true rfl) d_X1_init_30 (fun N9 ν14 M13 h15 => ?_)
  have q9 := h15.1
  subst q9
  have hS := SG_sub hS (by omega) h15
  have hm0 := (CP_at h15 (i := 281) (by omega)).1.trans hm0
  have hm282 := (CP_at h15 (i := 282) (by omega)).1.trans hm282
  have hn1 : ν14 (281) (0) = true := (congrFun (CP_at h15 (i := 281) (by omega)).2 _).trans hn1
  have hn6 : ν14 (282) (0) = true := (congrFun (CP_at h15 (i := 282) (by omega)).2 _).trans hn6
  have hn11 : ν14 (282) (1) = true := (congrFun (CP_at h15 (i := 282) (by omega)).2 _).trans hn11
  refine C_aast (pc := 33) (i := 282) (v := 563) (j := 2) (by decide) (by omega) (by omega) (by decide) (by decide) (by unfold vp_in; decide) d_X1_init_33 ?_
  rw [show Int32.toNatClampNeg 2 = 2 by decide]
  have hS := SG_nu (i := 282) (k := 2) hS (by omega) (by omega)
  have hn1 : nuset ν14 (282) 2 (281) 0 = true := by simp [nuset, hn1]
  have hn6 : nuset ν14 (282) 2 (282) 0 = true := by simp [nuset, hn6]
  have hn11 : nuset ν14 (282) 2 (282) 1 = true := by simp [nuset, hn11]
  have hn16 : nuset ν14 (282) 2 (282) 2 = true := by simp [nuset]
  generalize nuset ν14 (282) 2 = ν17 at hS hn1 hn6 hn11 hn16 ⊢
  refine C_iinc (pc := 34) (v := 3) (L' := [some (.ref (g.1 + 281)), some (.int 3)]) d_X1_init_34 rfl (by decide) (by decide) rfl ?_
  refine C_goto (pc := 37) (tgt := 15) d_X1_init_37 (by decide) ?_
  refine C_iload_n (pc := 15) d_X1_init_15 rfl rfl ?_
  refine C_bipush (pc := 16) (v := 9) d_X1_init_16 (by decide) ?_
  refine C_icmp_ge (pc := 18) (tgt := 40) d_X1_init_18 (by decide) (fun h9 => absurd h9 (by decide)) (fun _ => ?_)
  refine C_aload_n (pc := 21) d_X1_init_21 rfl rfl ?_
  refine C_getR (pc := 22) fld_RX1_13 rfl rfl (by decide) (by omega) hn1 d_X1_init_22 ?_
  rw [show rf (281) 0 = 282 by decide]
  refine C_iload_n (pc := 25) d_X1_init_25 rfl rfl ?_
  refine C_new (pc := 26) (n := 9) clsOK3 rfl cln_RX1_11 ins_3 inz_3 (by decide) rfl (fun k => congrFun (hS.1 (703) (by omega)).1 k) (fun k => congrFun (hS.1 (703) (by omega)).2 k) dfl_3 (by decide) (by decide) d_X1_init_26 ?_
  refine C_dup (pc := 29) d_X1_init_29 rfl ?_
  refine C_call (pc := 30) (As := []) (rest := [.ref (g.1 + 703), .int 3, .ref (g.1 + 282)]) (c_X3_init (g := g) (b := 703) (e := 843) rfl (sB703) (ZF_up hS.1) (hS.1 _ (Nat.le_refl _)).1) rfl cal_RX1_17 rfl rfl inm_3 (by decide) (by decide) (by decide) rfl rfl (Nat.le_of_ble_eq_true rfl) d_X1_init_30 (fun N9 ν19 M18 h20 => ?_)
  have q9 := h20.1
  subst q9
  have hS := SG_sub hS (by omega) h20
  have hm0 := (CP_at h20 (i := 281) (by omega)).1.trans hm0
  have hm282 := (CP_at h20 (i := 282) (by omega)).1.trans hm282
  have hn1 : ν19 (281) (0) = true := (congrFun (CP_at h20 (i := 281) (by omega)).2 _).trans hn1
  have hn6 : ν19 (282) (0) = true := (congrFun (CP_at h20 (i := 282) (by omega)).2 _).trans hn6
  have hn11 : ν19 (282) (1) = true := (congrFun (CP_at h20 (i := 282) (by omega)).2 _).trans hn11
  have hn16 : ν19 (282) (2) = true := (congrFun (CP_at h20 (i := 282) (by omega)).2 _).trans hn16
  refine C_aast (pc := 33) (i := 282) (v := 703) (j := 3) (by decide) (by omega) (by omega) (by decide) (by decide) (by unfold vp_in; decide) d_X1_init_33 ?_
  rw [show Int32.toNatClampNeg 3 = 3 by decide]
  have hS := SG_nu (i := 282) (k := 3) hS (by omega) (by omega)
  have hn1 : nuset ν19 (282) 3 (281) 0 = true := by simp [nuset, hn1]
  have hn6 : nuset ν19 (282) 3 (282) 0 = true := by simp [nuset, hn6]
  have hn11 : nuset ν19 (282) 3 (282) 1 = true := by simp [nuset, hn11]
  have hn16 : nuset ν19 (282) 3 (282) 2 = true := by simp [nuset, hn16]
  have hn21 : nuset ν19 (282) 3 (282) 3 = true := by simp [nuset]
  generalize nuset ν19 (282) 3 = ν22 at hS hn1 hn6 hn11 hn16 hn21 ⊢
  refine C_iinc (pc := 34) (v := 4) (L' := [some (.ref (g.1 + 281)), some (.int 4)]) d_X1_init_34 rfl (by decide) (by decide) rfl ?_
  refine C_goto (pc := 37) (tgt := 15) d_X1_init_37 (by decide) ?_
  refine C_iload_n (pc := 15) d_X1_init_15 rfl rfl ?_
  refine C_bipush (pc := 16) (v := 9) d_X1_init_16 (by decide) ?_
  refine C_icmp_ge (pc := 18) (tgt := 40) d_X1_init_18 (by decide) (fun h9 => absurd h9 (by decide)) (fun _ => ?_)
  refine C_aload_n (pc := 21) d_X1_init_21 rfl rfl ?_
  refine C_getR (pc := 22) fld_RX1_13 rfl rfl (by decide) (by omega) hn1 d_X1_init_22 ?_
  rw [show rf (281) 0 = 282 by decide]
  refine C_iload_n (pc := 25) d_X1_init_25 rfl rfl ?_
  refine C_new (pc := 26) (n := 9) clsOK3 rfl cln_RX1_11 ins_3 inz_3 (by decide) rfl (fun k => congrFun (hS.1 (843) (by omega)).1 k) (fun k => congrFun (hS.1 (843) (by omega)).2 k) dfl_3 (by decide) (by decide) d_X1_init_26 ?_
  refine C_dup (pc := 29) d_X1_init_29 rfl ?_
  refine C_call (pc := 30) (As := []) (rest := [.ref (g.1 + 843), .int 4, .ref (g.1 + 282)]) (c_X3_init (g := g) (b := 843) (e := 983) rfl (sB843) (ZF_up hS.1) (hS.1 _ (Nat.le_refl _)).1) rfl cal_RX1_17 rfl rfl inm_3 (by decide) (by decide) (by decide) rfl rfl (Nat.le_of_ble_eq_true rfl) d_X1_init_30 (fun N9 ν24 M23 h25 => ?_)
  have q9 := h25.1
  subst q9
  have hS := SG_sub hS (by omega) h25
  have hm0 := (CP_at h25 (i := 281) (by omega)).1.trans hm0
  have hm282 := (CP_at h25 (i := 282) (by omega)).1.trans hm282
  have hn1 : ν24 (281) (0) = true := (congrFun (CP_at h25 (i := 281) (by omega)).2 _).trans hn1
  have hn6 : ν24 (282) (0) = true := (congrFun (CP_at h25 (i := 282) (by omega)).2 _).trans hn6
  have hn11 : ν24 (282) (1) = true := (congrFun (CP_at h25 (i := 282) (by omega)).2 _).trans hn11
  have hn16 : ν24 (282) (2) = true := (congrFun (CP_at h25 (i := 282) (by omega)).2 _).trans hn16
  have hn21 : ν24 (282) (3) = true := (congrFun (CP_at h25 (i := 282) (by omega)).2 _).trans hn21
  refine C_aast (pc := 33) (i := 282) (v := 843) (j := 4) (by decide) (by omega) (by omega) (by decide) (by decide) (by unfold vp_in; decide) d_X1_init_33 ?_
  rw [show Int32.toNatClampNeg 4 = 4 by decide]
  have hS := SG_nu (i := 282) (k := 4) hS (by omega) (by omega)
  have hn1 : nuset ν24 (282) 4 (281) 0 = true := by simp [nuset, hn1]
  have hn6 : nuset ν24 (282) 4 (282) 0 = true := by simp [nuset, hn6]
  have hn11 : nuset ν24 (282) 4 (282) 1 = true := by simp [nuset, hn11]
  have hn16 : nuset ν24 (282) 4 (282) 2 = true := by simp [nuset, hn16]
  have hn21 : nuset ν24 (282) 4 (282) 3 = true := by simp [nuset, hn21]
  have hn26 : nuset ν24 (282) 4 (282) 4 = true := by simp [nuset]
  generalize nuset ν24 (282) 4 = ν27 at hS hn1 hn6 hn11 hn16 hn21 hn26 ⊢
  refine C_iinc (pc := 34) (v := 5) (L' := [some (.ref (g.1 + 281)), some (.int 5)]) d_X1_init_34 rfl (by decide) (by decide) rfl ?_
  refine C_goto (pc := 37) (tgt := 15) d_X1_init_37 (by decide) ?_
  refine C_iload_n (pc := 15) d_X1_init_15 rfl rfl ?_
  refine C_bipush (pc := 16) (v := 9) d_X1_init_16 (by decide) ?_
  refine C_icmp_ge (pc := 18) (tgt := 40) d_X1_init_18 (by decide) (fun h9 => absurd h9 (by decide)) (fun _ => ?_)
  refine C_aload_n (pc := 21) d_X1_init_21 rfl rfl ?_
  refine C_getR (pc := 22) fld_RX1_13 rfl rfl (by decide) (by omega) hn1 d_X1_init_22 ?_
  rw [show rf (281) 0 = 282 by decide]
  refine C_iload_n (pc := 25) d_X1_init_25 rfl rfl ?_
  refine C_new (pc := 26) (n := 9) clsOK3 rfl cln_RX1_11 ins_3 inz_3 (by decide) rfl (fun k => congrFun (hS.1 (983) (by omega)).1 k) (fun k => congrFun (hS.1 (983) (by omega)).2 k) dfl_3 (by decide) (by decide) d_X1_init_26 ?_
  refine C_dup (pc := 29) d_X1_init_29 rfl ?_
  refine C_call (pc := 30) (As := []) (rest := [.ref (g.1 + 983), .int 5, .ref (g.1 + 282)]) (c_X3_init (g := g) (b := 983) (e := 1123) rfl (sB983) (ZF_up hS.1) (hS.1 _ (Nat.le_refl _)).1) rfl cal_RX1_17 rfl rfl inm_3 (by decide) (by decide) (by decide) rfl rfl (Nat.le_of_ble_eq_true rfl) d_X1_init_30 (fun N9 ν29 M28 h30 => ?_)
  have q9 := h30.1
  subst q9
  have hS := SG_sub hS (by omega) h30
  have hm0 := (CP_at h30 (i := 281) (by omega)).1.trans hm0
  have hm282 := (CP_at h30 (i := 282) (by omega)).1.trans hm282
  have hn1 : ν29 (281) (0) = true := (congrFun (CP_at h30 (i := 281) (by omega)).2 _).trans hn1
  have hn6 : ν29 (282) (0) = true := (congrFun (CP_at h30 (i := 282) (by omega)).2 _).trans hn6
  have hn11 : ν29 (282) (1) = true := (congrFun (CP_at h30 (i := 282) (by omega)).2 _).trans hn11
  have hn16 : ν29 (282) (2) = true := (congrFun (CP_at h30 (i := 282) (by omega)).2 _).trans hn16
  have hn21 : ν29 (282) (3) = true := (congrFun (CP_at h30 (i := 282) (by omega)).2 _).trans hn21
  have hn26 : ν29 (282) (4) = true := (congrFun (CP_at h30 (i := 282) (by omega)).2 _).trans hn26
  refine C_aast (pc := 33) (i := 282) (v := 983) (j := 5) (by decide) (by omega) (by omega) (by decide) (by decide) (by unfold vp_in; decide) d_X1_init_33 ?_
  rw [show Int32.toNatClampNeg 5 = 5 by decide]
  have hS := SG_nu (i := 282) (k := 5) hS (by omega) (by omega)
  have hn1 : nuset ν29 (282) 5 (281) 0 = true := by simp [nuset, hn1]
  have hn6 : nuset ν29 (282) 5 (282) 0 = true := by simp [nuset, hn6]
  have hn11 : nuset ν29 (282) 5 (282) 1 = true := by simp [nuset, hn11]
  have hn16 : nuset ν29 (282) 5 (282) 2 = true := by simp [nuset, hn16]
  have hn21 : nuset ν29 (282) 5 (282) 3 = true := by simp [nuset, hn21]
  have hn26 : nuset ν29 (282) 5 (282) 4 = true := by simp [nuset, hn26]
  have hn31 : nuset ν29 (282) 5 (282) 5 = true := by simp [nuset]
  generalize nuset ν29 (282) 5 = ν32 at hS hn1 hn6 hn11 hn16 hn21 hn26 hn31 ⊢
  refine C_iinc (pc := 34) (v := 6) (L' := [some (.ref (g.1 + 281)), some (.int 6)]) d_X1_init_34 rfl (by decide) (by decide) rfl ?_
  refine C_goto (pc := 37) (tgt := 15) d_X1_init_37 (by decide) ?_
  refine C_iload_n (pc := 15) d_X1_init_15 rfl rfl ?_
  refine C_bipush (pc := 16) (v := 9) d_X1_init_16 (by decide) ?_
  refine C_icmp_ge (pc := 18) (tgt := 40) d_X1_init_18 (by decide) (fun h9 => absurd h9 (by decide)) (fun _ => ?_)
  refine C_aload_n (pc := 21) d_X1_init_21 rfl rfl ?_
  refine C_getR (pc := 22) fld_RX1_13 rfl rfl (by decide) (by omega) hn1 d_X1_init_22 ?_
  rw [show rf (281) 0 = 282 by decide]
  refine C_iload_n (pc := 25) d_X1_init_25 rfl rfl ?_
  refine C_new (pc := 26) (n := 9) clsOK3 rfl cln_RX1_11 ins_3 inz_3 (by decide) rfl (fun k => congrFun (hS.1 (1123) (by omega)).1 k) (fun k => congrFun (hS.1 (1123) (by omega)).2 k) dfl_3 (by decide) (by decide) d_X1_init_26 ?_
  refine C_dup (pc := 29) d_X1_init_29 rfl ?_
  refine C_call (pc := 30) (As := []) (rest := [.ref (g.1 + 1123), .int 6, .ref (g.1 + 282)]) (c_X3_init (g := g) (b := 1123) (e := 1263) rfl (sB1123) (ZF_up hS.1) (hS.1 _ (Nat.le_refl _)).1) rfl cal_RX1_17 rfl rfl inm_3 (by decide) (by decide) (by decide) rfl rfl (Nat.le_of_ble_eq_true rfl) d_X1_init_30 (fun N9 ν34 M33 h35 => ?_)
  have q9 := h35.1
  subst q9
  have hS := SG_sub hS (by omega) h35
  have hm0 := (CP_at h35 (i := 281) (by omega)).1.trans hm0
  have hm282 := (CP_at h35 (i := 282) (by omega)).1.trans hm282
  have hn1 : ν34 (281) (0) = true := (congrFun (CP_at h35 (i := 281) (by omega)).2 _).trans hn1
  have hn6 : ν34 (282) (0) = true := (congrFun (CP_at h35 (i := 282) (by omega)).2 _).trans hn6
  have hn11 : ν34 (282) (1) = true := (congrFun (CP_at h35 (i := 282) (by omega)).2 _).trans hn11
  have hn16 : ν34 (282) (2) = true := (congrFun (CP_at h35 (i := 282) (by omega)).2 _).trans hn16
  have hn21 : ν34 (282) (3) = true := (congrFun (CP_at h35 (i := 282) (by omega)).2 _).trans hn21
  have hn26 : ν34 (282) (4) = true := (congrFun (CP_at h35 (i := 282) (by omega)).2 _).trans hn26
  have hn31 : ν34 (282) (5) = true := (congrFun (CP_at h35 (i := 282) (by omega)).2 _).trans hn31
  refine C_aast (pc := 33) (i := 282) (v := 1123) (j := 6) (by decide) (by omega) (by omega) (by decide) (by decide) (by unfold vp_in; decide) d_X1_init_33 ?_
  rw [show Int32.toNatClampNeg 6 = 6 by decide]
  have hS := SG_nu (i := 282) (k := 6) hS (by omega) (by omega)
  have hn1 : nuset ν34 (282) 6 (281) 0 = true := by simp [nuset, hn1]
  have hn6 : nuset ν34 (282) 6 (282) 0 = true := by simp [nuset, hn6]
  have hn11 : nuset ν34 (282) 6 (282) 1 = true := by simp [nuset, hn11]
  have hn16 : nuset ν34 (282) 6 (282) 2 = true := by simp [nuset, hn16]
  have hn21 : nuset ν34 (282) 6 (282) 3 = true := by simp [nuset, hn21]
  have hn26 : nuset ν34 (282) 6 (282) 4 = true := by simp [nuset, hn26]
  have hn31 : nuset ν34 (282) 6 (282) 5 = true := by simp [nuset, hn31]
  have hn36 : nuset ν34 (282) 6 (282) 6 = true := by simp [nuset]
  generalize nuset ν34 (282) 6 = ν37 at hS hn1 hn6 hn11 hn16 hn21 hn26 hn31 hn36 ⊢
  refine C_iinc (pc := 34) (v := 7) (L' := [some (.ref (g.1 + 281)), some (.int 7)]) d_X1_init_34 rfl (by decide) (by decide) rfl ?_
  refine C_goto (pc := 37) (tgt := 15) d_X1_init_37 (by decide) ?_
  refine C_iload_n (pc := 15) d_X1_init_15 rfl rfl ?_
  refine C_bipush (pc := 16) (v := 9) d_X1_init_16 (by decide) ?_
  refine C_icmp_ge (pc := 18) (tgt := 40) d_X1_init_18 (by decide) (fun h9 => absurd h9 (by decide)) (fun _ => ?_)
  refine C_aload_n (pc := 21) d_X1_init_21 rfl rfl ?_
  refine C_getR (pc := 22) fld_RX1_13 rfl rfl (by decide) (by omega) hn1 d_X1_init_22 ?_
  rw [show rf (281) 0 = 282 by decide]
  refine C_iload_n (pc := 25) d_X1_init_25 rfl rfl ?_
  refine C_new (pc := 26) (n := 9) clsOK3 rfl cln_RX1_11 ins_3 inz_3 (by decide) rfl (fun k => congrFun (hS.1 (1263) (by omega)).1 k) (fun k => congrFun (hS.1 (1263) (by omega)).2 k) dfl_3 (by decide) (by decide) d_X1_init_26 ?_
  refine C_dup (pc := 29) d_X1_init_29 rfl ?_
  refine C_call (pc := 30) (As := []) (rest := [.ref (g.1 + 1263), .int 7, .ref (g.1 + 282)]) (c_X3_init (g := g) (b := 1263) (e := 1403) rfl (sB1263) (ZF_up hS.1) (hS.1 _ (Nat.le_refl _)).1) rfl cal_RX1_17 rfl rfl inm_3 (by decide) (by decide) (by decide) rfl rfl (Nat.le_of_ble_eq_true rfl) d_X1_init_30 (fun N9 ν39 M38 h40 => ?_)
  have q9 := h40.1
  subst q9
  have hS := SG_sub hS (by omega) h40
  have hm0 := (CP_at h40 (i := 281) (by omega)).1.trans hm0
  have hm282 := (CP_at h40 (i := 282) (by omega)).1.trans hm282
  have hn1 : ν39 (281) (0) = true := (congrFun (CP_at h40 (i := 281) (by omega)).2 _).trans hn1
  have hn6 : ν39 (282) (0) = true := (congrFun (CP_at h40 (i := 282) (by omega)).2 _).trans hn6
  have hn11 : ν39 (282) (1) = true := (congrFun (CP_at h40 (i := 282) (by omega)).2 _).trans hn11
  have hn16 : ν39 (282) (2) = true := (congrFun (CP_at h40 (i := 282) (by omega)).2 _).trans hn16
  have hn21 : ν39 (282) (3) = true := (congrFun (CP_at h40 (i := 282) (by omega)).2 _).trans hn21
  have hn26 : ν39 (282) (4) = true := (congrFun (CP_at h40 (i := 282) (by omega)).2 _).trans hn26
  have hn31 : ν39 (282) (5) = true := (congrFun (CP_at h40 (i := 282) (by omega)).2 _).trans hn31
  have hn36 : ν39 (282) (6) = true := (congrFun (CP_at h40 (i := 282) (by omega)).2 _).trans hn36
  refine C_aast (pc := 33) (i := 282) (v := 1263) (j := 7) (by decide) (by omega) (by omega) (by decide) (by decide) (by unfold vp_in; decide) d_X1_init_33 ?_
  rw [show Int32.toNatClampNeg 7 = 7 by decide]
  have hS := SG_nu (i := 282) (k := 7) hS (by omega) (by omega)
  have hn1 : nuset ν39 (282) 7 (281) 0 = true := by simp [nuset, hn1]
  have hn6 : nuset ν39 (282) 7 (282) 0 = true := by simp [nuset, hn6]
  have hn11 : nuset ν39 (282) 7 (282) 1 = true := by simp [nuset, hn11]
  have hn16 : nuset ν39 (282) 7 (282) 2 = true := by simp [nuset, hn16]
  have hn21 : nuset ν39 (282) 7 (282) 3 = true := by simp [nuset, hn21]
  have hn26 : nuset ν39 (282) 7 (282) 4 = true := by simp [nuset, hn26]
  have hn31 : nuset ν39 (282) 7 (282) 5 = true := by simp [nuset, hn31]
  have hn36 : nuset ν39 (282) 7 (282) 6 = true := by simp [nuset, hn36]
  have hn41 : nuset ν39 (282) 7 (282) 7 = true := by simp [nuset]
  generalize nuset ν39 (282) 7 = ν42 at hS hn1 hn6 hn11 hn16 hn21 hn26 hn31 hn36 hn41 ⊢
  refine C_iinc (pc := 34) (v := 8) (L' := [some (.ref (g.1 + 281)), some (.int 8)]) d_X1_init_34 rfl (by decide) (by decide) rfl ?_
  refine C_goto (pc := 37) (tgt := 15) d_X1_init_37 (by decide) ?_
  refine C_iload_n (pc := 15) d_X1_init_15 rfl rfl ?_
  refine C_bipush (pc := 16) (v := 9) d_X1_init_16 (by decide) ?_
  refine C_icmp_ge (pc := 18) (tgt := 40) d_X1_init_18 (by decide) (fun h9 => absurd h9 (by decide)) (fun _ => ?_)
  refine C_aload_n (pc := 21) d_X1_init_21 rfl rfl ?_
  refine C_getR (pc := 22) fld_RX1_13 rfl rfl (by decide) (by omega) hn1 d_X1_init_22 ?_
  rw [show rf (281) 0 = 282 by decide]
  refine C_iload_n (pc := 25) d_X1_init_25 rfl rfl ?_
  refine C_new (pc := 26) (n := 9) clsOK3 rfl cln_RX1_11 ins_3 inz_3 (by decide) rfl (fun k => congrFun (hS.1 (1403) (by omega)).1 k) (fun k => congrFun (hS.1 (1403) (by omega)).2 k) dfl_3 (by decide) (by decide) d_X1_init_26 ?_
  refine C_dup (pc := 29) d_X1_init_29 rfl ?_
  refine C_call (pc := 30) (As := []) (rest := [.ref (g.1 + 1403), .int 8, .ref (g.1 + 282)]) (c_X3_init (g := g) (b := 1403) (e := 1543) rfl (sB1403) (ZF_up hS.1) (hS.1 _ (Nat.le_refl _)).1) rfl cal_RX1_17 rfl rfl inm_3 (by decide) (by decide) (by decide) rfl rfl (Nat.le_of_ble_eq_true rfl) d_X1_init_30 (fun N9 ν44 M43 h45 => ?_)
  have q9 := h45.1
  subst q9
  have hS := SG_sub hS (by omega) h45
  have hm0 := (CP_at h45 (i := 281) (by omega)).1.trans hm0
  have hm282 := (CP_at h45 (i := 282) (by omega)).1.trans hm282
  have hn1 : ν44 (281) (0) = true := (congrFun (CP_at h45 (i := 281) (by omega)).2 _).trans hn1
  have hn6 : ν44 (282) (0) = true := (congrFun (CP_at h45 (i := 282) (by omega)).2 _).trans hn6
  have hn11 : ν44 (282) (1) = true := (congrFun (CP_at h45 (i := 282) (by omega)).2 _).trans hn11
  have hn16 : ν44 (282) (2) = true := (congrFun (CP_at h45 (i := 282) (by omega)).2 _).trans hn16
  have hn21 : ν44 (282) (3) = true := (congrFun (CP_at h45 (i := 282) (by omega)).2 _).trans hn21
  have hn26 : ν44 (282) (4) = true := (congrFun (CP_at h45 (i := 282) (by omega)).2 _).trans hn26
  have hn31 : ν44 (282) (5) = true := (congrFun (CP_at h45 (i := 282) (by omega)).2 _).trans hn31
  have hn36 : ν44 (282) (6) = true := (congrFun (CP_at h45 (i := 282) (by omega)).2 _).trans hn36
  have hn41 : ν44 (282) (7) = true := (congrFun (CP_at h45 (i := 282) (by omega)).2 _).trans hn41
  refine C_aast (pc := 33) (i := 282) (v := 1403) (j := 8) (by decide) (by omega) (by omega) (by decide) (by decide) (by unfold vp_in; decide) d_X1_init_33 ?_
  rw [show Int32.toNatClampNeg 8 = 8 by decide]
  have hS := SG_nu (i := 282) (k := 8) hS (by omega) (by omega)
  have hn1 : nuset ν44 (282) 8 (281) 0 = true := by simp [nuset, hn1]
  have hn6 : nuset ν44 (282) 8 (282) 0 = true := by simp [nuset, hn6]
  have hn11 : nuset ν44 (282) 8 (282) 1 = true := by simp [nuset, hn11]
  have hn16 : nuset ν44 (282) 8 (282) 2 = true := by simp [nuset, hn16]
  have hn21 : nuset ν44 (282) 8 (282) 3 = true := by simp [nuset, hn21]
  have hn26 : nuset ν44 (282) 8 (282) 4 = true := by simp [nuset, hn26]
  have hn31 : nuset ν44 (282) 8 (282) 5 = true := by simp [nuset, hn31]
  have hn36 : nuset ν44 (282) 8 (282) 6 = true := by simp [nuset, hn36]
  have hn41 : nuset ν44 (282) 8 (282) 7 = true := by simp [nuset, hn41]
  have hn46 : nuset ν44 (282) 8 (282) 8 = true := by simp [nuset]
  generalize nuset ν44 (282) 8 = ν47 at hS hn1 hn6 hn11 hn16 hn21 hn26 hn31 hn36 hn41 hn46 ⊢
  refine C_iinc (pc := 34) (v := 9) (L' := [some (.ref (g.1 + 281)), some (.int 9)]) d_X1_init_34 rfl (by decide) (by decide) rfl ?_
  refine C_goto (pc := 37) (tgt := 15) d_X1_init_37 (by decide) ?_
  refine C_iload_n (pc := 15) d_X1_init_15 rfl rfl ?_
  refine C_bipush (pc := 16) (v := 9) d_X1_init_16 (by decide) ?_
  refine C_icmp_ge (pc := 18) (tgt := 40) d_X1_init_18 (by decide) (fun _ => ?_) (fun h9 => absurd (by decide) h9)
  refine C_aload_n (pc := 40) d_X1_init_40 rfl rfl ?_
  refine C_iconst (pc := 41) (v := 0) d_X1_init_41 (by decide) ?_
  refine C_putI (pc := 42) fld_RX1_18 rfl rfl (Or.inr ⟨rfl, rfl⟩) (by decide) (by omega) (by decide) (by decide) d_X1_init_42 ?_
  have hS := SG_ms (i := 281) (k := 1) (v := 0) hS (by omega) (by omega) (by omega)
  have hm0 := (mset_at (M := M43) (i := 281) (k := 1) (v := 0)).trans (congrArg (fun f => upd f 1 0) hm0)
  try dsimp only at hm0
  have hm282 := (mset_ne (M := M43) (i := 281) (k := 1) (v := 0) (j := 282) (by omega)).trans hm282
  generalize mset M43 (281) 1 0 = M48 at hS hm0 hm282 ⊢
  refine C_aload_n (pc := 45) d_X1_init_45 rfl rfl ?_
  refine C_iconst (pc := 46) (v := 0) d_X1_init_46 (by decide) ?_
  refine C_putI (pc := 47) fld_RX1_22 rfl rfl (Or.inr ⟨rfl, rfl⟩) (by decide) (by omega) (by decide) (by decide) d_X1_init_47 ?_
  have hS := SG_ms (i := 281) (k := 2) (v := 0) hS (by omega) (by omega) (by omega)
  have hm0 := (mset_at (M := M48) (i := 281) (k := 2) (v := 0)).trans (congrArg (fun f => upd f 2 0) hm0)
  try dsimp only at hm0
  have hm282 := (mset_ne (M := M48) (i := 281) (k := 2) (v := 0) (j := 282) (by omega)).trans hm282
  generalize mset M48 (281) 2 0 = M49 at hS hm0 hm282 ⊢
  refine C_exit ⟨d_X1_init_50, rfl, ?_⟩
  refine SG_done hS (fun i hi => ?_)
  rcases hi with hi | hi
  · rw [hi]
    refine ⟨?_, fun k hk9 => ?_⟩
    · rw [hm0]; simp only [upd_zF]; rfl
    · rcases hk9 with ⟨h9, -⟩ | ⟨-, h8, h9⟩
      · exact absurd h9 (by decide)
      · have h9 : k < 3 := h9
        rcases (show k = 0 ∨ k = 1 ∨ k = 2 by omega) with rfl | rfl | rfl
        all_goals first | assumption | exact absurd h8 (by decide)
  · rw [hi]
    refine ⟨hm282.trans rfl, fun k hk9 => ?_⟩
    rcases hk9 with ⟨-, h9⟩ | ⟨h8, -⟩
    · have h9 : k < 9 := h9
      rcases (show k = 0 ∨ k = 1 ∨ k = 2 ∨ k = 3 ∨ k = 4 ∨ k = 5 ∨ k = 6 ∨ k = 7 ∨ k = 8 by omega) with rfl | rfl | rfl | rfl | rfl | rfl | rfl | rfl | rfl
      all_goals assumption
    · exact absurd h8 (by decide)
theorem oi_RX6 : Cond.methodLink RX6 1 objectInit ∈ AW := aw_t 29 (by decide +kernel) (by decide +kernel)
theorem cln_RX6_7 : Cond.classLink RX6 7 RX3 ∈ AW := aw_t 32 (by decide +kernel) (by decide +kernel)
theorem cal_RX6_9 : calOK RX6 9 mX3_init 0 := ⟨rfl, by decide, aw_t 34 (by decide +kernel) (by decide +kernel), aw_t 36 (by decide +kernel) (by decide +kernel), aw_t 2 (by decide +kernel) (by decide +kernel), ⟨by decide, by decide⟩, by decide +kernel⟩
theorem cln_RX6_23 : Cond.classLink RX6 23 RX1 ∈ AW := aw_t 113 (by decide +kernel) (by decide +kernel)
theorem cal_RX6_25 : calOK RX6 25 mX1_init 0 := ⟨rfl, by decide, aw_t 115 (by decide +kernel) (by decide +kernel), aw_t 117 (by decide +kernel) (by decide +kernel), aw_t 4 (by decide +kernel) (by decide +kernel), ⟨by decide, by decide⟩, by decide +kernel⟩
theorem cln_RX6_30 : Cond.classLink RX6 30 RX2 ∈ AW := aw_t 133 (by decide +kernel) (by decide +kernel)
theorem cal_RX6_32 : calOK RX6 32 mX2_init 1 := ⟨rfl, by decide, aw_t 135 (by decide +kernel) (by decide +kernel), aw_t 137 (by decide +kernel) (by decide +kernel), aw_t 5 (by decide +kernel) (by decide +kernel), ⟨by decide, by decide⟩, by decide +kernel⟩
theorem cln_RX6_39 : Cond.classLink RX6 39 RX0 ∈ AW := aw_t 165 (by decide +kernel) (by decide +kernel)
theorem cal_RX6_41 : calOK RX6 41 mX0_init 2 := ⟨rfl, by decide, aw_t 167 (by decide +kernel) (by decide +kernel), aw_t 169 (by decide +kernel) (by decide +kernel), aw_t 6 (by decide +kernel) (by decide +kernel), ⟨by decide, by decide⟩, by decide +kernel⟩
theorem cln_RX6_48 : Cond.classLink RX6 48 RX4 ∈ AW := aw_t 178 (by decide +kernel) (by decide +kernel)
theorem cal_RX6_50 : calOK RX6 50 mX4_init 2 := ⟨rfl, by decide, aw_t 179 (by decide +kernel) (by decide +kernel), aw_t 42 (by decide +kernel) (by decide +kernel), aw_t 3 (by decide +kernel) (by decide +kernel), ⟨by decide, by decide⟩, by decide +kernel⟩
theorem cln_RX6_57 : Cond.classLink RX6 57 RX5 ∈ AW := aw_t 180 (by decide +kernel) (by decide +kernel)
theorem cal_RX6_59 : calOK RX6 59 mX5_init 0 := ⟨rfl, by decide, aw_t 182 (by decide +kernel) (by decide +kernel), aw_t 184 (by decide +kernel) (by decide +kernel), aw_t 7 (by decide +kernel) (by decide +kernel), ⟨by decide, by decide⟩, by decide +kernel⟩
theorem d_X6_init_0 : decode mX6_init.2.1 0 = .ok (.aload_n 0, 1) := by decide +kernel
theorem d_X6_init_1 : decode mX6_init.2.1 1 = .ok (.invokespecial 1, 3) := by decide +kernel
theorem d_X6_init_4 : decode mX6_init.2.1 4 = .ok (.aload_n 0, 1) := by decide +kernel
theorem d_X6_init_5 : decode mX6_init.2.1 5 = .ok (.new 7, 3) := by decide +kernel
theorem d_X6_init_8 : decode mX6_init.2.1 8 = .ok (.dup, 1) := by decide +kernel
theorem d_X6_init_9 : decode mX6_init.2.1 9 = .ok (.invokespecial 9, 3) := by decide +kernel
theorem d_X6_init_12 : decode mX6_init.2.1 12 = .ok (.putfield 10, 3) := by decide +kernel
theorem d_X6_init_15 : decode mX6_init.2.1 15 = .ok (.aload_n 0, 1) := by decide +kernel
theorem d_X6_init_16 : decode mX6_init.2.1 16 = .ok (.new 7, 3) := by decide +kernel
theorem d_X6_init_19 : decode mX6_init.2.1 19 = .ok (.dup, 1) := by decide +kernel
theorem d_X6_init_20 : decode mX6_init.2.1 20 = .ok (.invokespecial 9, 3) := by decide +kernel
theorem d_X6_init_23 : decode mX6_init.2.1 23 = .ok (.putfield 16, 3) := by decide +kernel
theorem d_X6_init_26 : decode mX6_init.2.1 26 = .ok (.aload_n 0, 1) := by decide +kernel
theorem d_X6_init_27 : decode mX6_init.2.1 27 = .ok (.iconst 0, 1) := by decide +kernel
theorem d_X6_init_28 : decode mX6_init.2.1 28 = .ok (.putfield 19, 3) := by decide +kernel
theorem d_X6_init_31 : decode mX6_init.2.1 31 = .ok (.aload_n 0, 1) := by decide +kernel
theorem d_X6_init_32 : decode mX6_init.2.1 32 = .ok (.new 23, 3) := by decide +kernel
theorem d_X6_init_35 : decode mX6_init.2.1 35 = .ok (.dup, 1) := by decide +kernel
theorem d_X6_init_36 : decode mX6_init.2.1 36 = .ok (.invokespecial 25, 3) := by decide +kernel
theorem d_X6_init_39 : decode mX6_init.2.1 39 = .ok (.putfield 26, 3) := by decide +kernel
theorem d_X6_init_42 : decode mX6_init.2.1 42 = .ok (.aload_n 0, 1) := by decide +kernel
theorem d_X6_init_43 : decode mX6_init.2.1 43 = .ok (.new 30, 3) := by decide +kernel
theorem d_X6_init_46 : decode mX6_init.2.1 46 = .ok (.dup, 1) := by decide +kernel
theorem d_X6_init_47 : decode mX6_init.2.1 47 = .ok (.aload_n 0, 1) := by decide +kernel
theorem d_X6_init_48 : decode mX6_init.2.1 48 = .ok (.getfield 10, 3) := by decide +kernel
theorem d_X6_init_51 : decode mX6_init.2.1 51 = .ok (.invokespecial 32, 3) := by decide +kernel
theorem d_X6_init_54 : decode mX6_init.2.1 54 = .ok (.putfield 35, 3) := by decide +kernel
theorem d_X6_init_57 : decode mX6_init.2.1 57 = .ok (.aload_n 0, 1) := by decide +kernel
theorem d_X6_init_58 : decode mX6_init.2.1 58 = .ok (.new 39, 3) := by decide +kernel
theorem d_X6_init_61 : decode mX6_init.2.1 61 = .ok (.dup, 1) := by decide +kernel
theorem d_X6_init_62 : decode mX6_init.2.1 62 = .ok (.aload_n 0, 1) := by decide +kernel
theorem d_X6_init_63 : decode mX6_init.2.1 63 = .ok (.getfield 10, 3) := by decide +kernel
theorem d_X6_init_66 : decode mX6_init.2.1 66 = .ok (.aload_n 0, 1) := by decide +kernel
theorem d_X6_init_67 : decode mX6_init.2.1 67 = .ok (.getfield 35, 3) := by decide +kernel
theorem d_X6_init_70 : decode mX6_init.2.1 70 = .ok (.invokespecial 41, 3) := by decide +kernel
theorem d_X6_init_73 : decode mX6_init.2.1 73 = .ok (.putfield 44, 3) := by decide +kernel
theorem d_X6_init_76 : decode mX6_init.2.1 76 = .ok (.aload_n 0, 1) := by decide +kernel
theorem d_X6_init_77 : decode mX6_init.2.1 77 = .ok (.new 48, 3) := by decide +kernel
theorem d_X6_init_80 : decode mX6_init.2.1 80 = .ok (.dup, 1) := by decide +kernel
theorem d_X6_init_81 : decode mX6_init.2.1 81 = .ok (.iconst 3, 1) := by decide +kernel
theorem d_X6_init_82 : decode mX6_init.2.1 82 = .ok (.iconst 2, 1) := by decide +kernel
theorem d_X6_init_83 : decode mX6_init.2.1 83 = .ok (.invokespecial 50, 3) := by decide +kernel
theorem d_X6_init_86 : decode mX6_init.2.1 86 = .ok (.putfield 53, 3) := by decide +kernel
theorem d_X6_init_89 : decode mX6_init.2.1 89 = .ok (.aload_n 0, 1) := by decide +kernel
theorem d_X6_init_90 : decode mX6_init.2.1 90 = .ok (.new 57, 3) := by decide +kernel
theorem d_X6_init_93 : decode mX6_init.2.1 93 = .ok (.dup, 1) := by decide +kernel
theorem d_X6_init_94 : decode mX6_init.2.1 94 = .ok (.invokespecial 59, 3) := by decide +kernel
theorem d_X6_init_97 : decode mX6_init.2.1 97 = .ok (.putfield 60, 3) := by decide +kernel
theorem d_X6_init_100 : decode mX6_init.2.1 100 = .ok (.return_, 1) := by decide +kernel
set_option maxRecDepth 100000 in
set_option maxHeartbeats 4000000 in
theorem c_X6_init {g : GG} {ν : NU} {M : Mem} (hZ : ZF (0 + 1) ν M) (hm0 : M.1 0 = zF) : CTc g 5 mX6_init [.ref (g.1 + 0)] (0 + 1) ν M 1581 7970 (CP 0 1582 ν M) := by
  have hS : SG (fun i => i = 0) 0 (0 + 1) ν M ν M := SG_start hZ rfl
  refine CTc_of (L := [some (.ref (g.1 + 0))]) (by decide) rfl rfl (Nat.le_of_ble_eq_true rfl) rfl ?_
  refine C_aload_n (pc := 0) d_X6_init_0 rfl rfl ?_
  refine C_objInit (pc := 1) rfl oi_RX6 (Nat.le_of_ble_eq_true rfl) (by decide) d_X6_init_1 ?_
  refine C_aload_n (pc := 4) d_X6_init_4 rfl rfl ?_
  refine C_new (pc := 5) (n := 9) clsOK3 rfl cln_RX6_7 ins_3 inz_3 (by decide) rfl (fun k => congrFun (hS.1 (1) (by omega)).1 k) (fun k => congrFun (hS.1 (1) (by omega)).2 k) dfl_3 (by decide) (by decide) d_X6_init_5 ?_
  refine C_dup (pc := 8) d_X6_init_8 rfl ?_
  refine C_call (pc := 9) (As := []) (rest := [.ref (g.1 + 1), .ref (g.1 + 0)]) (c_X3_init (g := g) (b := 1) (e := 141) rfl (sB1) (ZF_up hS.1) (hS.1 _ (Nat.le_refl _)).1) rfl cal_RX6_9 rfl rfl inm_3 (by decide) (by decide) (by decide) rfl rfl (Nat.le_of_ble_eq_true rfl) d_X6_init_9 (fun N9 ν2 M1 h3 => ?_)
  have q9 := h3.1
  subst q9
  have hS := SG_sub hS (by omega) h3
  have hm0 := (CP_at h3 (i := 0) (by omega)).1.trans hm0
  refine C_putR (pc := 12) (j := 1) fld_RX6_10 rfl rfl (Or.inr ⟨rfl, rfl⟩) (by decide) (by omega) (by decide) (by rfl) (by rfl) d_X6_init_12 ?_
  have hS := SG_nu (i := 0) (k := 0) hS (by omega) (by omega)
  have hn4 : nuset ν2 (0) 0 (0) 0 = true := by simp [nuset]
  generalize nuset ν2 (0) 0 = ν5 at hS hn4 ⊢
  refine C_aload_n (pc := 15) d_X6_init_15 rfl rfl ?_
  refine C_new (pc := 16) (n := 9) clsOK3 rfl cln_RX6_7 ins_3 inz_3 (by decide) rfl (fun k => congrFun (hS.1 (141) (by omega)).1 k) (fun k => congrFun (hS.1 (141) (by omega)).2 k) dfl_3 (by decide) (by decide) d_X6_init_16 ?_
  refine C_dup (pc := 19) d_X6_init_19 rfl ?_
  refine C_call (pc := 20) (As := []) (rest := [.ref (g.1 + 141), .ref (g.1 + 0)]) (c_X3_init (g := g) (b := 141) (e := 281) rfl (sB141) (ZF_up hS.1) (hS.1 _ (Nat.le_refl _)).1) rfl cal_RX6_9 rfl rfl inm_3 (by decide) (by decide) (by decide) rfl rfl (Nat.le_of_ble_eq_true rfl) d_X6_init_20 (fun N9 ν7 M6 h8 => ?_)
  have q9 := h8.1
  subst q9
  have hS := SG_sub hS (by omega) h8
  have hm0 := (CP_at h8 (i := 0) (by omega)).1.trans hm0
  have hn4 : ν7 (0) (0) = true := (congrFun (CP_at h8 (i := 0) (by omega)).2 _).trans hn4
  refine C_putR (pc := 23) (j := 141) fld_RX6_16 rfl rfl (Or.inr ⟨rfl, rfl⟩) (by decide) (by omega) (by decide) (by rfl) (by rfl) d_X6_init_23 ?_
  have hS := SG_nu (i := 0) (k := 1) hS (by omega) (by omega)
  have hn4 : nuset ν7 (0) 1 (0) 0 = true := by simp [nuset, hn4]
  have hn9 : nuset ν7 (0) 1 (0) 1 = true := by simp [nuset]
  generalize nuset ν7 (0) 1 = ν10 at hS hn4 hn9 ⊢
  refine C_aload_n (pc := 26) d_X6_init_26 rfl rfl ?_
  refine C_iconst (pc := 27) (v := 0) d_X6_init_27 (by decide) ?_
  refine C_putI (pc := 28) fld_RX6_19 rfl rfl (Or.inr ⟨rfl, rfl⟩) (by decide) (by omega) (by decide) (by decide) d_X6_init_28 ?_
  have hS := SG_ms (i := 0) (k := 2) (v := 0) hS (by omega) (by omega) (by omega)
  have hm0 := (mset_at (M := M6) (i := 0) (k := 2) (v := 0)).trans (congrArg (fun f => upd f 2 0) hm0)
  try dsimp only at hm0
  generalize mset M6 (0) 2 0 = M11 at hS hm0 ⊢
  refine C_aload_n (pc := 31) d_X6_init_31 rfl rfl ?_
  refine C_new (pc := 32) (n := 3) clsOK1 rfl cln_RX6_23 ins_1 inz_1 (by decide) rfl (fun k => congrFun (hS.1 (281) (by omega)).1 k) (fun k => congrFun (hS.1 (281) (by omega)).2 k) dfl_1 (by decide) (by decide) d_X6_init_32 ?_
  refine C_dup (pc := 35) d_X6_init_35 rfl ?_
  refine C_call (pc := 36) (As := []) (rest := [.ref (g.1 + 281), .ref (g.1 + 0)]) (c_X1_init (g := g) (ZF_up hS.1) (hS.1 _ (Nat.le_refl _)).1) rfl cal_RX6_25 rfl rfl inm_1 (by decide) (by decide) (by decide) rfl rfl (Nat.le_of_ble_eq_true rfl) d_X6_init_36 (fun N9 ν13 M12 h14 => ?_)
  have q9 := h14.1
  subst q9
  have hS := SG_sub hS (by omega) h14
  have hm0 := (CP_at h14 (i := 0) (by omega)).1.trans hm0
  have hn4 : ν13 (0) (0) = true := (congrFun (CP_at h14 (i := 0) (by omega)).2 _).trans hn4
  have hn9 : ν13 (0) (1) = true := (congrFun (CP_at h14 (i := 0) (by omega)).2 _).trans hn9
  refine C_putR (pc := 39) (j := 281) fld_RX6_26 rfl rfl (Or.inr ⟨rfl, rfl⟩) (by decide) (by omega) (by decide) (by rfl) (by rfl) d_X6_init_39 ?_
  have hS := SG_nu (i := 0) (k := 3) hS (by omega) (by omega)
  have hn4 : nuset ν13 (0) 3 (0) 0 = true := by simp [nuset, hn4]
  have hn9 : nuset ν13 (0) 3 (0) 1 = true := by simp [nuset, hn9]
  have hn15 : nuset ν13 (0) 3 (0) 3 = true := by simp [nuset]
  generalize nuset ν13 (0) 3 = ν16 at hS hn4 hn9 hn15 ⊢
  refine C_aload_n (pc := 42) d_X6_init_42 rfl rfl ?_
  refine C_new (pc := 43) (n := 7) clsOK2 rfl cln_RX6_30 ins_2 inz_2 (by decide) rfl (fun k => congrFun (hS.1 (1543) (by omega)).1 k) (fun k => congrFun (hS.1 (1543) (by omega)).2 k) dfl_2 (by decide) (by decide) d_X6_init_43 ?_
  refine C_dup (pc := 46) d_X6_init_46 rfl ?_
  refine C_aload_n (pc := 47) d_X6_init_47 rfl rfl ?_
  refine C_getR (pc := 48) fld_RX6_10 rfl rfl (by decide) (by omega) hn4 d_X6_init_48 ?_
  rw [show rf (0) 0 = 1 by decide]
  refine C_call (pc := 51) (As := [.ref (g.1 + 1)]) (rest := [.ref (g.1 + 1543), .ref (g.1 + 0)]) (c_X2_init (g := g) (ZF_up hS.1) (hS.1 _ (Nat.le_refl _)).1) rfl cal_RX6_32 rfl rfl inm_2 (by decide) (by decide) (by decide) rfl rfl (Nat.le_of_ble_eq_true rfl) d_X6_init_51 (fun N9 ν18 M17 h19 => ?_)
  have q9 := h19.1
  subst q9
  have hS := SG_sub hS (by omega) h19
  have hm0 := (CP_at h19 (i := 0) (by omega)).1.trans hm0
  have hn4 : ν18 (0) (0) = true := (congrFun (CP_at h19 (i := 0) (by omega)).2 _).trans hn4
  have hn9 : ν18 (0) (1) = true := (congrFun (CP_at h19 (i := 0) (by omega)).2 _).trans hn9
  have hn15 : ν18 (0) (3) = true := (congrFun (CP_at h19 (i := 0) (by omega)).2 _).trans hn15
  refine C_putR (pc := 54) (j := 1543) fld_RX6_35 rfl rfl (Or.inr ⟨rfl, rfl⟩) (by decide) (by omega) (by decide) (by rfl) (by rfl) d_X6_init_54 ?_
  have hS := SG_nu (i := 0) (k := 4) hS (by omega) (by omega)
  have hn4 : nuset ν18 (0) 4 (0) 0 = true := by simp [nuset, hn4]
  have hn9 : nuset ν18 (0) 4 (0) 1 = true := by simp [nuset, hn9]
  have hn15 : nuset ν18 (0) 4 (0) 3 = true := by simp [nuset, hn15]
  have hn20 : nuset ν18 (0) 4 (0) 4 = true := by simp [nuset]
  generalize nuset ν18 (0) 4 = ν21 at hS hn4 hn9 hn15 hn20 ⊢
  refine C_aload_n (pc := 57) d_X6_init_57 rfl rfl ?_
  refine C_new (pc := 58) (n := 2) clsOK0 rfl cln_RX6_39 ins_0 inz_0 (by decide) rfl (fun k => congrFun (hS.1 (1545) (by omega)).1 k) (fun k => congrFun (hS.1 (1545) (by omega)).2 k) dfl_0 (by decide) (by decide) d_X6_init_58 ?_
  refine C_dup (pc := 61) d_X6_init_61 rfl ?_
  refine C_aload_n (pc := 62) d_X6_init_62 rfl rfl ?_
  refine C_getR (pc := 63) fld_RX6_10 rfl rfl (by decide) (by omega) hn4 d_X6_init_63 ?_
  rw [show rf (0) 0 = 1 by decide]
  refine C_aload_n (pc := 66) d_X6_init_66 rfl rfl ?_
  refine C_getR (pc := 67) fld_RX6_35 rfl rfl (by decide) (by omega) hn20 d_X6_init_67 ?_
  rw [show rf (0) 4 = 1543 by decide]
  refine C_call (pc := 70) (As := [.ref (g.1 + 1), .ref (g.1 + 1543)]) (rest := [.ref (g.1 + 1545), .ref (g.1 + 0)]) (c_X0_init (g := g) (ZF_up hS.1) (hS.1 _ (Nat.le_refl _)).1) rfl cal_RX6_41 rfl rfl inm_0 (by decide) (by decide) (by decide) rfl rfl (Nat.le_of_ble_eq_true rfl) d_X6_init_70 (fun N9 ν23 M22 h24 => ?_)
  have q9 := h24.1
  subst q9
  have hS := SG_sub hS (by omega) h24
  have hm0 := (CP_at h24 (i := 0) (by omega)).1.trans hm0
  have hn4 : ν23 (0) (0) = true := (congrFun (CP_at h24 (i := 0) (by omega)).2 _).trans hn4
  have hn9 : ν23 (0) (1) = true := (congrFun (CP_at h24 (i := 0) (by omega)).2 _).trans hn9
  have hn15 : ν23 (0) (3) = true := (congrFun (CP_at h24 (i := 0) (by omega)).2 _).trans hn15
  have hn20 : ν23 (0) (4) = true := (congrFun (CP_at h24 (i := 0) (by omega)).2 _).trans hn20
  refine C_putR (pc := 73) (j := 1545) fld_RX6_44 rfl rfl (Or.inr ⟨rfl, rfl⟩) (by decide) (by omega) (by decide) (by rfl) (by rfl) d_X6_init_73 ?_
  have hS := SG_nu (i := 0) (k := 5) hS (by omega) (by omega)
  have hn4 : nuset ν23 (0) 5 (0) 0 = true := by simp [nuset, hn4]
  have hn9 : nuset ν23 (0) 5 (0) 1 = true := by simp [nuset, hn9]
  have hn15 : nuset ν23 (0) 5 (0) 3 = true := by simp [nuset, hn15]
  have hn20 : nuset ν23 (0) 5 (0) 4 = true := by simp [nuset, hn20]
  have hn25 : nuset ν23 (0) 5 (0) 5 = true := by simp [nuset]
  generalize nuset ν23 (0) 5 = ν26 at hS hn4 hn9 hn15 hn20 hn25 ⊢
  refine C_aload_n (pc := 76) d_X6_init_76 rfl rfl ?_
  refine C_new (pc := 77) (n := 3) clsOK4 rfl cln_RX6_48 ins_4 inz_4 (by decide) rfl (fun k => congrFun (hS.1 (1546) (by omega)).1 k) (fun k => congrFun (hS.1 (1546) (by omega)).2 k) dfl_4 (by decide) (by decide) d_X6_init_77 ?_
  refine C_dup (pc := 80) d_X6_init_80 rfl ?_
  refine C_iconst (pc := 81) (v := 3) d_X6_init_81 (by decide) ?_
  refine C_iconst (pc := 82) (v := 2) d_X6_init_82 (by decide) ?_
  refine C_call (pc := 83) (As := [.int 3, .int 2]) (rest := [.ref (g.1 + 1546), .ref (g.1 + 0)]) (c_X4_init (g := g) (b := 1546) (n := 3) (w := 2) (e := 1551) rfl (by decide) (by decide) (by decide) rfl (fun q h1 h2 => tz1546 q h1 h2) (by decide) (by decide) (by decide) (by decide) (by decide) (by decide) (ZF_up hS.1) (hS.1 _ (Nat.le_refl _)).1) rfl cal_RX6_50 rfl rfl inm_4 (by decide) (by decide) (by decide) rfl rfl (Nat.le_of_ble_eq_true rfl) d_X6_init_83 (fun N9 ν28 M27 h29 => ?_)
  have q9 := h29.1
  subst q9
  have hS := SG_sub hS (by omega) h29
  have hm0 := (CP_at h29 (i := 0) (by omega)).1.trans hm0
  have hn4 : ν28 (0) (0) = true := (congrFun (CP_at h29 (i := 0) (by omega)).2 _).trans hn4
  have hn9 : ν28 (0) (1) = true := (congrFun (CP_at h29 (i := 0) (by omega)).2 _).trans hn9
  have hn15 : ν28 (0) (3) = true := (congrFun (CP_at h29 (i := 0) (by omega)).2 _).trans hn15
  have hn20 : ν28 (0) (4) = true := (congrFun (CP_at h29 (i := 0) (by omega)).2 _).trans hn20
  have hn25 : ν28 (0) (5) = true := (congrFun (CP_at h29 (i := 0) (by omega)).2 _).trans hn25
  refine C_putR (pc := 86) (j := 1546) fld_RX6_53 rfl rfl (Or.inr ⟨rfl, rfl⟩) (by decide) (by omega) (by decide) (by rfl) (by rfl) d_X6_init_86 ?_
  have hS := SG_nu (i := 0) (k := 6) hS (by omega) (by omega)
  have hn4 : nuset ν28 (0) 6 (0) 0 = true := by simp [nuset, hn4]
  have hn9 : nuset ν28 (0) 6 (0) 1 = true := by simp [nuset, hn9]
  have hn15 : nuset ν28 (0) 6 (0) 3 = true := by simp [nuset, hn15]
  have hn20 : nuset ν28 (0) 6 (0) 4 = true := by simp [nuset, hn20]
  have hn25 : nuset ν28 (0) 6 (0) 5 = true := by simp [nuset, hn25]
  have hn30 : nuset ν28 (0) 6 (0) 6 = true := by simp [nuset]
  generalize nuset ν28 (0) 6 = ν31 at hS hn4 hn9 hn15 hn20 hn25 hn30 ⊢
  refine C_aload_n (pc := 89) d_X6_init_89 rfl rfl ?_
  refine C_new (pc := 90) (n := 4) clsOK5 rfl cln_RX6_57 ins_5 inz_5 (by decide) rfl (fun k => congrFun (hS.1 (1551) (by omega)).1 k) (fun k => congrFun (hS.1 (1551) (by omega)).2 k) dfl_5 (by decide) (by decide) d_X6_init_90 ?_
  refine C_dup (pc := 93) d_X6_init_93 rfl ?_
  refine C_call (pc := 94) (As := []) (rest := [.ref (g.1 + 1551), .ref (g.1 + 0)]) (c_X5_init (g := g) (ZF_up hS.1) (hS.1 _ (Nat.le_refl _)).1) rfl cal_RX6_59 rfl rfl inm_5 (by decide) (by decide) (by decide) rfl rfl (Nat.le_of_ble_eq_true rfl) d_X6_init_94 (fun N9 ν33 M32 h34 => ?_)
  have q9 := h34.1
  subst q9
  have hS := SG_sub hS (by omega) h34
  have hm0 := (CP_at h34 (i := 0) (by omega)).1.trans hm0
  have hn4 : ν33 (0) (0) = true := (congrFun (CP_at h34 (i := 0) (by omega)).2 _).trans hn4
  have hn9 : ν33 (0) (1) = true := (congrFun (CP_at h34 (i := 0) (by omega)).2 _).trans hn9
  have hn15 : ν33 (0) (3) = true := (congrFun (CP_at h34 (i := 0) (by omega)).2 _).trans hn15
  have hn20 : ν33 (0) (4) = true := (congrFun (CP_at h34 (i := 0) (by omega)).2 _).trans hn20
  have hn25 : ν33 (0) (5) = true := (congrFun (CP_at h34 (i := 0) (by omega)).2 _).trans hn25
  have hn30 : ν33 (0) (6) = true := (congrFun (CP_at h34 (i := 0) (by omega)).2 _).trans hn30
  refine C_putR (pc := 97) (j := 1551) fld_RX6_60 rfl rfl (Or.inr ⟨rfl, rfl⟩) (by decide) (by omega) (by decide) (by rfl) (by rfl) d_X6_init_97 ?_
  have hS := SG_nu (i := 0) (k := 7) hS (by omega) (by omega)
  have hn4 : nuset ν33 (0) 7 (0) 0 = true := by simp [nuset, hn4]
  have hn9 : nuset ν33 (0) 7 (0) 1 = true := by simp [nuset, hn9]
  have hn15 : nuset ν33 (0) 7 (0) 3 = true := by simp [nuset, hn15]
  have hn20 : nuset ν33 (0) 7 (0) 4 = true := by simp [nuset, hn20]
  have hn25 : nuset ν33 (0) 7 (0) 5 = true := by simp [nuset, hn25]
  have hn30 : nuset ν33 (0) 7 (0) 6 = true := by simp [nuset, hn30]
  have hn35 : nuset ν33 (0) 7 (0) 7 = true := by simp [nuset]
  generalize nuset ν33 (0) 7 = ν36 at hS hn4 hn9 hn15 hn20 hn25 hn30 hn35 ⊢
  refine C_exit ⟨d_X6_init_100, rfl, ?_⟩
  refine SG_done hS (fun i hi => ?_)
  rw [hi]
  refine ⟨?_, fun k hk9 => ?_⟩
  · rw [hm0]; simp only [upd_zF]; rfl
  · rcases hk9 with ⟨h9, -⟩ | ⟨-, h8, h9⟩
    · exact absurd h9 (by decide)
    · have h9 : k < 8 := h9
      rcases (show k = 0 ∨ k = 1 ∨ k = 2 ∨ k = 3 ∨ k = 4 ∨ k = 5 ∨ k = 6 ∨ k = 7 by omega) with rfl | rfl | rfl | rfl | rfl | rfl | rfl | rfl
      all_goals first | assumption | exact absurd h8 (by decide)
