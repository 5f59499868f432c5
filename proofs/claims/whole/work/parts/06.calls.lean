/-! ===== calls ===== -/
section Calls9
variable {g : GG} {d : Nat} {y : Mth} {pc : Nat} {L : List (Option Value)} {st : List Value} {M : Mem} {kc : Nat} {Q : Out → Mem → Prop}
theorem env_blind {av : List Value} : FrameBlind (va_Pc av (fun U => Rep g M U.heap ∧ Env0 g U)) := by
  intro a U g0 mk q
  obtain ⟨q0, q1, q2⟩ := q
  exact ⟨q0, q1, q2.to (State.WarmedH.refl U) (Nat.le_refl _) (fun _ _ _ => rfl)⟩
/-- what a callee's contract asks at the call, out of where the caller stands -/
theorem env_at {s U : State} {H : Heap} {locs : List Loc} (hE : Env0 g s) (hS : va_S (AG g) s.heap H locs) (hU : U.heap = H) (hW : s.WarmedH U.vm) : Env0 g U := hE.to hW (by rw [hU]; exact hS.1) (fun q h1 h2 => by rw [hU]; exact hS.2.1 q h1 h2)
/-- a callee without a table of its own -/
def calOK (own : String) (idx : Nat) (y' : Mth) (n : Nat) : Prop := y'.2.2.2.2 = [] ∧ y'.2.2.1 ≤ 80 ∧ Cond.methodLink own idx y'.1 ∈ AW ∧ cwY y' ∈ AW ∧ Cond.initialized y'.1.cls ∈ AW ∧ (y'.1.cls ≠ "java/lang/invoke/MethodHandle" ∧ y'.1.cls ≠ "java/lang/invoke/VarHandle") ∧ (parseMethodDescriptor y'.1.desc).map (fun d => d.parameters.length) = some n
theorem calB {own : String} {idx n d' kc' : Nat} {y' : Mth} {R : Room} {s : State} {args : Array Value} (h : calOK own idx y' n) (hts : ∀ w ∈ AW, w.before args s = true) (h1 : d' + 1 ≤ d) (h2 : d ≤ R.frames) (h3 : 100 * d + 100 ≤ R.locals) : CallB R s args own idx y'.1 y'.2.1 y'.2.2.1 y'.2.2.2.1 (wsY y') (rmD d' kc') kc' (6 * kc') n := by
  obtain ⟨a1, a2, a3, a4, a5, a6, a7⟩ := h
  have hc : cwY y' = Cond.code y'.1 y'.2.1 y'.2.2.1 y'.2.2.2.1 := by unfold cwY; rw [a1]; rfl
  refine ⟨rfl, rfl, by show d' + 1 ≤ _; omega, by show 8 + (y'.2.2.1 + 11) + (100 * d' + 100) ≤ _; omega, fun w hw a' U hW => ?_, by rw [← hc]; exact List.mem_cons_self, by rw [← hc]; exact hts _ a4, hts _ a5, a6, fun sig hs => ?_, hts _ a3⟩
  · rcases List.mem_cons.mp hw with q | q
    · rw [q]; exact aw_at hW hts _ a4
    · exact aw_at hW hts _ q
  · rw [hs] at a7
    exact (Option.some.inj a7).symm
/-- behind a run of a callee that comes back or throws, nothing caught here -/
theorem call_end {p : Program} {l : Launch} {e : Env} {R : Room} {s : State} {m : MethodId} {args : Array Value} {below : List Frame} {meth : Method} {c : Code} {Z : State → Prop} {H : Heap} {locs : List Loc} {ls : Array Slot} {cells slots mc ms kc' : Nat} {rest : List Value} {a9 : Array Value} {Q' : Out → Mem → Prop}
    (S : Sx g d y L M kc Q p l e R s m args below meth c Z H locs ls cells slots mc ms) (hh : y.2.2.2.2 = []) (hkc : kc' ≤ kc)
    (run : vx_Run p l e R s m args below meth c H locs cells slots kc' (6 * kc') (F0 m pc ls st) rest (fun st oc t => ∃ (o : Option Value) (M' : Mem), oc = .returned o ∧ Q' (.inl o) M' ∧ Rep g M' t.heap ∧ va_F (AG g) st t) (XQ g Q') (AG g))
    (kk : ∀ (o : Option Value) (M' : Mem), Q' (.inl o) M' → WP g d y (pc + 3) L (o.toList ++ rest) M' (kc - kc') Q) (kx : ∀ (E : String) (M' : Mem), Q' (.inr E) M' → Q (.inr E) M') :
    W p l e R s m args below meth c H locs cells slots Z (F0 m pc ls st) := by
  obtain ⟨hC, hP, hS, hL, hB, hR, hX⟩ := S
  intro T hT X
  rcases run T hT X with ⟨v, st₀, t, T', Lc, h0, X', hLc, e1, e2, ⟨o, M', ho, hq, hP', hF⟩, stp⟩ | ⟨q, st₀, t, T', Lc, E, ce, h0, X', hLc, e1, e2, ⟨M', hq, hP', hF⟩, hce, hcv, hcl, stp⟩
  · cases ho
    obtain ⟨k1, k2, hS'⟩ := vx_keep h0 e1 hS (fun q _ h => h) (fun q h => h) hLc hF
    obtain ⟨t2, a1, b1⟩ := kk v M' hq p l e R s m args below meth c Z T'.heap (locs ++ Lc) ls (cells + kc') (slots + 6 * kc') mc ms ⟨hC, by rw [e1]; exact hP', hS', hL, ⟨by omega, by omega, hB.2.2.1, hB.2.2.2⟩, hR, hX⟩ T' rfl X'
    exact ⟨t2, stp t2 a1, b1⟩
  · obtain ⟨k1, k2, hS'⟩ := vx_keep h0 e1 hS (fun q _ h => h) (fun q h => h) hLc hF
    obtain ⟨t2, a1, b1⟩ := vx_out (p := p) (l := l) (e := e) (R := R) (s := s) (m := m) (args := args) (below := below) (meth := meth) (c := c) (Qc := NoQ) (XC := XQ g Q) (free := AG g) (mc := mc) (ms := ms) (ls := ls) (rest := rest) (H := T'.heap) (locs := locs ++ Lc) (cells := cells + kc') (slots := slots + 6 * kc') (pc := pc) (E := E) (ce := ce) (q := q) (fun x hx => by rw [hC.2.2.2.2.2.2.2.1, hh] at hx; cases hx) hC.2.2.2.2.2.2.1 (by rw [e1]; exact hce) hcv hcl
      (fun t9 ht9 _ => ⟨M', kx E M' hq, by rw [ht9, e1]; exact hP', hS'.F ht9⟩) (fun z hz => hS'.2.2 z hz) (by omega) (by omega) T' rfl X'
    exact ⟨t2, stp.trans a1, hX t2 b1⟩
theorem R_callV {own : String} {idx n d' kc' b : Nat} {y' : Mth} {T : u_T} {ty : Nat → FieldType} {As rest : List Value} {Q' : Out → Mem → Prop} (ct : CT g d' y' (.ref (g.1 + b) :: As) M kc' Q') (hy : y.1.cls = own) (hh : y.2.2.2.2 = []) (hc : calOK own idx y' n) (hi : Cond.instanceMethod y'.1 ∈ AW) (hs : Cond.selects y'.1.cls y'.1 y'.1 ∈ AW) (hcl : clsOK (kd b) y'.1.cls T ty) (hd' : d' + 1 ≤ d) (hkc : kc' ≤ kc) (hn : As.length = n) (hst : st = As.reverse ++ .ref (g.1 + b) :: rest) (hrs : (rest.map fun v => v.category).sum ≤ 8) (hd : decode y.2.1 pc = .ok (.invokevirtual idx, 3))
    (kk : ∀ (o : Option Value) (M' : Mem), Q' (.inl o) M' → WP g d y (pc + 3) L (o.toList ++ rest) M' (kc - kc') Q) (kx : ∀ (E : String) (M' : Mem), Q' (.inr E) M' → Q (.inr E) M') : WP g d y pc L st M kc Q := fun p l e R s m args below meth c0 Z H locs ls cells slots mc ms S => by
  obtain ⟨hx, hb, hr, hml, hown, hts, hlk, hxt, htr, henv, hf, hl⟩ := S.1
  have hB := S.2.2.2.2.1
  obtain ⟨q0, hq⟩ := rep_at g M (i := b) (by have := hcl.1; omega)
  rw [cell_o g M rfl hcl.1] at hq
  refine call_end (a9 := (Value.ref (g.1 + b) :: As).toArray) S hh hkc (vx_runV (cc := y.2.1) (nL := y.2.2.1) (Ts := AW) (own := own) (C := y'.1.cls) (As := As) (b := g.1 + b) ⟨hx, hb, hml, hy ▸ hown, hts⟩ (ct l htr) ⟨calB hc hts hd' hf hl, hts _ hi, hts _ hs⟩ ⟨env_blind, va_recv henv.2.1 S.2.1 hcl.2.1 hq, fun U hU hW => ⟨rfl, by rw [hU]; exact S.2.1, env_at henv S.2.2.1 hU hW⟩⟩ rfl hn S.2.2.2.1.1 hst (lv_room hrs) hd ⟨by omega, by omega⟩) kk kx
theorem R_callS {own : String} {idx n d' kc' : Nat} {y' : Mth} {As rest : List Value} {Q' : Out → Mem → Prop} (ct : CT g d' y' As M kc' Q') (hy : y.1.cls = own) (hh : y.2.2.2.2 = []) (hc : calOK own idx y' n) (hs : Cond.static y'.1 ∈ AW) (hd' : d' + 1 ≤ d) (hkc : kc' ≤ kc) (hn : As.length = n) (hst : st = As.reverse ++ rest) (hrs : (rest.map fun v => v.category).sum ≤ 8) (hd : decode y.2.1 pc = .ok (.invokestatic idx, 3))
    (kk : ∀ (o : Option Value) (M' : Mem), Q' (.inl o) M' → WP g d y (pc + 3) L (o.toList ++ rest) M' (kc - kc') Q) (kx : ∀ (E : String) (M' : Mem), Q' (.inr E) M' → Q (.inr E) M') : WP g d y pc L st M kc Q := fun p l e R s m args below meth c0 Z H locs ls cells slots mc ms S => by
  obtain ⟨hx, hb, hr, hml, hown, hts, hlk, hxt, htr, henv, hf, hl⟩ := S.1
  have hB := S.2.2.2.2.1
  refine call_end (a9 := As.toArray) S hh hkc (vx_runS (cc := y.2.1) (nL := y.2.2.1) (Ts := AW) (own := own) (As := As) ⟨hx, hb, hml, hy ▸ hown, hts⟩ (ct l htr) ⟨calB hc hts hd' hf hl, hts _ hs⟩ ⟨env_blind, fun U hU hW => ⟨rfl, by rw [hU]; exact S.2.1, env_at henv S.2.2.1 hU hW⟩⟩ rfl hn S.2.2.2.1.1 hst (lv_room hrs) hd ⟨by omega, by omega⟩) kk kx
/-- a static callee with a table of its own -/
def calWOK (own : String) (idx : Nat) (y' : Mth) (n : Nat) : Prop := y'.2.2.2.2.isEmpty = false ∧ y'.2.2.1 ≤ 80 ∧ Cond.methodLink own idx y'.1 ∈ AW ∧ cwY y' ∈ AW ∧ Cond.initialized y'.1.cls ∈ AW ∧ (y'.1.cls ≠ "java/lang/invoke/MethodHandle" ∧ y'.1.cls ≠ "java/lang/invoke/VarHandle") ∧ (parseMethodDescriptor y'.1.desc).map (fun d => d.parameters.length) = some n
theorem R_callSW {own : String} {idx n d' kc' : Nat} {y' : Mth} {As rest : List Value} {Q' : Out → Mem → Prop} (ct : CT g d' y' As M kc' Q') (hy : y.1.cls = own) (hh : y.2.2.2.2 = []) (hc : calWOK own idx y' n) (hs : Cond.static y'.1 ∈ AW) (hd' : d' + 1 ≤ d) (hkc : kc' ≤ kc) (hn : As.length = n) (hst : st = As.reverse ++ rest) (hrs : (rest.map fun v => v.category).sum ≤ 8) (hd : decode y.2.1 pc = .ok (.invokestatic idx, 3))
    (kk : ∀ (o : Option Value) (M' : Mem), Q' (.inl o) M' → WP g d y (pc + 3) L (o.toList ++ rest) M' (kc - kc') Q) (kx : ∀ (E : String) (M' : Mem), Q' (.inr E) M' → Q (.inr E) M') : WP g d y pc L st M kc Q := fun p l e R s m args below meth c0 Z H locs ls cells slots mc ms S => by
  obtain ⟨hx, hb, hr, hml, hown, hts, hlk, hxt, htr, henv, hf, hl⟩ := S.1
  have hB := S.2.2.2.2.1
  obtain ⟨a1, a2, a3, a4, a5, a6, a7⟩ := hc
  have hcw : cwY y' = Cond.codeWith y'.1 y'.2.1 y'.2.2.1 y'.2.2.2.1 y'.2.2.2.2 := by unfold cwY; rw [a1]; rfl
  refine call_end (a9 := As.toArray) S hh hkc (vx_runSX (hh := y'.2.2.2.2) (bytes := y'.2.1) (maxL := y'.2.2.1) (ret := y'.2.2.2.1) (n := n) (cc := y.2.1) (nL := y.2.2.1) (Ts := AW) (own := own) (As := As) ⟨hx, hb, hml, hy ▸ hown, hts⟩ (ct l htr) ⟨⟨rfl, rfl, by show d' + 1 ≤ _; omega, by show 8 + (y'.2.2.1 + 11) + (100 * d' + 100) ≤ _; omega, fun w hw a' U hW => ?_, by rw [← hcw]; exact List.mem_cons_self⟩, by rw [← hcw]; exact hts _ a4, hts _ a5, a6, fun sig hs9 => ?_, hts _ a3, hts _ hs⟩ ⟨env_blind, fun U hU hW => ⟨rfl, by rw [hU]; exact S.2.1, env_at henv S.2.2.1 hU hW⟩⟩ rfl hn S.2.2.2.1.1 hst (lv_room hrs) hd ⟨by omega, by omega⟩) kk kx
  · rcases List.mem_cons.mp hw with q | q
    · rw [q]; exact aw_at hW hts _ a4
    · exact aw_at hW hts _ q
  · rw [hs9] at a7
    exact (Option.some.inj a7).symm
/-- a callee that never throws -/
theorem met_of {l : Launch} {y' : Mth} {d' kc' : Nat} {av : List Value} {Q' : Out → Mem → Prop} (htr : l.stackTraces = false) (ct : CT g d' y' av M kc' Q') (hno : ∀ E M', ¬ Q' (.inr E) M') : Met l y'.1 (wsY y') (rmD d' kc') (va_Pc av (fun U => Rep g M U.heap ∧ Env0 g U)) (fun _ st oc t => ∃ (o : Option Value) (M' : Mem), oc = .returned o ∧ Q' (.inl o) M' ∧ Rep g M' t.heap ∧ va_F (AG g) st t) kc' (6 * kc') (AG g) := by
  have h := ct l htr
  intro p e ha hc hk s m args below hf hap hP hK
  obtain ⟨t, o, h1, h2, h3, h4⟩ := h p e ha hc hk s m args below hf hap hP hK
  refine ⟨t, o, h1, h2, h3, ?_⟩
  rcases h4 with h4 | ⟨q, -, E, ce, L9, ⟨M', hq, -⟩, -⟩
  · exact h4
  · exact (hno E M' hq).elim
/-- the one static call of a nest mate: VisitBooking.isBelow out of VisitBooking$Text -/
theorem R_callN {n d' : Nat} {y' : Mth} {As rest : List Value} {Q' : Out → Mem → Prop} (ct : CT g d' y' As M 0 Q') (hno : ∀ E M', ¬ Q' (.inr E) M') (hy : y.1.cls = RX5) (hy' : nestW = .methodLinkNest RX5 57 y'.1 RX6) (h0 : y'.2.2.2.2 = []) (hmx : y'.2.2.1 ≤ 80) (hcw : cwY y' ∈ AW) (hini : Cond.initialized y'.1.cls ∈ AW) (hne : y'.1.cls ≠ "java/lang/invoke/MethodHandle" ∧ y'.1.cls ≠ "java/lang/invoke/VarHandle") (hpd : (parseMethodDescriptor y'.1.desc).map (fun d => d.parameters.length) = some n) (hs : Cond.static y'.1 ∈ AW) (hd' : d' + 1 ≤ d) (hn : As.length = n) (hst : st = As.reverse ++ rest) (hrs : (rest.map fun v => v.category).sum ≤ 8) (hd : decode y.2.1 pc = .ok (.invokestatic 57, 3))
    (kk : ∀ (o : Option Value) (M' : Mem), Q' (.inl o) M' → WP g d y (pc + 3) L (o.toList ++ rest) M' kc Q) : WP g d y pc L st M kc Q := fun p l e R s m args below meth c0 Z H locs ls cells slots mc ms S => by
  obtain ⟨⟨hx, hb, hr, hml, hown, hts, hlk, hxt, htr, henv, hf, hl⟩, hP, hS, hL, hB, hR, hX⟩ := S
  have hc : cwY y' = Cond.code y'.1 y'.2.1 y'.2.2.1 y'.2.2.2.1 := by unfold cwY; rw [h0]; rfl
  have hnw : (Cond.methodLinkNest RX5 57 y'.1 RX6).before args s = true := by
    have h9 := henv.2.2.2.2.2.2.1
    rw [hy'] at h9
    exact va_Nw.use rfl h9
  have run := va_runSN (p := p) (l := l) (e := e) (R := R) (s := s) (m := m) (args := args) (below := below) (meth := meth) (c := c0) (H := H) (locs := locs) (cells := cells) (slots := slots) (g := F0 m pc ls st) (bytes := y'.2.1) (maxL := y'.2.2.1) (ret := y'.2.2.2.1) (n := n) (cc := y.2.1) (nL := y.2.2.1) (Ts := AW) (own := RX5) (host := RX6) (As := As) (rest := rest) ⟨hx, hb, hml, hy ▸ hown, hts⟩ (met_of htr ct hno)
    ⟨⟨⟨rfl, rfl, by show d' + 1 ≤ _; omega, by show 8 + (y'.2.2.1 + 11) + (100 * d' + 100) ≤ _; omega, fun w hw a' U hW => by
        rcases List.mem_cons.mp hw with q | q
        · rw [q]; exact aw_at hW hts _ hcw
        · exact aw_at hW hts _ q, by rw [← hc]; exact List.mem_cons_self⟩, by rw [← hc]; exact hts _ hcw, hts _ hini, hne, fun sig hs9 => by
        rw [hs9] at hpd
        exact (Option.some.inj hpd).symm, hnw⟩, hts _ hs, trivial⟩ ⟨env_blind, fun U hU hW => ⟨rfl, by rw [hU]; exact hP, env_at henv hS hU hW⟩⟩ rfl hn hL.1 hst (lv_room hrs) hd ⟨by omega, by omega⟩
  intro T hT X
  obtain ⟨v, st₀, t, T', Lc, h0, X', hLc, e1, e2, ⟨o, M', ho, hq, hP', hF⟩, stp⟩ := run T hT X
  cases ho
  obtain ⟨k1, k2, hS'⟩ := vx_keep h0 e1 hS (fun q _ h => h) (fun q h => h) hLc hF
  obtain ⟨t2, a1, b1⟩ := kk v M' hq p l e R s m args below meth c0 Z T'.heap (locs ++ Lc) ls (cells + 0) (slots + 6 * 0) mc ms ⟨⟨hx, hb, hr, hml, hown, hts, hlk, hxt, htr, henv, hf, hl⟩, by rw [e1]; exact hP', hS', hL, ⟨by omega, by omega, hB.2.2.1, hB.2.2.2⟩, hR, hX⟩ T' rfl X'
  exact ⟨t2, stp t2 a1, b1⟩
/-- a handler of the law's own kind: it keeps the exception in a local, and answers v -/
def handOK (y : Mth) (pc : Nat) (E : String) (v : Int32) : Prop := ∃ (pre : List (Nat × Nat × Nat × Nat)) (z : Nat × Nat × Nat × Nat) (suf : List (Nat × Nat × Nat × Nat)) (nm : String) (i : Nat) (n : Int) (p1 : Nat), y.2.2.2.2 = pre ++ z :: suf ∧ (∀ w ∈ pre, w.2.2.2 ≠ 0 ∧ ∃ nm' : String, Cond.classLink y.1.cls w.2.2.2 nm' ∈ AW ∧ (E, nm') ∈ NCS) ∧ (z.1 ≤ pc ∧ pc < z.2.1) ∧ z.2.2.2 ≠ 0 ∧ Cond.classLink y.1.cls z.2.2.2 nm ∈ AW ∧ Cond.castable E nm ∈ AW ∧ i < y.2.2.1 ∧ ((∃ k4 : Fin 4, (k4 : Nat) = i ∧ decode y.2.1 z.2.2.1 = .ok (.astore_n k4, 1) ∧ p1 = z.2.2.1 + 1) ∨ (decode y.2.1 z.2.2.1 = .ok (.astore i, 2) ∧ p1 = z.2.2.1 + 2)) ∧ decode y.2.1 p1 = .ok (.iconst n, 1) ∧ Int32.ofInt n = v ∧ decode y.2.1 (p1 + 1) = .ok (.ireturn, 1)
theorem R_callVC {own : String} {idx n d' kc' b : Nat} {y' : Mth} {T : u_T} {ty : Nat → FieldType} {As rest : List Value} {Q' : Out → Mem → Prop} (ct : CT g d' y' (.ref (g.1 + b) :: As) M kc' Q') (hy : y.1.cls = own) (hc : calOK own idx y' n) (hi : Cond.instanceMethod y'.1 ∈ AW) (hs : Cond.selects y'.1.cls y'.1 y'.1 ∈ AW) (hcl : clsOK (kd b) y'.1.cls T ty) (hd' : d' + 1 ≤ d) (hkc : kc' ≤ kc) (hn : As.length = n) (hst : st = As.reverse ++ .ref (g.1 + b) :: rest) (hrs : (rest.map fun v => v.category).sum ≤ 8) (hd : decode y.2.1 pc = .ok (.invokevirtual idx, 3))
    (kk : ∀ (o : Option Value) (M' : Mem), Q' (.inl o) M' → WP g d y (pc + 3) L (o.toList ++ rest) M' (kc - kc') Q) (kx : ∀ (E : String) (M' : Mem), Q' (.inr E) M' → ∃ v : Int32, handOK y pc E v ∧ Q (.inl (some (.int v))) M') : WP g d y pc L st M kc Q := fun p l e R s m args below meth c0 Z H locs ls cells slots mc ms S => by
  obtain ⟨⟨hx, hb, hr, hml, hown, hts, hlk, hxt, htr, henv, hf, hl⟩, hP, hS, hL, hB, hR, hX⟩ := S
  obtain ⟨q0, hq⟩ := rep_at g M (i := b) (by have := hcl.1; omega)
  rw [cell_o g M rfl hcl.1] at hq
  have run := vx_runV (p := p) (l := l) (e := e) (R := R) (s := s) (m := m) (args := args) (below := below) (meth := meth) (c := c0) (H := H) (locs := locs) (cells := cells) (slots := slots) (g := F0 m pc ls st) (rest := rest) (cc := y.2.1) (nL := y.2.2.1) (Ts := AW) (own := own) (C := y'.1.cls) (As := As) (b := g.1 + b) ⟨hx, hb, hml, hy ▸ hown, hts⟩ (ct l htr) ⟨calB hc hts hd' hf hl, hts _ hi, hts _ hs⟩ ⟨env_blind, va_recv henv.2.1 hP hcl.2.1 hq, fun U hU hW => ⟨rfl, by rw [hU]; exact hP, env_at henv hS hU hW⟩⟩ rfl hn hL.1 hst (lv_room hrs) hd ⟨by omega, by omega⟩
  intro T9 hT X
  rcases run T9 hT X with ⟨v, st₀, t, T', Lc, h0, X', hLc, e1, e2, ⟨o, M', ho, hq', hP', hF⟩, stp⟩ | ⟨q, st₀, t, T', Lc, E, ce, h0, X', hLc, e1, e2, ⟨M', hq', hP', hF⟩, hce, hcv, hcl9, stp⟩
  · cases ho
    obtain ⟨k1, k2, hS'⟩ := vx_keep h0 e1 hS (fun q _ h => h) (fun q h => h) hLc hF
    obtain ⟨t2, a1, b1⟩ := kk v M' hq' p l e R s m args below meth c0 Z T'.heap (locs ++ Lc) ls (cells + kc') (slots + 6 * kc') mc ms ⟨⟨hx, hb, hr, hml, hown, hts, hlk, hxt, htr, henv, hf, hl⟩, by rw [e1]; exact hP', hS', hL, ⟨by omega, by omega, hB.2.2.1, hB.2.2.2⟩, hR, hX⟩ T' rfl X'
    exact ⟨t2, stp t2 a1, b1⟩
  · obtain ⟨k1, k2, hS'⟩ := vx_keep h0 e1 hS (fun q _ h => h) (fun q h => h) hLc hF
    obtain ⟨v, ⟨pre, z, suf, nm, i, n9, p1, f1, f2, f3, f4, f5, f6, f7, f8, f9, f10, f11⟩, hqv⟩ := kx E M' hq'
    have hfin : ∀ ls', W p l e R s m args below meth c0 T'.heap (locs ++ Lc) (cells + kc') (slots + 6 * kc') Z (F0 m p1 ls' []) := fun ls' => by
      refine lv_iconst (v := v) hx hb f9 f10 ?_
      exact hR (some (.int v)) M' T'.heap (locs ++ Lc) ls' (p1 + 1) _ _ hqv (by rw [e1]; exact hP') hS' (by omega) (by omega) f11
    obtain ⟨t2, a1, b1⟩ := vx_catch (p := p) (l := l) (e := e) (R := R) (s := s) (m := m) (args := args) (below := below) (meth := meth) (c := c0) (Q := Z) (ls := ls) (rest := rest) (H := T'.heap) (locs := locs ++ Lc) (cells := cells + kc') (slots := slots + 6 * kc') (pc := pc) (own := y.1.cls) (name := nm) (E := E) (ce := ce) (q := q) hown (tableOf pre) ⟨z.1, z.2.1, z.2.2.1, z.2.2.2⟩ (tableOf suf) (by rw [hxt, f1]; unfold tableOf; rw [List.map_append, List.map_cons])
      (fun w hw => by
        obtain ⟨w0, hw0, rfl⟩ := List.mem_map.mp hw
        obtain ⟨g1, nm', g2, g3⟩ := f2 w0 hw0
        exact Or.inr ⟨g1, nm', hts _ g2, henv.2.2.2.2.2.1 _ g3⟩) (by unfold covers; simp [f3.1, f3.2]) f4 (hts _ f5) (hts _ f6) (by rw [e1]; exact hce) hcv hcl9
      (by
        show W p l e R s m args below meth c0 T'.heap (locs ++ Lc) (cells + kc') (slots + 6 * kc') Z (F0 m z.2.2.1 ls [.ref q])
        rcases f8 with ⟨k4, hk4, hdk, rfl⟩ | ⟨hdk, rfl⟩
        · exact lv_astore_n hx hb hdk hk4 (LH.has hL) f7 rfl (fun ls' _ => hfin ls')
        · exact lv_astore hx hb hdk (LH.has hL) f7 rfl (fun ls' _ => hfin ls')) T' rfl X'
    exact ⟨t2, stp.trans a1, b1⟩
/-- the contract of a body with handlers -/
theorem CT_ofH {av : List Value} (hy : plainName y.1.cls = true) (hh : y.2.2.2.2.isEmpty = false) (hlen : (lg_sl av).length ≤ y.2.2.1) (hret : retOK y Q) (hL : ents av y.2.2.1 = L) (k : WP g d y 0 L [] M kc Q) : CT g d y av M kc Q := by
  intro l htr
  have hcw : cwY y = Cond.codeWith y.1 y.2.1 y.2.2.1 y.2.2.2.1 y.2.2.2.2 := by unfold cwY; rw [hh]; rfl
  have hw : wsY y = Cond.codeWith y.1 y.2.1 y.2.2.1 y.2.2.2.1 y.2.2.2.2 :: AW := by unfold wsY; rw [hcw]
  refine vx_ofWH (ws' := AW) (cc := y.2.1) (maxL := y.2.2.1) (ret := y.2.2.2.1) hy hw ?_
  intro p e s m args below meth c s₁ B hml hv
  obtain ⟨rfl, hP, hE⟩ := hv
  have hts0 := atoms_spec (ws := wsY y) B.pre
  have hS : va_S (AG g) s.heap s.heap [] := va_S.rf
  have hl := lv_entry av (n := y.2.2.1) hlen
  rw [lg_entry_eq]
  have hc9 : (cwY y).before av.toArray s = true := hts0 _ List.mem_cons_self
  rw [hcw] at hc9
  have hlk := B.notSynchronized
  have hx := B.exec
  have hb := B.bytes
  have hr := B.returns
  refine k p l e (rmD d kc) s m av.toArray below meth c _ s.heap [] _ 0 0 kc (6 * kc) ⟨⟨hx, hb, hr, hml, findClass_of_methodNamed B.named, fun w hw => hts0 w (List.mem_cons_of_mem _ hw), hlk, vx_table (x := y.1) B hc9, htr, hE, Nat.le_refl _, Nat.le_refl _⟩, hP, hS, ⟨hl.1, hl.2.1, fun i v hi => ?_⟩, ⟨by omega, by omega, Nat.le_refl _, Nat.le_refl _⟩, ?_, ?_⟩
  · rw [← hL] at hi
    exact hl.2.2 (i, v) (ents_at hi)
  · intro o M' H' locs' ls' pc' cells' slots' hq hP' hS' hc' hs' hRA
    have hro := hret o M' hq
    refine W.widen (k := kc) (n := 6 * kc) hc' hs' ?_
    have hfin : ∀ (t : State), t.heap = H' → s.WarmedH t.vm → (fun (_ : Array Value) (st : State) (oc : Outcome) (t : State) => ∃ (o : Option Value) (M' : Mem), oc = .returned o ∧ Q (.inl o) M' ∧ Rep g M' t.heap ∧ va_F (AG g) st t) av.toArray s (.returned o) t := fun t ht _ => ⟨o, M', rfl, hq, by rw [ht]; exact hP', hS'.F ht⟩
    cases o with
    | none => exact vx_ret (W.vret hx hb (hr.trans hro) hfin hS'.2.2 hRA)
    | some v =>
      cases v with
      | int v =>
        obtain ⟨ty, h1, h2⟩ := hro
        exact vx_ret (W.zret hx hb (hr.trans h1) h2 hfin hS'.2.2 hRA)
      | long v => exact vx_ret (W.lret hx hb (hr.trans hro) hfin hS'.2.2 hRA)
      | float v => exact vx_ret (W.fret hx hb (hr.trans hro) hfin hS'.2.2 hRA)
      | double v => exact vx_ret (W.dret hx hb (hr.trans hro) hfin hS'.2.2 hRA)
      | ref a =>
        obtain ⟨t, h1⟩ := hro
        exact vx_ret (W.aret hx hb (hr.trans h1) (Or.inr ⟨t, rfl⟩) (Or.inr ⟨a, rfl⟩) hfin hS'.2.2 hRA)
      | null => exact hro.elim
      | retAddr _ => exact hro.elim
  · intro t ht
    obtain ⟨o, h1, h2, h3⟩ := ht
    refine ⟨o, h1, h2, ?_⟩
    rcases h3 with ⟨h4, -⟩ | h4
    · exact h4.elim
    · exact Or.inr h4
end Calls9
