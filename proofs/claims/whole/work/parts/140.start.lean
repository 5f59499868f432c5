def R_law : String := "VisitBookingLaw"
def lw_P (b : Addr) (xs : List Int32) (args : Array Value) (s : State) : Prop := args = #[.ref b] ∧ s.IntsAt b xs ∧ xs.length ≤ 3072 ∧ (Jvm.Cond.and given_1 narrow_1).before args s = true
/-- what a walk over the start with the record d0 says of its end, said of the start itself -/
theorem lw_closed {s t : State} {o : Outcome} {d0 : Drawn} {L : List Loc} {k n : Nat} (hd0 : s.drawn.sameBut d0 lw_cs) (hv : ∃ v, o = .returned v) (hW : (s.setDrawn d0).WarmedH t.vm) (hs : (s.setDrawn d0).sameButNew ({ t with vm := s.vm } : State) L k n) : State.butDraws s t lw_cs (fun t1 => Framed s o t1 L k n) := by
  have h2 : t.drawn = d0 := congrArg State.drawn hs.1
  refine ⟨⟨hv, hW, State.sameButNew.setDrawn hs s.drawn⟩, ?_, by decide⟩
  rw [h2]
  exact hd0
def lw_Q (_ : Array Value) (s : State) (o : Outcome) (t : State) : Prop := o = .returned (some (.int 1)) ∧ State.butDraws s t lw_cs (fun t1 => Framed s o t1 [] room_1.cells room_1.slots)
def lw_Z (below : List Frame) (a : Array Value) (s : State) : State → Prop := fun t => ∃ o, t.status = .running ∧ Ended t below o ∧ lw_Q a s o t
/-- the law's own end, with 1 on the stack, nothing written that was there before, its room as the claim has it; d0: the record of draws at this point (at the entry s.drawn: begin with 'refine W.base ?_' and 'have hd0 := Drawn.sameBut.refl s.drawn lw_cs') -/
theorem lw_ret {p : Program} {l : Launch} {e : Env} {s : State} {m : MethodId} {below : List Frame} {meth : Method} {c : Code} {b : Nat} {d0 : Drawn} (hd0 : s.drawn.sameBut d0 lw_cs) (hx : p.tables.exec = Jvm.exec) (hb : c.code = code) (hr : meth.sig.returnType = ret) (hlocks : meth.locks = false) {pc : Nat} {H : Heap} {ls : Array Slot} (hdg : decode code pc = .ok (.ireturn, 1)) : W p l e room_1 (s.setDrawn d0) m #[Value.ref b] below meth c H [] room_1.cells room_1.slots (lw_Z below #[Value.ref b] s) (F0 m pc ls [.int 1]) := by
  intro T hT X
  obtain ⟨fs, hret, hrun, hended, hW, hframe⟩ := X.leave (v := some (.int 1)) (hlocks := hlocks) (fun h => by rw [hr] at h; cases h)
  have hmeth' : T.vm.method? m = some meth := X.method'
  refine ⟨T.setFrames fs, ?_, .returned (some (.int 1)), hrun, hended, rfl, lw_closed hd0 ⟨_, rfl⟩ hW hframe⟩
  jvm_step X.here [X.here.top, hx, hb, hdg, hmeth', hr, ret, narrow_b1]
  (try refine ⟨rfl, ?_⟩); (try refine ⟨rfl, ?_⟩)
  first | (intro acts; rw [hret _ acts rfl rfl rfl]) | rw [hret _ _ rfl rfl rfl]
  exact Steps.refl _
/-- what holds at the law's entry: the machine, the code, the tables' words (any of lw_tbl by 'hts w (by decide +kernel)'), the script of L ints xs at the cell b, what the Statement gives of the start (any of its parts by flat_of_before) -/
def lw_At (p : Program) (s : State) (m : MethodId) (meth : Method) (c : Code) (b L : Nat) (xs : Nat → Int32) : Prop :=
  p.tables.exec = Jvm.exec ∧ c.code = code ∧ meth.sig.returnType = ret ∧ c.maxLocals = 9 ∧ s.vm.findClass R_law = some m.cls ∧ (∀ w ∈ lw_tbl, w.before #[Value.ref b] s = true) ∧ va_X b L xs s s.heap ∧ b < s.heap.size ∧ meth.locks = false ∧ (Jvm.Cond.and given_1 narrow_1).before #[Value.ref b] s = true

theorem cln_RL_8 : Cond.classLink RL 8 RX6 ∈ AW := aw_t 24 (by decide +kernel) (by decide +kernel)
theorem cln_RL_131 : Cond.classLink RL 131 RX7 ∈ AW := aw_t 1021 (by decide +kernel) (by decide +kernel)
theorem cal_RL_130 : calOK RL 130 mX6_init 0 := ⟨rfl, by decide, aw_t 26 (by decide +kernel) (by decide +kernel), aw_t 28 (by decide +kernel) (by decide +kernel), aw_t 1 (by decide +kernel) (by decide +kernel), ⟨by decide, by decide⟩, by decide +kernel⟩
theorem cal_RL_133 : calOK RL 133 mX7_init 0 := ⟨rfl, by decide, aw_t 1023 (by decide +kernel) (by decide +kernel), aw_t 1025 (by decide +kernel) (by decide +kernel), aw_t 8 (by decide +kernel) (by decide +kernel), ⟨by decide, by decide⟩, by decide +kernel⟩
abbrev KCl : Nat := 2620
abbrev KSl : Nat := 20527
def M00 : Mem := ((fun _ _ => 0), (fun _ => 0), (fun _ => 0))
def QLs (g : GG) : QC := fun pc L st N ν M kc ks => pc = 28 ∧ L = [some (.ref g.2.2.2.1), some (.ref (g.1 + 0)), some (.ref (g.1 + 1582)), some (.ref (g.1 + 1592)), some (.ref (g.1 + 1593)), some (.int 0), none, none, none] ∧ st = [] ∧ N = 1594 ∧ (∀ i, i < 1594 → M.1 i = ini i ∧ okI ν i) ∧ kc = 1026 ∧ ks = 6156
set_option maxRecDepth 100000 in
theorem law_start {g : GG} : WPc g 20 mL_law 0 [some (.ref g.2.2.2.1), none, none, none, none, none, none, none, none] [] 0 (fun _ _ => false) M00 KCl KSl (QLs g) := by
  have hS : SG (fun _ => False) 0 0 (fun _ _ => false) M00 (fun _ _ => false) M00 := ⟨fun i _ => ⟨rfl, rfl⟩, fun _ _ => ⟨rfl, rfl⟩, fun _ _ h => by omega, rfl⟩
  refine C_new (pc := 0) (n := 8) clsOK6 rfl cln_RL_8 ins_6 inz_6 (by decide) rfl (fun k => rfl) (fun k => rfl) dfl_6 (by decide) (by decide) d_L_law_0 ?_
  refine C_dup (pc := 3) d_L_law_3 rfl ?_
  refine C_call (pc := 4) (As := []) (rest := [.ref (g.1 + 0)]) (c_X6_init (g := g) (ZF_up hS.1) rfl) rfl cal_RL_130 rfl rfl inm_6 (by decide) (by decide) (by decide) rfl rfl (Nat.le_of_ble_eq_true rfl) d_L_law_4 (fun N9 ν1 M1 h1 => ?_)
  have q9 := h1.1; subst q9
  have hS := SG_sub hS (Nat.le_refl _) h1
  refine C_astore_n (pc := 7) (L' := [some (.ref g.2.2.2.1), some (.ref (g.1 + 0)), none, none, none, none, none, none, none]) d_L_law_7 rfl (by decide) rfl ?_
  refine C_new (pc := 8) (n := 23) clsOK7 rfl cln_RL_131 ins_7 inz_7 (by decide) rfl (fun k => congrFun (hS.1 1582 (Nat.le_refl _)).1 k) (fun k => congrFun (hS.1 1582 (Nat.le_refl _)).2 k) dfl_7 (by decide) (by decide) d_L_law_8 ?_
  refine C_dup (pc := 11) d_L_law_11 rfl ?_
  refine C_call (pc := 12) (As := []) (rest := [.ref (g.1 + 1582)]) (c_X7_init (g := g) (ZF_up hS.1) (hS.1 1582 (Nat.le_refl _)).1) rfl cal_RL_133 rfl rfl inm_7 (by decide) (by decide) (by decide) rfl rfl (Nat.le_of_ble_eq_true rfl) d_L_law_12 (fun N9 ν2 M2 h2 => ?_)
  have q9 := h2.1; subst q9
  have hS := SG_sub hS (by decide) h2
  refine C_astore_n (pc := 15) (L' := [some (.ref g.2.2.2.1), some (.ref (g.1 + 0)), some (.ref (g.1 + 1582)), none, none, none, none, none, none]) d_L_law_15 rfl (by decide) rfl ?_
  refine C_iconst (pc := 16) (v := 1) d_L_law_16 (by decide) ?_
  refine C_newL (pc := 17) (n := 1) (by decide) (by decide) (congrArg (fun x => x.1) hS.2.2.2) (by decide) (by decide) (by decide) (by decide) (by decide) d_L_law_17 ?_
  have hS := SG_arr hS (by decide) (Or.inr ⟨by rfl, by decide, by decide⟩)
  refine C_astore_n (pc := 19) (L' := [some (.ref g.2.2.2.1), some (.ref (g.1 + 0)), some (.ref (g.1 + 1582)), some (.ref (g.1 + 1592)), none, none, none, none, none]) d_L_law_19 rfl (by decide) rfl ?_
  refine C_iconst (pc := 20) (v := 1) d_L_law_20 (by decide) ?_
  refine C_newD (pc := 21) (n := 1) (by decide) (by decide) (congrArg (fun x => x.2) hS.2.2.2) (by decide) (by decide) (by decide) (by decide) (by decide) d_L_law_21 ?_
  have hS := SG_arr hS (by decide) (Or.inr ⟨by rfl, by decide, by decide⟩)
  refine C_astore (pc := 23) (L' := [some (.ref g.2.2.2.1), some (.ref (g.1 + 0)), some (.ref (g.1 + 1582)), some (.ref (g.1 + 1592)), some (.ref (g.1 + 1593)), none, none, none, none]) d_L_law_23 (by decide) rfl ?_
  refine C_iconst (pc := 25) (v := 0) d_L_law_25 (by decide) ?_
  refine C_istore (pc := 26) (L' := [some (.ref g.2.2.2.1), some (.ref (g.1 + 0)), some (.ref (g.1 + 1582)), some (.ref (g.1 + 1592)), some (.ref (g.1 + 1593)), some (.int 0), none, none, none]) d_L_law_26 (by decide) rfl ?_
  exact C_exit ⟨rfl, rfl, rfl, rfl, fun i hi => hS.2.2.1 i (Nat.zero_le _) hi (fun x => x), by decide, by decide⟩

theorem str_w : ∀ q ∈ STRS, Cond.stringRef q.1 q.2.1 q.2.2 ∈ tables_1 := by decide +kernel
theorem str_x : ∀ q ∈ STRS, Cond.exactly (.string q.1 q.2.1) "java/lang/String" ∈ flatC (Jvm.Cond.and given_1 narrow_1) := by decide +kernel
theorem ncs_x : ∀ q ∈ NCS, Cond.not (.castable q.1 q.2) ∈ flatC (Jvm.Cond.and given_1 narrow_1) := by decide +kernel
theorem ist_1 : Cond.isRef (.static Bundle.tN "UNASSIGNED_STACK" Bundle.steD) ∈ flatC (Jvm.Cond.and given_1 narrow_1) := by decide +kernel
theorem ist_2 : Cond.isRef (.static Bundle.tN "SUPPRESSED_SENTINEL" Bundle.listD) ∈ flatC (Jvm.Cond.and given_1 narrow_1) := by decide +kernel
theorem lst_1 : Cond.laysStatic Bundle.tN "UNASSIGNED_STACK" Bundle.steD ∈ tables_1 := by decide +kernel
theorem lst_2 : Cond.laysStatic Bundle.tN "SUPPRESSED_SENTINEL" Bundle.listD ∈ tables_1 := by decide +kernel
theorem ini_t : Cond.initialized Bundle.tN ∈ tables_1 := by decide +kernel
theorem nst_w : nestW ∈ tables_1 := by decide +kernel
theorem ovs_w : Cond.arrayOver (.object "VisitBooking$State") ∈ tables_1 := by decide +kernel
theorem ovi_w : Cond.arrayOver (.array .int) ∈ tables_1 := by decide +kernel
theorem over_int {args : Array Value} {s : State} (h : (Cond.arrayOver (.array .int)).before args s = true) : ∃ (comp c : ClassId) (k : Class), s.vm.findClass "[I" = some comp ∧ s.vm.classes[c]? = some k ∧ k.kind = .array comp (.array .int) ∧ s.vm.findClass "[[I" = some c := by
  unfold Cond.before at h
  simp only [Cond.holds, Cond.value, beq_iff_eq] at h
  rcases hf : s.vm.findClass (FieldType.array .int).toString with _ | comp
  · rw [hf] at h; simp at h
  · rw [hf] at h
    simp only [Option.bind_some, Option.bind_eq_some_iff, Option.map_eq_some_iff] at h
    obtain ⟨c, h1, k, h2, h3⟩ := h
    obtain ⟨h4, h5, -⟩ := Array.findIdx?_eq_some_iff_getElem.mp h1
    have h6 : s.vm.classes[c] = k := (Array.getElem?_eq_some_iff.mp h2).2
    rw [h6] at h5
    rcases hk : k.kind with _ | _ | ⟨cp, ty⟩ | _ <;> rw [hk] at h3 h5 <;> simp at h3 h5
    obtain ⟨h7, h8⟩ := h3
    exact ⟨comp, c, k, hf, h2, by rw [hk, h5, h7], h8⟩
/-- what the Statement gives of a start -/
theorem start_env {p : Program} {s : State} {m : MethodId} {meth : Method} {c : Code} {b L : Nat} {xs : Nat → Int32} (C0 : lw_At p s m meth c b L xs) : ∃ g : GG, g.1 = s.heap.size ∧ g.2.2.2 = (b, L, xs) ∧ Env0 g s ∧ ExC g s ∧ ∀ w ∈ AW, w.before #[Value.ref b] s = true := by
  obtain ⟨hx, hb, hr, hml, hown, hts, hX, hbl, hlocks, hgv⟩ := C0
  have hA : ∀ w ∈ AW, w.before #[Value.ref b] s = true := fun w hw => hts w (aw_tbl hw)
  have hT : ∀ w ∈ tables_1, w.before #[Value.ref b] s = true := fun w hw => hts w (List.mem_append_right _ hw)
  have hN := flat_of_before _ hgv
  obtain ⟨c0, i0, h0⟩ := u_known (C := RX0) (T := TX0) (N := 2) (n := 2) hA inAW0 (hA _ ins_0)
  obtain ⟨c1, i1, h1⟩ := u_known (C := RX1) (T := TX1) (N := 3) (n := 3) hA inAW1 (hA _ ins_1)
  obtain ⟨c2, i2, h2⟩ := u_known (C := RX2) (T := TX2) (N := 7) (n := 7) hA inAW2 (hA _ ins_2)
  obtain ⟨c3, i3, h3⟩ := u_known (C := RX3) (T := TX3) (N := 9) (n := 9) hA inAW3 (hA _ ins_3)
  obtain ⟨c4, i4, h4⟩ := u_known (C := RX4) (T := TX4) (N := 3) (n := 3) hA inAW4 (hA _ ins_4)
  obtain ⟨c5, i5, h5⟩ := u_known (C := RX5) (T := TX5) (N := 4) (n := 4) hA inAW5 (hA _ ins_5)
  obtain ⟨c6, i6, h6⟩ := u_known (C := RX6) (T := TX6) (N := 8) (n := 8) hA inAW6 (hA _ ins_6)
  obtain ⟨c7, i7, h7⟩ := u_known (C := RX7) (T := TX7) (N := 23) (n := 23) hA inAW7 (hA _ ins_7)
  obtain ⟨ac, ack, acp, ac1, ac2, ac3⟩ := Cond.arrayClass_spec (hA _ aw_ac)
  obtain ⟨ai, aik, aip, ai1, ai2, ai3⟩ := Cond.arrayClass_spec (hA _ aw_ai)
  obtain ⟨al, alk, alp, al1, al2, al3⟩ := Cond.arrayClass_spec (hA _ aw_al)
  obtain ⟨ad, adk, adp, ad1, ad2, ad3⟩ := Cond.arrayClass_spec (hA _ aw_ad)
  obtain ⟨oc, as, ask, as1, -, as3, as4, as5⟩ := Cond.arrayOver_spec (hT _ ovs_w)
  obtain ⟨ci, ar, ark, ar1, ar2, ar3, ar4⟩ := over_int (hT _ ovi_w)
  have eci : ci = ai := Option.some.inj (ar1.symm.trans ai1)
  subst eci
  refine ⟨(s.heap.size, ((fun k => if k = 0 then c0 else if k = 1 then c1 else if k = 2 then c2 else if k = 3 then c3 else if k = 4 then c4 else if k = 5 then c5 else if k = 6 then c6 else c7), (fun k => if k = 0 then i0 else if k = 1 then i1 else if k = 2 then i2 else if k = 3 then i3 else if k = 4 then i4 else if k = 5 then i5 else if k = 6 then i6 else i7)), (fun k => if k = 0 then ac else if k = 1 then ci else if k = 2 then as else if k = 3 then ar else if k = 4 then al else ad), (b, L, xs)), rfl, rfl, ⟨Nat.le_refl _, ⟨?_, ?_⟩, ?_, ?_, ?_, ?_, ?_, hX, hbl⟩, ⟨va_AO.of (hT _ ovs_w), ⟨ark, ar2, ar3, ar4⟩⟩, hA⟩
  · intro k q hq
    match k, hq with
    | 0, hq => cases hq; exact h0
    | 1, hq => cases hq; exact h1
    | 2, hq => cases hq; exact h2
    | 3, hq => cases hq; exact h3
    | 4, hq => cases hq; exact h4
    | 5, hq => cases hq; exact h5
    | 6, hq => cases hq; exact h6
    | 7, hq => cases hq; exact h7
    | k + 8, hq => simp [cls] at hq
  · intro k q hq
    match k, hq with
    | 0, hq => cases hq; exact ⟨fun n z => ⟨fun k h => (by cases h), ack, ac2, acp, ac3⟩, ac1⟩
    | 1, hq => cases hq; exact ⟨fun n z => ⟨fun k h => (by cases h), aik, ai2, aip, ai3⟩, ai1⟩
    | 2, hq => cases hq; exact ⟨fun n z => ⟨fun k h => (by cases h), ask, as3, oc, as4⟩, ask, oc, as3, as4, as1, as5⟩
    | 3, hq => cases hq; exact ⟨fun n z => ⟨fun k h => (by cases h), ark, ar2, ci, ar3⟩, ar4⟩
    | 4, hq => cases hq; exact ⟨fun n z => ⟨fun k h => (by cases h), alk, al2, alp, al3⟩, al1⟩
    | 5, hq => cases hq; exact ⟨fun n z => ⟨fun k h => (by cases h), adk, ad2, adp, ad3⟩, ad1⟩
    | k + 6, hq => simp [tysG] at hq
  · exact vx_Zqof (hT _ lst_1) (hT _ ini_t) (hN _ ist_1) (fun a ha => Nat.not_le.mpr ha)
  · exact vx_Zqof (hT _ lst_2) (hT _ ini_t) (hN _ ist_2) (fun a ha => Nat.not_le.mpr ha)
  · intro q hq
    obtain ⟨a, cc, cA, kA, q1, -⟩ := Cond.exactly_spec (args := #[Value.ref b]) (first := s) (o := none) (s := s) (idx := []) (t := .string q.1 q.2.1) (cls := "java/lang/String") (hN _ (str_x q hq))
    exact ⟨a, vk_R.of (hT _ (str_w q hq)) q1⟩
  · intro q hq
    exact va_Nc.of (hN _ (ncs_x q hq))
  · exact va_Nw.of rfl (hT _ nst_w)

