/-! ===== CONSTRUCTORS: N objects are made so far; ν: which places of references are filled ===== -/
abbrev NU : Type := Nat → Nat → Bool
def flC (g : GG) (ν : NU) (M : Mem) (i c : Nat) : List Value := (List.range (nfC c)).map fun k => if isI c k = true then .int (M.1 i k) else if ν i k = true then .ref (g.1 + rf i k) else .null
def cellC (g : GG) (ν : NU) (M : Mem) (i : Nat) : va_E := if kd i < 8 then .inr (kd i, flC g ν M i (kd i)) else if kd i = 10 then .inl (g.2.2.1 2, ln i, .inr (.inr (.inr (.inr (fun j => if ν i j = true ∨ ln i ≤ j then some (g.1 + rf i j) else none))))) else cellOf g M i
def plG (f : Nat → va_E) (N : Nat) (g : GG) : va_W := va_pl (adsN N g) (fun a => f (a - g.1))
def RepC (g : GG) (N : Nat) (ν : NU) (M : Mem) (H : Heap) : Prop := va_P g.2.1 cls (plG (cellC g ν M) N g) H ∧ H.size = g.1 + N
theorem plG_D (f : Nat → va_E) (N : Nat) (g : GG) : va_D (AG g) (plG f N g) := by
  refine ⟨fun i j p q hi hj he => ?_, fun k q hk => ?_⟩
  · unfold plG va_pl adsN at hi hj
    rw [List.getElem?_map, List.getElem?_map] at hi hj
    by_cases h1 : i < N
    · by_cases h2 : j < N
      · rw [List.getElem?_range h1] at hi
        rw [List.getElem?_range h2] at hj
        simp only [Option.map_some, Option.some.injEq] at hi hj
        rw [← hi, ← hj] at he
        simp only at he
        omega
      · rw [List.getElem?_eq_none (by simpa using h2)] at hj; simp at hj
    · rw [List.getElem?_eq_none (by simpa using h1)] at hi; simp at hi
  · obtain ⟨a, ha, hq⟩ := List.mem_map.mp (List.mem_of_getElem? hk)
    obtain ⟨i, -, he⟩ := ads_of ha
    rw [← hq]
    show g.1 ≤ a
    omega
theorem plG_at (f : Nat → va_E) (N : Nat) (g : GG) {i : Nat} (h : i < N) : ∃ k : Nat, (plG f N g)[k]? = some (g.1 + i, f i) := by
  obtain ⟨k, hk⟩ := va_pl_get (X := []) (L := adsN N g) (f := fun a => f (a - g.1)) (ads_mem (g := g) h)
  refine ⟨k, ?_⟩
  rw [List.nil_append] at hk
  unfold plG
  rw [hk]
  show some (g.1 + i, f (g.1 + i - g.1)) = _
  rw [Nat.add_sub_cancel_left]
theorem plG_congr {f f' : Nat → va_E} {N : Nat} {g : GG} (h : ∀ i, i < N → f' i = f i) : plG f' N g = plG f N g := by
  unfold plG va_pl
  apply List.map_congr_left
  intro a ha
  obtain ⟨j, hj, rfl⟩ := ads_of ha
  show (g.1 + j, f' (g.1 + j - g.1)) = (g.1 + j, f (g.1 + j - g.1))
  rw [Nat.add_sub_cancel_left, h j hj]
theorem plG_set {f f' : Nat → va_E} {N : Nat} {g : GG} {i k : Nat} {e : va_E} (h : i < N) (hk : (plG f N g)[k]? = some (g.1 + i, f i)) (he : f' i = e) (ho : ∀ j, j ≠ i → f' j = f j) : (plG f N g).set k (g.1 + i, e) = plG f' N g := by
  have hk' : ([] ++ va_pl (adsN N g) (fun a => f (a - g.1)))[k]? = some (g.1 + i, (fun a => f (a - g.1)) (g.1 + i)) := by
    rw [List.nil_append]
    unfold plG at hk
    rw [hk]
    show some (g.1 + i, f i) = some (g.1 + i, f (g.1 + i - g.1))
    rw [Nat.add_sub_cancel_left]
  have hD := plG_D f N g
  unfold plG at hD
  have h1 := va_pl_set (X := []) (L := adsN N g) (f := fun a => f (a - g.1)) (e := e) (by rw [List.nil_append]; exact hD) (ads_mem (g := g) h) hk'
  rw [List.nil_append, List.nil_append] at h1
  unfold plG
  rw [h1]
  unfold va_pl
  apply List.map_congr_left
  intro a ha
  obtain ⟨j, -, rfl⟩ := ads_of ha
  by_cases hj : j = i
  · subst hj
    show (g.1 + j, va_up _ _ e (g.1 + j)) = (g.1 + j, f' (g.1 + j - g.1))
    rw [va_up_self, Nat.add_sub_cancel_left, he]
  · show (g.1 + j, va_up (fun a => f (a - g.1)) _ e (g.1 + j)) = (g.1 + j, f' (g.1 + j - g.1))
    rw [va_up_ne _ _ (by omega), Nat.add_sub_cancel_left, ho j hj]
theorem plG_push (f : Nat → va_E) (N : Nat) (g : GG) : plG f (N + 1) g = plG f N g ++ [(g.1 + N, f N)] := by
  unfold plG va_pl adsN
  rw [List.range_succ, List.map_append, List.map_append]
  show _ ++ [(g.1 + N, f (g.1 + N - g.1))] = _
  rw [Nat.add_sub_cancel_left]
/-- one more object -/
theorem plG_P {g : GG} {f : Nat → va_E} {N : Nat} {H H1 : Heap} (hP : va_P g.2.1 cls (plG f N g) H) (hz : H.size = g.1 + N) (o1 : ∀ q, q < H.size → H1[q]? = H[q]?) (e1 : va_at g.2.1 cls (g.1 + N, f N) H1) : va_P g.2.1 cls (plG f (N + 1) g) H1 := by
  rw [plG_push]
  refine (hP.kept (fun k x hx => o1 x.1 ((hP k x hx).lt))).app (fun k x hx => ?_)
  have hz : k < 1 := (List.getElem?_eq_some_iff.mp hx).1
  rw [show k = 0 by omega] at hx
  cases hx
  exact e1
def nuset (ν : NU) (i k : Nat) : NU := fun a j => ν a j || (a == i && j == k)
theorem nuset_ne {ν : NU} {i k a : Nat} (h : a ≠ i) : nuset ν i k a = ν a := by
  funext j; unfold nuset; simp [h]
theorem flC_len (g : GG) (ν : NU) (M : Mem) (i c : Nat) : (flC g ν M i c).length = nfC c := by simp [flC]
theorem flC_at (g : GG) (ν : NU) (M : Mem) (i c k : Nat) (h : k < nfC c) : (flC g ν M i c)[k]? = some (if isI c k = true then .int (M.1 i k) else if ν i k = true then .ref (g.1 + rf i k) else .null) := by
  unfold flC
  rw [List.getElem?_map, List.getElem?_range h]
  rfl
theorem flC_set (g : GG) (ν : NU) (M : Mem) (i c k : Nat) (v : Int32) (hi : isI c k = true) : (flC g ν M i c).set k (.int v) = flC g ν (mset M i k v) i c := by
  apply List.ext_getElem?
  intro j
  by_cases hj : j < nfC c
  · rw [List.getElem?_set, flC_at g ν _ i c j hj, flC_at g ν _ i c j hj, mset_at, flC_len]
    by_cases e : k = j
    · subst e
      rw [if_pos rfl, if_pos hj, if_pos hi, pk_us]
    · rw [if_neg e, pk_un (fun q => e q.symm)]
  · rw [List.getElem?_eq_none (by rw [List.length_set, flC_len]; omega), List.getElem?_eq_none (by rw [flC_len]; omega)]
theorem flC_setR (g : GG) (ν : NU) (M : Mem) (i c k : Nat) (hi : isI c k = false) : (flC g ν M i c).set k (.ref (g.1 + rf i k)) = flC g (nuset ν i k) M i c := by
  apply List.ext_getElem?
  intro j
  by_cases hj : j < nfC c
  · rw [List.getElem?_set, flC_at g ν _ i c j hj, flC_at g _ _ i c j hj, flC_len]
    by_cases e : k = j
    · subst e
      rw [if_pos rfl, if_pos hj, if_neg (by rw [hi]; decide), if_pos (by simp [nuset])]
    · have : nuset ν i k i j = ν i j := by
        have e2 : ¬ j = k := fun q => e q.symm
        simp [nuset, e2]
      rw [if_neg e, this]
  · rw [List.getElem?_eq_none (by rw [List.length_set, flC_len]; omega), List.getElem?_eq_none (by rw [flC_len]; omega)]
theorem cellC_o (g : GG) (ν : NU) (M : Mem) {i c : Nat} (h : kd i = c) (hc : c < 8) : cellC g ν M i = .inr (c, flC g ν M i c) := by unfold cellC; rw [if_pos (by omega), h]
theorem cellC_10 (g : GG) (ν : NU) (M : Mem) {i : Nat} (h : kd i = 10) : cellC g ν M i = .inl (g.2.2.1 2, ln i, .inr (.inr (.inr (.inr (fun j => if ν i j = true ∨ ln i ≤ j then some (g.1 + rf i j) else none))))) := by unfold cellC; rw [if_neg (by omega), if_pos h]
theorem cellC_n (g : GG) (ν : NU) (M : Mem) {i : Nat} (h : 8 ≤ kd i) (h2 : kd i ≠ 10) : cellC g ν M i = cellOf g M i := by unfold cellC; rw [if_neg (by omega), if_neg h2]
theorem cellC_ne (g : GG) {ν ν' : NU} {M M' : Mem} {i : Nat} (h : M'.1 i = M.1 i) (h2 : M'.2 = M.2) (h3 : ν' i = ν i) : cellC g ν' M' i = cellC g ν M i := by
  unfold cellC flC
  rw [h, h3, cell_ne g h h2]
/-- the same world by other words -/
theorem RepC.to {g : GG} {N : Nat} {ν ν' : NU} {M M' : Mem} {H : Heap} (h : RepC g N ν M H) (hM : ∀ i, i < N → M'.1 i = M.1 i) (h2 : M'.2 = M.2) (hν : ∀ i k, i < N → ((kd i = 10 ∧ k < ln i) ∨ (kd i < 8 ∧ isI (kd i) k = false ∧ k < nfC (kd i))) → ν' i k = ν i k) : RepC g N ν' M' H := by
  refine ⟨?_, h.2⟩
  have e : plG (cellC g ν' M') N g = plG (cellC g ν M) N g := plG_congr (fun i hi => by
    unfold cellC
    by_cases c : kd i < 8
    · rw [if_pos c, if_pos c]
      congr 2
      unfold flC
      apply List.map_congr_left
      intro k hk
      rw [hM i hi]
      by_cases q : isI (kd i) k = true
      · rw [if_pos q, if_pos q]
      · rw [if_neg q, if_neg q, hν i k hi (Or.inr ⟨c, by simpa using q, List.mem_range.mp hk⟩)]
    · rw [if_neg c, if_neg c]
      by_cases c2 : kd i = 10
      · rw [if_pos c2, if_pos c2]
        congr 7
        funext j
        by_cases q : j < ln i
        · rw [hν i j hi (Or.inl ⟨c2, q⟩)]
        · rw [if_pos (Or.inr (by omega)), if_pos (Or.inr (by omega))]
      · rw [if_neg c2, if_neg c2, cell_ne g (hM i hi) h2])
  rw [e]; exact h.1
theorem RepC.done {g : GG} {ν : NU} {M : Mem} {H : Heap} (h : RepC g 1594 ν M H) (hν : ∀ i k, i < 1594 → ((kd i = 10 ∧ k < ln i) ∨ (kd i < 8 ∧ isI (kd i) k = false ∧ k < nfC (kd i))) → ν i k = true) : Rep g M H := by
  have e : plG (cellC g ν M) 1594 g = plM g M := plG_congr (fun i hi => by
    unfold cellC
    by_cases c : kd i < 8
    · rw [if_pos c, cell_o g M rfl c]
      congr 2
      unfold flC fl
      apply List.map_congr_left
      intro k hk
      by_cases q : isI (kd i) k = true
      · rw [if_pos q, if_pos q]
      · rw [if_neg q, if_neg q, if_pos (hν i k hi (Or.inr ⟨c, by simpa using q, List.mem_range.mp hk⟩))]
    · rw [if_neg c]
      by_cases c2 : kd i = 10
      · rw [if_pos c2, cell_10 g M c2]
        congr 7
        funext j
        by_cases q : j < ln i
        · rw [if_pos (Or.inl (hν i j hi (Or.inl ⟨c2, q⟩)))]
        · rw [if_pos (Or.inr (by omega))]
      · rw [if_neg c2])
  show va_P g.2.1 cls (plM g M) H
  rw [← e]; exact h.1
/-- what is known besides of the classes of rows -/
def MI (g : GG) (U : State) : Prop := ∃ kA : Class, U.vm.classes[g.2.2.1 3]? = some kA ∧ kA.kind = .array (g.2.2.1 1) (.array .int) ∧ U.vm.findClass "[[I" = some (g.2.2.1 3)
theorem MI.moved {g : GG} {u U : State} (hvm : u.vm.Alike U.vm) (h : MI g u) : MI g U := by
  obtain ⟨kA, h1, h2, h3⟩ := h
  obtain ⟨k', hk', he⟩ := hvm.2.2 _ _ h1
  exact ⟨k', hk', by rw [he]; exact h2, by rw [hvm.findClass]; exact h3⟩
def ExC (g : GG) (U : State) : Prop := va_AO "VisitBooking$State" U ∧ MI g U
theorem ExC.moved {g : GG} {u U : State} (hvm : u.vm.Alike U.vm) (h : ExC g u) : ExC g U := ⟨h.1.moved hvm, h.2.moved hvm⟩
abbrev QC : Type := Nat → List (Option Value) → List Value → Nat → NU → Mem → Nat → Nat → Prop
def Sc (g : GG) (d : Nat) (y : Mth) (L : List (Option Value)) (N : Nat) (ν : NU) (M : Mem) (kc ks : Nat) (Q : QC) (p : Program) (l : Launch) (e : Env) (R : Room) (s : State) (m : MethodId) (args : Array Value) (below : List Frame) (meth : Method) (c : Code) (Z : State → Prop) (H : Heap) (locs : List Loc) (ls : Array Slot) (cells slots mc ms : Nat) : Prop :=
  Cx g d y p l R s m args meth c ∧ RepC g N ν M H ∧ va_S (AG g) s.heap H locs ∧ LH ls y.2.2.1 L ∧ (cells + kc ≤ mc ∧ slots + ks ≤ ms ∧ mc ≤ R.cells ∧ ms ≤ R.slots) ∧ meth.name = y.1.name ∧ ExC g s ∧
  (∀ (pc' : Nat) (L' : List (Option Value)) (st' : List Value) (N' : Nat) (ν' : NU) (M' : Mem) (kc' ks' : Nat) (H' : Heap) (locs' : List Loc) (ls' : Array Slot) (cells' slots' : Nat), Q pc' L' st' N' ν' M' kc' ks' → RepC g N' ν' M' H' → va_S (AG g) s.heap H' locs' → LH ls' y.2.2.1 L' → cells' + kc' ≤ mc → slots' + ks' ≤ ms → W p l e R s m args below meth c H' locs' cells' slots' Z (F0 m pc' ls' st'))
def WPc (g : GG) (d : Nat) (y : Mth) (pc : Nat) (L : List (Option Value)) (st : List Value) (N : Nat) (ν : NU) (M : Mem) (kc ks : Nat) (Q : QC) : Prop :=
  ∀ (p : Program) (l : Launch) (e : Env) (R : Room) (s : State) (m : MethodId) (args : Array Value) (below : List Frame) (meth : Method) (c : Code) (Z : State → Prop) (H : Heap) (locs : List Loc) (ls : Array Slot) (cells slots mc ms : Nat),
    Sc g d y L N ν M kc ks Q p l e R s m args below meth c Z H locs ls cells slots mc ms → W p l e R s m args below meth c H locs cells slots Z (F0 m pc ls st)
theorem arrV_cg {cI : ClassId} {n : Nat} {f f' : Nat → Value} (h : ∀ j, j < n → f j = f' j) : arrV cI n f = arrV cI n f' := by
  unfold arrV
  congr 2
  funext j
  exact h j.val j.isLt
section RowsC
variable {g : GG} {d : Nat} {y : Mth} {pc : Nat} {L L' : List (Option Value)} {st : List Value} {N : Nat} {ν : NU} {M : Mem} {kc ks : Nat} {Q : QC}
theorem C_exit (h : Q pc L st N ν M kc ks) : WPc g d y pc L st N ν M kc ks Q := fun p l e R s m args below meth c Z H locs ls cells slots mc ms S => S.2.2.2.2.2.2.2 pc L st N ν M kc ks H locs ls cells slots h S.2.1 S.2.2.1 S.2.2.2.1 S.2.2.2.2.1.1 S.2.2.2.2.1.2.1
/-- the same world by other words -/
theorem C_to {ν' : NU} {M' : Mem} (hM : ∀ i, i < N → M'.1 i = M.1 i) (h2 : M'.2 = M.2) (hν : ∀ i k, i < N → ((kd i = 10 ∧ k < ln i) ∨ (kd i < 8 ∧ isI (kd i) k = false ∧ k < nfC (kd i))) → ν' i k = ν i k) (k : WPc g d y pc L st N ν' M' kc ks Q) : WPc g d y pc L st N ν M kc ks Q := fun p l e R s m args below meth c Z H locs ls cells slots mc ms S => k p l e R s m args below meth c Z H locs ls cells slots mc ms ⟨S.1, S.2.1.to hM h2 hν, S.2.2⟩

theorem C_iconst {n : Int} {v : Int32} (hd : decode y.2.1 pc = .ok (.iconst n, 1)) (hv : Int32.ofInt n = v) (k : WPc g d y (pc + 1) L (.int v :: st) N ν M kc ks Q) : WPc g d y pc L (st) N ν M kc ks Q := fun p l e R s m args below meth c Z H locs ls cells slots mc ms S => lv_iconst S.1.1 S.1.2.1 hd hv (k p l e R s m args below meth c Z H locs ls cells slots mc ms S)
theorem C_bipush {n : Int} {v : Int32} (hd : decode y.2.1 pc = .ok (.bipush n, 2)) (hv : (Int8.ofInt n).toInt32 = v) (k : WPc g d y (pc + 2) L (.int v :: st) N ν M kc ks Q) : WPc g d y pc L (st) N ν M kc ks Q := fun p l e R s m args below meth c Z H locs ls cells slots mc ms S => lv_bipush S.1.1 S.1.2.1 hd hv (k p l e R s m args below meth c Z H locs ls cells slots mc ms S)
theorem C_sipush {n : Int} {v : Int32} (hd : decode y.2.1 pc = .ok (.sipush n, 3)) (hv : (Int16.ofInt n).toInt32 = v) (k : WPc g d y (pc + 3) L (.int v :: st) N ν M kc ks Q) : WPc g d y pc L (st) N ν M kc ks Q := fun p l e R s m args below meth c Z H locs ls cells slots mc ms S => lv_sipush S.1.1 S.1.2.1 hd hv (k p l e R s m args below meth c Z H locs ls cells slots mc ms S)
theorem C_iadd {x y1 : Int32} (hd : decode y.2.1 pc = .ok (.iadd, 1)) (k : WPc g d y (pc + 1) L (.int (x + y1) :: st) N ν M kc ks Q) : WPc g d y pc L (.int y1 :: .int x :: st) N ν M kc ks Q := fun p l e R s m args below meth c Z H locs ls cells slots mc ms S => lv_iadd S.1.1 S.1.2.1 hd (k p l e R s m args below meth c Z H locs ls cells slots mc ms S)
theorem C_dup {v : Value} (hd : decode y.2.1 pc = .ok (.dup, 1)) (hv : v.category = 1) (k : WPc g d y (pc + 1) L (v :: v :: st) N ν M kc ks Q) : WPc g d y pc L (v :: st) N ν M kc ks Q := fun p l e R s m args below meth c Z H locs ls cells slots mc ms S => lv_dup S.1.1 S.1.2.1 hd hv (k p l e R s m args below meth c Z H locs ls cells slots mc ms S)
theorem C_iload_n {k4 : Fin 4} {i : Nat} {x : Int32} (hd : decode y.2.1 pc = .ok (.iload_n k4, 1)) (hi : (k4 : Nat) = i) (hl : L[i]? = some (some (.int x))) (k : WPc g d y (pc + 1) L (.int x :: st) N ν M kc ks Q) : WPc g d y pc L st N ν M kc ks Q := fun p l e R s m args below meth c Z H locs ls cells slots mc ms S => lv_iload_n S.1.1 S.1.2.1 hd hi (S.2.2.2.1.2.2 i _ hl) (k p l e R s m args below meth c Z H locs ls cells slots mc ms S)
theorem C_aload_n {k4 : Fin 4} {i : Nat} {x : Nat} (hd : decode y.2.1 pc = .ok (.aload_n k4, 1)) (hi : (k4 : Nat) = i) (hl : L[i]? = some (some (.ref x))) (k : WPc g d y (pc + 1) L (.ref x :: st) N ν M kc ks Q) : WPc g d y pc L st N ν M kc ks Q := fun p l e R s m args below meth c Z H locs ls cells slots mc ms S => lv_aload_n S.1.1 S.1.2.1 hd hi (S.2.2.2.1.2.2 i _ hl) (k p l e R s m args below meth c Z H locs ls cells slots mc ms S)
theorem C_istore_n {k4 : Fin 4} {i : Nat} {x : Int32} (hd : decode y.2.1 pc = .ok (.istore_n k4, 1)) (hi : (k4 : Nat) = i) (hn : i < y.2.2.1) (hl : set1 L i (.int x) = L') (k : WPc g d y (pc + 1) L' st N ν M kc ks Q) : WPc g d y pc L (.int x :: st) N ν M kc ks Q := fun p l e R s m args below meth c Z H locs ls cells slots mc ms S => lv_istore_n S.1.1 S.1.2.1 hd hi S.2.2.2.1.has hn rfl (fun ls' h => k p l e R s m args below meth c Z H locs ls' cells slots mc ms ⟨S.1, S.2.1, S.2.2.1, hl ▸ set1_LH h, S.2.2.2.2⟩)
theorem C_istore {i : Nat} {x : Int32} (hd : decode y.2.1 pc = .ok (.istore i, 2)) (hn : i < y.2.2.1) (hl : set1 L i (.int x) = L') (k : WPc g d y (pc + 2) L' st N ν M kc ks Q) : WPc g d y pc L (.int x :: st) N ν M kc ks Q := fun p l e R s m args below meth c Z H locs ls cells slots mc ms S => lv_istore S.1.1 S.1.2.1 hd S.2.2.2.1.has hn rfl (fun ls' h => k p l e R s m args below meth c Z H locs ls' cells slots mc ms ⟨S.1, S.2.1, S.2.2.1, hl ▸ set1_LH h, S.2.2.2.2⟩)
theorem C_astore_n {k4 : Fin 4} {i : Nat} {x : Nat} (hd : decode y.2.1 pc = .ok (.astore_n k4, 1)) (hi : (k4 : Nat) = i) (hn : i < y.2.2.1) (hl : set1 L i (.ref x) = L') (k : WPc g d y (pc + 1) L' st N ν M kc ks Q) : WPc g d y pc L (.ref x :: st) N ν M kc ks Q := fun p l e R s m args below meth c Z H locs ls cells slots mc ms S => lv_astore_n S.1.1 S.1.2.1 hd hi S.2.2.2.1.has hn rfl (fun ls' h => k p l e R s m args below meth c Z H locs ls' cells slots mc ms ⟨S.1, S.2.1, S.2.2.1, hl ▸ set1_LH h, S.2.2.2.2⟩)
theorem C_astore {i : Nat} {x : Nat} (hd : decode y.2.1 pc = .ok (.astore i, 2)) (hn : i < y.2.2.1) (hl : set1 L i (.ref x) = L') (k : WPc g d y (pc + 2) L' st N ν M kc ks Q) : WPc g d y pc L (.ref x :: st) N ν M kc ks Q := fun p l e R s m args below meth c Z H locs ls cells slots mc ms S => lv_astore S.1.1 S.1.2.1 hd S.2.2.2.1.has hn rfl (fun ls' h => k p l e R s m args below meth c Z H locs ls' cells slots mc ms ⟨S.1, S.2.1, S.2.2.1, hl ▸ set1_LH h, S.2.2.2.2⟩)
theorem C_iinc {i : Nat} {n : Int} {x v : Int32} (hd : decode y.2.1 pc = .ok (.iinc i n, 3)) (hi : L[i]? = some (some (.int x))) (hv : x + Int32.ofInt n = v) (hn : i < y.2.2.1) (hl : set1 L i (.int v) = L') (k : WPc g d y (pc + 3) L' st N ν M kc ks Q) : WPc g d y pc L st N ν M kc ks Q := fun p l e R s m args below meth c Z H locs ls cells slots mc ms S => by
  obtain ⟨j, hj⟩ := List.getElem?_of_mem (asc_mem.mpr hi)
  exact lv_iinc S.1.1 S.1.2.1 hd S.2.2.2.1.has hj hv hn rfl (fun ls' h => k p l e R s m args below meth c Z H locs ls' cells slots mc ms ⟨S.1, S.2.1, S.2.2.1, hl ▸ set1_LH h, S.2.2.2.2⟩)
theorem C_goto {off : Int} {tgt : Nat} (hd : decode y.2.1 pc = .ok (.goto off, 3)) (ht : (pc : Int) + off = (tgt : Int)) (k : WPc g d y tgt L st N ν M kc ks Q) : WPc g d y pc L st N ν M kc ks Q := fun p l e R s m args below meth c Z H locs ls cells slots mc ms S => lv_goto S.1.1 S.1.2.1 hd ht (k p l e R s m args below meth c Z H locs ls cells slots mc ms S)
theorem C_icmp_ge {x y1 : Int32} {off : Int} {tgt : Nat} (hd : decode y.2.1 pc = .ok (.if_icmp .ge off, 3)) (ht : (pc : Int) + off = (tgt : Int)) (kt : y1 ≤ x → WPc g d y tgt L st N ν M kc ks Q) (kf : ¬ y1 ≤ x → WPc g d y (pc + 3) L st N ν M kc ks Q) : WPc g d y pc L (.int y1 :: .int x :: st) N ν M kc ks Q := fun p l e R s m args below meth c Z H locs ls cells slots mc ms S => lv_icmp_ge S.1.1 S.1.2.1 hd ht (fun h => kt h p l e R s m args below meth c Z H locs ls cells slots mc ms S) (fun h => kf h p l e R s m args below meth c Z H locs ls cells slots mc ms S)
theorem C_sub {L' : List (Option Value)} {kc' ks' : Nat} (k : WPc g d y pc L' st N ν M kc' ks' Q) (hk : kc' ≤ kc) (hk2 : ks' ≤ ks) (hs : lsub L' L) : WPc g d y pc L st N ν M kc ks Q := by
  intro p l e R s m args below meth c Z H locs ls cells slots mc ms S
  obtain ⟨hC, hP, hS, hL, hB, hn, hR⟩ := S
  exact k p l e R s m args below meth c Z H locs ls cells slots mc ms ⟨hC, hP, hS, ⟨hL.1, hL.2.1, fun i v h => hL.2.2 i v (lsub_at _ _ hs i v h)⟩, ⟨by omega, by omega, hB.2.2.1, hB.2.2.2⟩, hn, hR⟩
theorem aw_oi : Cond.instanceMethod objectInit ∈ AW := aw_t 30 (by decide +kernel) (by decide +kernel)
theorem aw_oc : Cond.code objectInit ⟨#[0xb1]⟩ 1 none ∈ AW := aw_t 31 (by decide +kernel) (by decide +kernel)
theorem C_objInit {own : String} {idx : Nat} {i : Nat} (hy : y.1.cls = own) (hlink : Cond.methodLink own idx objectInit ∈ AW) (hst : (st.map fun v => v.category).sum ≤ 8) (hdd : 1 ≤ d) (hd : decode y.2.1 pc = .ok (.invokespecial idx, 3)) (k : WPc g d y (pc + 3) L st N ν M kc ks Q) : WPc g d y pc L (.ref i :: st) N ν M kc ks Q := fun p l e R s m args below meth c Z H locs ls cells slots mc ms S => by
  have hfr := S.1.2.2.2.2.2.2.2.2.2.2
  exact W.objInit S.1.1 S.1.2.1 (hy ▸ S.1.2.2.2.2.1) (S.1.2.2.2.2.2.1 _ hlink) (S.1.2.2.2.2.2.1 _ aw_oi) (S.1.2.2.2.2.2.1 _ aw_oc) rfl (S.2.2.2.1.1.trans S.1.2.2.2.1.symm) rfl hd (by omega) (by show 2 * 0 + (st.map fun v => v.category).sum + 12 ≤ R.locals; omega) (k p l e R s m args below meth c Z H locs ls cells slots mc ms S)
theorem C_getR {own : String} {idx c k i : Nat} {C : String} {T : u_T} {ty : Nat → FieldType} (hf : fldOK own idx c k C T ty) (hy : y.1.cls = own) (hI : isI c k = false) (hk : kd i = c) (hi : i < N) (hν : ν i k = true) (hd : decode y.2.1 pc = .ok (.getfield idx, 3)) (kk : WPc g d y (pc + 3) L (.ref (g.1 + rf i k) :: st) N ν M kc ks Q) : WPc g d y pc L (.ref (g.1 + i) :: st) N ν M kc ks Q := fun p l e R s m args below meth c0 Z H locs ls cells slots mc ms S => by
  obtain ⟨⟨h1, h2, h3, h4, h5⟩, h6, h7⟩ := hf
  obtain ⟨q0, hq⟩ := plG_at (cellC g ν M) N g hi
  rw [cellC_o g ν M hk h1] at hq
  exact va_get (D := g.2.1) (v := .ref (g.1 + rf i k)) S.1.1 S.1.2.1 S.1.2.2.2.2.2.1 h3 (hy ▸ S.1.2.2.2.2.1) S.1.2.2.2.2.2.2.2.2.2.1.2.1 S.2.1.1 q0 hq h2 k h6 (S.1.2.2.2.2.2.1 _ h7) (fun _ h9 => h9) ((flC_at g ν M i c k h6).trans (by rw [if_neg (by rw [hI]; decide), if_pos hν])) hd (kk p l e R s m args below meth c0 Z H locs ls cells slots mc ms S)
/-- a field of an object under construction is written: v at its place k -/
theorem C_put0 {own : String} {idx c k i : Nat} {C : String} {T : u_T} {ty : Nat → FieldType} {v : Value} {ν' : NU} {M' : Mem} (hf : fldOK own idx c k C T ty) (hy : y.1.cls = own) (hfin : (T k).2.2.2 = false ∨ (y.1.name = "<init>" ∧ (T k).1 = own)) (hk : kd i = c) (hi : i < N) (hn : narrow (ty k) v = v) (hfit : fits (ty k) v = true) (hfl : (flC g ν M i c).set k v = flC g ν' M' i c) (hM : ∀ j, j ≠ i → M'.1 j = M.1 j) (hM2 : M'.2 = M.2) (hν : ∀ j, j ≠ i → ν' j = ν j) (hd : decode y.2.1 pc = .ok (.putfield idx, 3)) (kk : WPc g d y (pc + 3) L st N ν' M' kc ks Q) : WPc g d y pc L (v :: .ref (g.1 + i) :: st) N ν M kc ks Q := fun p l e R s m args below meth c0 Z H locs ls cells slots mc ms S => by
  obtain ⟨⟨h1, h2, h3, h4, h5⟩, h6, h7⟩ := hf
  obtain ⟨q0, hq⟩ := plG_at (cellC g ν M) N g hi
  have hq2 := hq
  rw [cellC_o g ν M hk h1] at hq
  have hts := S.1.2.2.2.2.2.1
  have hK := S.1.2.2.2.2.2.2.2.2.2.1.2.1
  have hown : s.vm.findClass own = some m.cls := hy ▸ S.1.2.2.2.2.1
  have hP := S.2.1.1
  have hap := va_apart (own := own) hts h3 ty h4 h5 hK h2
  obtain ⟨r, g1, cell, g2, g3, g4, g5⟩ := hP q0 _ hq
  have hr : r = (C, T, nfC c) := Option.some.inj (g1.symm.trans h2)
  subst hr
  obtain ⟨hSl, hfc, kC, hkC, hkind⟩ := hK.1 c _ h2
  obtain ⟨cf, kf, fi, f, hif, hsl⟩ := hSl k h6
  have hlay := hts _ (h3 _ (u_in_lay h6))
  have hst := (u_facts hfc hkC (u_lays hts h3 h6) hif).1
  have fin : ∀ H1 : Heap, H1[g.1 + i]? = some (cell.setSlot f.slot v) → H1.size = H.size → (∀ q : Nat, q ≠ g.1 + i → H1[q]? = H[q]?) → W p l e R s m args below meth c0 H1 (locs ++ [⟨g.1 + i, f.slot⟩]) cells slots Z (F0 m (pc + 3) ls st) := by
    intro H1 e1 e2 e3
    rw [hsl] at e1
    have w1 := hP.set (plG_D _ N g) hq (e := .inr (c, (flC g ν M i c).set k v)) ⟨_, h2, t_OB.to (V := updV (vp_V (flC g ν M i c)) k v) ⟨_, e1, g3, g4, t_set g5 hap h6 v⟩ (fun j _ => vp_updV_set (by rw [flC_len]; exact h6) v j)⟩ e3
    rw [hfl, plG_set (f' := cellC g ν' M') hi hq2 (cellC_o g _ _ hk h1) (fun j hj => cellC_ne g (hM j hj) hM2 (hν j hj))] at w1
    exact kk p l e R s m args below meth c0 Z H1 _ ls cells slots mc ms ⟨S.1, ⟨w1, e2.trans S.2.1.2⟩, S.2.2.1.put e2 e3 (Nat.le_add_right _ _), S.2.2.2⟩
  unfold u_lay at hlay
  rcases hfin with hfin | ⟨hin, hdecl⟩
  · rw [if_neg (by rw [hfin]; decide)] at hlay
    have w6 := u_store hfc hkC hkind hlay hif (h4 k h6) hn hfit
    exact W.putK S.1.1 S.1.2.1 (f := f) ⟨hown, hts _ h7, ⟨_, _, _, hif⟩, hst⟩ (by rw [g3]; exact w6) g2 g4 (by rw [hsl]; exact k2_hasslot (g5 k h6)) rfl rfl hd fin
  · by_cases hff : (T k).2.2.2 = true
    · rw [if_pos hff] at hlay
      have hcf : m.cls = cf := by
        obtain ⟨_, _, c', _, _, _, -, -, hf', -, -, -, hown2, -⟩ := Cond.laysFinal_spec hlay
        have e1 : c' = cf := by have := hif.symm.trans hf'; simp at this; exact this.1.symm
        rw [hdecl] at hown2
        rw [← e1]; exact Option.some.inj (hown.symm.trans hown2)
      have w6 := u_fits hfc hkC hkind (Or.inr hlay) hif (h4 k h6) hn hfit
      exact W.putFinK S.1.1 S.1.2.1 hown (hts _ h7) hif hst hcf (S.2.2.2.2.2.1.trans hin) (by rw [g3]; exact w6) g2 g4 (by rw [hsl]; exact k2_hasslot (g5 k h6)) rfl rfl hd fin
    · rw [if_neg hff] at hlay
      have w6 := u_store hfc hkC hkind hlay hif (h4 k h6) hn hfit
      exact W.putK S.1.1 S.1.2.1 (f := f) ⟨hown, hts _ h7, ⟨_, _, _, hif⟩, hst⟩ (by rw [g3]; exact w6) g2 g4 (by rw [hsl]; exact k2_hasslot (g5 k h6)) rfl rfl hd fin
theorem C_putI {own : String} {idx c k i : Nat} {C : String} {T : u_T} {ty : Nat → FieldType} {v : Int32} (hf : fldOK own idx c k C T ty) (hy : y.1.cls = own) (hI : isI c k = true) (hfin : (T k).2.2.2 = false ∨ (y.1.name = "<init>" ∧ (T k).1 = own)) (hk : kd i = c) (hi : i < N) (hn : narrow (ty k) (.int v) = .int v) (hfit : fits (ty k) (.int v) = true) (hd : decode y.2.1 pc = .ok (.putfield idx, 3)) (kk : WPc g d y (pc + 3) L st N ν (mset M i k v) kc ks Q) : WPc g d y pc L (.int v :: .ref (g.1 + i) :: st) N ν M kc ks Q :=
  C_put0 hf hy hfin hk hi hn hfit (flC_set g ν M i c k v hI) (fun j hj => mset_ne hj) rfl (fun _ _ => rfl) hd kk
theorem C_putR {own : String} {idx c k i j : Nat} {C : String} {T : u_T} {ty : Nat → FieldType} (hf : fldOK own idx c k C T ty) (hy : y.1.cls = own) (hI : isI c k = false) (hfin : (T k).2.2.2 = false ∨ (y.1.name = "<init>" ∧ (T k).1 = own)) (hk : kd i = c) (hi : i < N) (hj : rf i k = j) (hn : narrow (ty k) (.ref (g.1 + j)) = .ref (g.1 + j)) (hfit : fits (ty k) (.ref (g.1 + j)) = true) (hd : decode y.2.1 pc = .ok (.putfield idx, 3)) (kk : WPc g d y (pc + 3) L st N (nuset ν i k) M kc ks Q) : WPc g d y pc L (.ref (g.1 + j) :: .ref (g.1 + i) :: st) N ν M kc ks Q := by
  subst hj
  exact C_put0 hf hy hfin hk hi hn hfit (flC_setR g ν M i c k hI) (fun _ _ => rfl) rfl (fun j hj => nuset_ne hj) hd kk
theorem C_iast {i : Nat} {j v : Int32} (hk : kd i = 9) (hi : i < N) (hin : vp_in j (ln i)) (hd : decode y.2.1 pc = .ok (.iastore, 1)) (kk : WPc g d y (pc + 1) L st N ν (mset M i j.toNatClampNeg v) kc ks Q) : WPc g d y pc L (.int v :: .int j :: .ref (g.1 + i) :: st) N ν M kc ks Q := fun p l e R s m args below meth c0 Z H locs ls cells slots mc ms S => by
  obtain ⟨q0, hq⟩ := plG_at (cellC g ν M) N g hi
  have hq2 := hq
  rw [cellC_n g ν M (by omega) (by omega), cell_9 g M hk] at hq
  have hK := S.1.2.2.2.2.2.2.2.2.2.1.2.1
  have hP := S.2.1.1
  have hlt : j.toNatClampNeg < ln i := Nat.not_le.mp fun q => hin (Or.inr q)
  have h0 : ¬ j < 0 := fun q => hin (Or.inl q)
  refine W.iast S.1.1 S.1.2.1 (hP q0 _ hq) ((hK.2 1 _ rfl).1 (ln i) (fun k => .int (M.1 i k))) (fun q => by cases q) (by show ¬ (j < 0 ∨ (arrV _ _ _).slots.size ≤ _); rw [arrV_size]; exact hin) rfl rfl hd fun H1 e1 e2 e3 => ?_
  have w1 := hP.set (plG_D _ N g) hq (e := .inl (g.2.2.1 1, ln i, .inl (upd (M.1 i) j.toNatClampNeg v))) (by
    show H1[g.1 + i]? = some (vp_cell _ _)
    rw [e1, vp_cell_i, vp_cell_i, arrV_store]
    congr 2
    funext q
    by_cases hq9 : q = j.toNatClampNeg
    · subst hq9
      simp [updV, pk_us]
    · simp [updV, pk_un hq9, hq9]) e3
  rw [plG_set (f' := cellC g ν (mset M i j.toNatClampNeg v)) hi hq2 (by rw [cellC_n g ν _ (by omega) (by omega), cell_9 g _ hk, mset_at]) (fun k hk => cellC_ne g (mset_ne hk) rfl rfl)] at w1
  exact kk p l e R s m args below meth c0 Z H1 _ ls cells slots mc ms ⟨S.1, ⟨w1, e2.trans S.2.1.2⟩, S.2.2.1.put e2 e3 (Nat.le_add_right _ _), S.2.2.2⟩
/-- an object goes into a row of objects -/
theorem C_aast {i v : Nat} {j : Int32} (hk : kd i = 10) (hi : i < N) (hv : v < N) (hkv : kd v = 3) (hrf : rf i j.toNatClampNeg = v) (hin : vp_in j (ln i)) (hd : decode y.2.1 pc = .ok (.aastore, 1)) (kk : WPc g d y (pc + 1) L st N (nuset ν i j.toNatClampNeg) M kc ks Q) : WPc g d y pc L (.ref (g.1 + v) :: .int j :: .ref (g.1 + i) :: st) N ν M kc ks Q := fun p l e R s m args below meth c0 Z H locs ls cells slots mc ms S => by
  subst hrf
  obtain ⟨q0, hq⟩ := plG_at (cellC g ν M) N g hi
  obtain ⟨q1, hq1⟩ := plG_at (cellC g ν M) N g hv
  have hq2 := hq
  rw [cellC_10 g ν M hk] at hq
  rw [cellC_o g ν M hkv (by omega)] at hq1
  have hK := S.1.2.2.2.2.2.2.2.2.2.1.2.1
  have hP := S.2.1.1
  have hlt : j.toNatClampNeg < ln i := Nat.not_le.mp fun q => hin (Or.inr q)
  have h0 : ¬ j < 0 := fun q => hin (Or.inl q)
  obtain ⟨r', hr', cellV, g1, g2, g3, -⟩ := hP q1 _ hq1
  have hcls := (hK.1 3 _ rfl).2
  obtain ⟨kA, comp, k1, k2, k3, -⟩ := (hK.2 2 _ rfl).2
  have hcomp : comp = g.2.1.1 3 := Option.some.inj (k3.symm.trans hcls.1)
  subst hcomp
  obtain ⟨kC, hkC, -⟩ := hcls.2
  refine W.aast S.1.1 S.1.2.1 (hP q0 _ hq) (fun q h => by cases h) (fun h => by cases h) k1 k2 rfl hkC ⟨h0, by show _ < (arrV _ _ _).slots.size; rw [arrV_size]; exact hlt⟩ g1 (fun q h => by rw [g3] at h; cases h) (by rw [g2]; exact hkC) (by rw [g2]; exact va_assign hcls) rfl rfl hd fun H1 e1 e2 e3 => ?_
  have w1 := hP.set (plG_D _ N g) hq (e := .inl (g.2.2.1 2, ln i, .inr (.inr (.inr (.inr (fun q => if nuset ν i j.toNatClampNeg i q = true ∨ ln i ≤ q then some (g.1 + rf i q) else none)))))) (by
    show H1[g.1 + i]? = some (vp_cell _ _)
    rw [e1, vp_cell_q, vp_cell_q, arrV_store]
    congr 2
    funext q
    by_cases hq9 : q = j.toNatClampNeg
    · subst hq9
      simp [updV, nuset, va_rf]
    · simp [updV, nuset, hq9]) e3
  rw [plG_set (f' := cellC g (nuset ν i j.toNatClampNeg) M) hi hq2 (cellC_10 g _ _ hk) (fun k hk => cellC_ne g rfl rfl (nuset_ne hk))] at w1
  exact kk p l e R s m args below meth c0 Z H1 _ ls cells slots mc ms ⟨S.1, ⟨w1, e2.trans S.2.1.2⟩, S.2.2.1.put e2 e3 (Nat.le_add_right _ _), S.2.2.2⟩
/-- a row of objects is made -/
theorem C_anew {own : String} {idx n : Nat} {n0 : Int32} (hy : y.1.cls = own) (hlink : Cond.classLink own idx "VisitBooking$State" ∈ AW) (hk : kd N = 10) (hl : ln N = n) (hν : ∀ k, ν N k = false) (h0 : ¬ n0 < 0) (hn : n0.toNatClampNeg = n) (hb : n * 4 ≤ 536870912) (hkc : 1 ≤ kc) (hks : n ≤ ks) (hd : decode y.2.1 pc = .ok (.anewarray idx, 3)) (kk : WPc g d y (pc + 3) L (.ref (g.1 + N) :: st) (N + 1) ν M (kc - 1) (ks - n) Q) : WPc g d y pc L (.int n0 :: st) N ν M kc ks Q := fun p l e R s m args below meth c0 Z H locs ls cells slots mc ms S => by
  subst hn
  have hts := S.1.2.2.2.2.2.1
  have hK := S.1.2.2.2.2.2.2.2.2.2.1.2.1
  have hB := S.2.2.2.2.1
  refine W.anew S.1.1 S.1.2.1 (hy ▸ S.1.2.2.2.2.1) (hts _ hlink) S.2.2.2.2.2.2.1.1.use rfl hd rfl h0 hb (by omega) (by omega) fun cA kA comp f1 f2 f3 f4 => ?_
  generalize hH1 : H.push ({ cls := cA, slots := Array.replicate n0.toNatClampNeg .null, vm := .none } : Cell) = H1
  have z1 : H1.size = H.size + 1 := by rw [← hH1, Array.size_push]
  have e1 : H1[H.size]? = some (arrV cA n0.toNatClampNeg (fun _ => .null)) := by rw [← hH1, Array.getElem?_push_size, ← arrV_new]
  have o1 : ∀ q : Nat, q < H.size → H1[q]? = H[q]? := fun q hq => by rw [← hH1, Array.getElem?_push, if_neg (Nat.ne_of_lt hq)]
  have hcc : cA = g.2.2.1 2 := by
    obtain ⟨kA9, comp9, k1, k2, k3, k4⟩ := (hK.2 2 _ rfl).2
    exact Option.some.inj (f1.symm.trans k4)
  have w1 : va_P g.2.1 cls (plG (cellC g ν M) (N + 1) g) H1 := plG_P S.2.1.1 S.2.1.2 o1 (by
    rw [cellC_10 g ν M hk, hl]
    show H1[g.1 + N]? = some (vp_cell _ _)
    rw [← S.2.1.2, e1, vp_cell_q, hcc]
    refine congrArg some (arrV_cg (fun j hj => ?_))
    rw [hν j, if_neg (by simp; omega)]; rfl)
  have w2 := kk p l e R s m args below meth c0 Z H1 locs ls (cells + 1) (slots + n0.toNatClampNeg) mc ms ⟨S.1, ⟨w1, by rw [z1, S.2.1.2]; omega⟩, ⟨Nat.le_trans S.2.2.1.1 (by omega), fun x g1 g2 => (o1 x (by have := S.2.2.1.1; omega)).trans (S.2.2.1.2.1 x g1 g2), S.2.2.1.2.2⟩, S.2.2.2.1, ⟨by omega, by omega, hB.2.2.1, hB.2.2.2⟩, S.2.2.2.2.2⟩
  rw [S.2.1.2]
  exact w2
theorem mul_step {p : Program} {l : Launch} {e : Env} {R : Room} {s : State} {m : MethodId} {args : Array Value} {below : List Frame} {meth : Method} {c : Code} {T : State} {locs : List Loc} {cells slots : Nat} (X : Stand p l e R s m args below meth c T locs cells slots) (hexec : p.tables.exec = Jvm.exec) {own : String} {index : Nat}
    (hown : s.vm.findClass own = some m.cls) (hclink : (Cond.classLink own index "[[I").before args s = true) {cA comp cc : ClassId} {kA kC : Class} (hnameA : s.vm.findClass "[[I" = some cA) (hkA : s.vm.classes[cA]? = some kA) (hkindA : kA.kind = .array comp (.array .int)) (hkC : s.vm.classes[comp]? = some kC) (hkindC : kC.kind = .array cc .int)
    {g : JFrame} (hg : g.method = m) (hdg : decode c.code g.pc = .ok (.multianewarray index 2, 4)) {n k : Int32} {rest : List Value} (hstack : g.stack = .int k :: .int n :: rest)
    (hn : ¬ n < 0) (hk : ¬ k < 0) (hb1 : n.toNatClampNeg ≤ 1000) (hb2 : k.toNatClampNeg ≤ 1000)
    (hcells : cells + (1 + n.toNatClampNeg) ≤ R.cells) (hslots : slots + (n.toNatClampNeg + n.toNatClampNeg * k.toNatClampNeg) ≤ R.slots) :
    ∃ vm₁ : Vm, Stand p l e R s m args below meth c (Multi.fill (T.setVm vm₁) cA comp n.toNatClampNeg k.toNatClampNeg (defaultValue .int) n.toNatClampNeg) (locs ++ (List.range n.toNatClampNeg).map fun j => ⟨T.heap.size, j⟩) (cells + 1 + n.toNatClampNeg) (slots + n.toNatClampNeg + n.toNatClampNeg * k.toNatClampNeg) ∧
      ∀ target, Steps p.tables e below ((Multi.fill (T.setVm vm₁) cA comp n.toNatClampNeg k.toNatClampNeg (defaultValue .int) n.toNatClampNeg).setTop { g with pc := g.pc + 4, stack := .ref T.heap.size :: rest }) target →
        Steps p.tables e below (T.setTop g) target := by
  subst hg
  have hpl : e.platform.magicAccessors = ({} : Platform).magicAccessors := by rw [X.admits.platform]
  obtain ⟨c0, hfc0, hcl⟩ := Cond.classLink_spec hown hclink e.platform hpl
  cases hnameA.symm.trans hfc0
  obtain ⟨hg₁, hwarm₁, hready₁⟩ := State.classEntry (e := e) X.warmed hcl
  generalize T.vm.noted g.method.cls index (.cls cA) = vm₁ at hg₁ hwarm₁ hready₁
  obtain ⟨kA₁, hkA₁, heA⟩ := hwarm₁.alike.2.2 _ _ hkA
  obtain ⟨kC₁, hkC₁, heC⟩ := hwarm₁.alike.2.2 _ _ hkC
  have hkindA₁ : kA₁.kind = .array comp (.array .int) := by rw [heA]; exact hkindA
  have hkindC₁ : kC₁.kind = .array cc .int := by rw [heC]; exact hkindC
  have X₁ := X.noted hwarm₁
  have XF := X₁.filled cA comp n.toNatClampNeg k.toNatClampNeg (defaultValue .int) n.toNatClampNeg
  obtain ⟨hr1, hr2⟩ := X.roomAbove hcells hslots
  refine ⟨vm₁, XF, fun target hrest => ?_⟩
  jvm_step X.here [hexec, hdg]
  simp only [multianewarray.sem, wp_bind', W.resolveClassAt_links (State.method?_setTop g X.here.top) hg₁]
  rw [W.popN, if_neg (by decide)]
  refine ⟨g, State.topJava?_setTop' (s := T.setVm vm₁) g X.here.top, [.int n, .int k], rest, rfl, hstack, ?_⟩
  simp only [List.mapM_cons, List.mapM_nil, wp_bind', wp_pure']
  refine Multi.wp_make2 (k := kA₁) (kc := kC₁) (comp := comp) (cc := cc) (t0 := .array .int) (type := .int) hkA₁ hkindA₁ rfl hkC₁ hkindC₁ hn hk ?_ ?_ ?_ ?_ rfl rfl (by show T.heap.size + 1 + _ ≤ _; omega) (by show T.slotsUsed + _ + _ ≤ _; omega) (fun d' acts' => ?_)
  · rw [Launch.admits_arrayLengthLimit X.admits]; omega
  · rw [Launch.admits_maxHeapBytes X.admits]; show ¬ n.toNatClampNeg * 4 > 536870912; omega
  · rw [Launch.admits_arrayLengthLimit X.admits]; omega
  · rw [Launch.admits_maxHeapBytes X.admits]; show ¬ k.toNatClampNeg * 4 > 536870912; omega
  have eS : ((T.setTop g).setVm vm₁).setTop { g with stack := rest } = (T.setVm vm₁).setTop { g with stack := rest } := by
    show ((T.setVm vm₁).setTop g).setTop _ = _
    rw [State.setTop_setTop]
  rw [eS, Multi.fill_setTop]
  simp only [wp_bind', W.mark, W.pushRef, State.topJava?_setTop' _ XF.here.top, Option.some.injEq, exists_eq_left', State.setTop_setTop, State.heap_setTop]
  intro acts
  simp [jvm, XF.here.top]
  exact hrest
theorem mul_plain (c : ClassId) (n h0 : Nat) : ∀ i, (Multi.outerC c n h0 i).monitor = {} ∧ (Multi.outerC c n h0 i).hash = none
  | 0 => ⟨rfl, rfl⟩
  | i + 1 => mul_plain c n h0 i
theorem mul_outer {c : ClassId} {n h0 : Nat} : Multi.outerC c n h0 n = arrV c n (fun j => .ref (h0 + 1 + j)) := by
  obtain ⟨o1, o2, o3⟩ := Multi.outerC_facts c n h0 n
  obtain ⟨o4, o5⟩ := mul_plain c n h0 n
  have o6 := Multi.outerC_slot c n h0 n
  generalize Multi.outerC c n h0 n = C at o1 o2 o3 o4 o5 o6
  obtain ⟨a1, a2, a3, a4, a5⟩ := C
  dsimp only at o1 o2 o3 o4 o5 o6
  subst o1 o2 o4 o5
  unfold arrV
  congr 1
  refine Array.ext (by simp [o3]) (fun i h1 h2 => ?_)
  have := o6 i (by omega)
  rw [if_pos (by omega), Array.getElem?_eq_getElem h1] at this
  rw [Option.some.inj this]
  simp
/-- a row of rows of numbers is made -/
theorem C_multi {own : String} {idx n w : Nat} {n0 w0 : Int32} (hy : y.1.cls = own) (hlink : Cond.classLink own idx "[[I" ∈ AW) (harr : Cond.arrayClass .int ∈ AW) (hk : kd N = 11) (hl : ln N = n) (hrf : ∀ k, rf N k = N + 1 + k) (hk2 : ∀ k, k < n → kd (N + 1 + k) = 9 ∧ ln (N + 1 + k) = w ∧ ∀ j, M.1 (N + 1 + k) j = 0) (h0 : ¬ n0 < 0) (hn : n0.toNatClampNeg = n) (h1 : ¬ w0 < 0) (hw : w0.toNatClampNeg = w) (hb : n ≤ 1000) (hb2 : w ≤ 1000) (hkc : 1 + n ≤ kc) (hks : n + n * w ≤ ks) (hd : decode y.2.1 pc = .ok (.multianewarray idx 2, 4)) (kk : WPc g d y (pc + 4) L (.ref (g.1 + N) :: st) (N + 1 + n) ν M (kc - (1 + n)) (ks - (n + n * w)) Q) : WPc g d y pc L (.int w0 :: .int n0 :: st) N ν M kc ks Q := fun p l e R s m args below meth c0 Z H locs ls cells slots mc ms S => by
  subst hn hw
  have hts := S.1.2.2.2.2.2.1
  have hK := S.1.2.2.2.2.2.2.2.2.2.1.2.1
  have hB := S.2.2.2.2.1
  have hz := S.2.1.2
  have hown : s.vm.findClass own = some m.cls := hy ▸ S.1.2.2.2.2.1
  obtain ⟨kA, hkA, hkindA, hnameA⟩ := S.2.2.2.2.2.2.1.2
  obtain ⟨comp', kC, cc, hcomp', hkC, hkindC⟩ := Cond.arrayClass_spec (hts _ harr)
  have ec : comp' = g.2.2.1 1 := Option.some.inj (hcomp'.symm.trans (hK.2 1 _ rfl).2)
  subst ec
  intro T hT X
  subst hT
  obtain ⟨vm₁, X1, step⟩ := mul_step (g := F0 m pc ls (.int w0 :: .int n0 :: st)) X S.1.1 hown (hts _ hlink) hnameA hkA hkindA hkC hkindC rfl (by rw [S.1.2.1]; exact hd) rfl h0 h1 (by omega) (by omega) (by omega) (by omega)
  have f1 := Multi.fill_facts (T.setVm vm₁) (g.2.2.1 3) (g.2.2.1 1) n0.toNatClampNeg w0.toNatClampNeg (defaultValue .int) n0.toNatClampNeg
  have f2 := fun q (hq : q < (T.setVm vm₁).heap.size) => Multi.fill_old (T.setVm vm₁) (g.2.2.1 3) (g.2.2.1 1) n0.toNatClampNeg w0.toNatClampNeg (defaultValue .int) hq n0.toNatClampNeg
  have f3 := Multi.fill_inner (T.setVm vm₁) (g.2.2.1 3) (g.2.2.1 1) n0.toNatClampNeg w0.toNatClampNeg (defaultValue .int) n0.toNatClampNeg
  generalize Multi.fill (T.setVm vm₁) (g.2.2.1 3) (g.2.2.1 1) n0.toNatClampNeg w0.toNatClampNeg (defaultValue .int) n0.toNatClampNeg = FT at X1 step f1 f2 f3
  have eT : (T.setVm vm₁).heap = T.heap := rfl
  rw [eT] at f1 f2 f3
  have up : ∀ N', va_P g.2.1 cls (plG (cellC g ν M) N' g) FT.heap → va_at g.2.1 cls (g.1 + N', cellC g ν M N') FT.heap → va_P g.2.1 cls (plG (cellC g ν M) (N' + 1) g) FT.heap := fun N' hP e => by
    rw [plG_push]
    refine hP.app (fun k x hx => ?_)
    have hz : k < 1 := (List.getElem?_eq_some_iff.mp hx).1
    rw [show k = 0 by omega] at hx
    cases hx
    exact e
  have p0 : va_P g.2.1 cls (plG (cellC g ν M) N g) FT.heap := S.2.1.1.kept (fun k x hx => f2 x.1 ((S.2.1.1 k x hx).lt))
  have p1 : va_P g.2.1 cls (plG (cellC g ν M) (N + 1) g) FT.heap := up N p0 (by
    rw [cellC_n g ν M (by omega) (by omega), cell_11 g M hk, hl]
    show FT.heap[g.1 + N]? = some (vp_cell _ _)
    rw [← hz, f1.2.1, vp_cell_q, mul_outer, hz]
    refine congrArg some (arrV_cg (fun j hj => ?_))
    rw [hrf j]
    show Value.ref (g.1 + N + 1 + j) = Value.ref (g.1 + (N + 1 + j))
    rw [show g.1 + N + 1 + j = g.1 + (N + 1 + j) by omega])
  have p2 : ∀ j, j ≤ n0.toNatClampNeg → va_P g.2.1 cls (plG (cellC g ν M) (N + 1 + j) g) FT.heap := by
    intro j
    induction j with
    | zero => exact fun _ => p1
    | succ j ih =>
      intro hj
      obtain ⟨k1, k2, k3⟩ := hk2 j hj
      refine up (N + 1 + j) (ih (by omega)) ?_
      rw [cellC_n g ν M (by omega) (by omega), cell_9 g M k1, k2]
      show FT.heap[g.1 + (N + 1 + j)]? = some (vp_cell _ _)
      rw [show g.1 + (N + 1 + j) = T.heap.size + 1 + j by omega, f3 j hj, vp_cell_i]
      refine congrArg some ?_
      rw [show Multi.innerC (g.2.2.1 1) w0.toNatClampNeg (defaultValue .int) = arrV (g.2.2.1 1) w0.toNatClampNeg (fun _ => .int 0) from arrV_new _ _ _]
      exact arrV_cg (fun q _ => by rw [k3 q])
  have hl9 : ∀ q ∈ (locs ++ (List.range n0.toNatClampNeg).map fun j => (⟨T.heap.size, j⟩ : Loc)), AG g q.base := by
    intro q hq
    rcases List.mem_append.mp hq with h | h
    · exact S.2.2.1.2.2 q h
    · obtain ⟨j, -, rfl⟩ := List.mem_map.mp h
      show g.1 ≤ T.heap.size
      omega
  obtain ⟨t, ht, hZ⟩ := kk p l e R s m args below meth c0 Z FT.heap _ ls (cells + 1 + n0.toNatClampNeg) (slots + n0.toNatClampNeg + n0.toNatClampNeg * w0.toNatClampNeg) mc ms ⟨S.1, ⟨p2 _ (Nat.le_refl _), by rw [f1.1, hz]; omega⟩, ⟨Nat.le_trans S.2.2.1.1 (by rw [f1.1]; omega), fun x g1 g2 => (f2 x (by have := S.2.2.1.1; omega)).trans (S.2.2.1.2.1 x g1 g2), hl9⟩, S.2.2.2.1, ⟨by omega, by omega, hB.2.2.1, hB.2.2.2⟩, S.2.2.2.2.2⟩ FT rfl X1
  refine ⟨t, step t ?_, hZ⟩
  rw [hz]
  exact ht
/-- the contract of a constructor -/
def CTc (g : GG) (d : Nat) (y : Mth) (av : List Value) (N : Nat) (ν : NU) (M : Mem) (kc ks : Nat) (P : Nat → NU → Mem → Prop) : Prop :=
  ∀ l : Launch, l.stackTraces = false → Met l y.1 (wsY y) { frames := d, cells := kc, slots := ks, locals := 100 * d + 100 } (va_Pc av (fun U => RepC g N ν M U.heap ∧ Env0 g U ∧ ExC g U)) (fun _ st oc t => ∃ (N' : Nat) (ν' : NU) (M' : Mem), oc = .returned none ∧ P N' ν' M' ∧ RepC g N' ν' M' t.heap ∧ va_F (AG g) st t) kc ks (AG g)
def QR (y : Mth) (P : Nat → NU → Mem → Prop) : QC := fun pc _ st N ν M _ _ => RetAt y.2.1 pc none ∧ st = [] ∧ P N ν M
theorem CTc_of {av : List Value} {P : Nat → NU → Mem → Prop} (hy : plainName y.1.cls = true) (hh : y.2.2.2.2 = []) (hret : y.2.2.2.1 = none) (hlen : (lg_sl av).length ≤ y.2.2.1) (hL : ents av y.2.2.1 = L) (k : WPc g d y 0 L [] N ν M kc ks (QR y P)) : CTc g d y av N ν M kc ks P := by
  intro l htr
  have hw : wsY y = Cond.code y.1 y.2.1 y.2.2.1 y.2.2.2.1 :: AW := by unfold wsY cwY; rw [hh]; rfl
  refine Met.ofW (ws' := AW) (cc := y.2.1) (maxL := y.2.2.1) (ret := y.2.2.2.1) hy hw ?_
  intro p e s m args below meth c s₁ B hml hv
  obtain ⟨rfl, hP, hE, hEx⟩ := hv
  have hts0 := atoms_spec (ws := wsY y) B.pre
  have hS : va_S (AG g) s.heap s.heap [] := va_S.rf
  have hl := lv_entry av (n := y.2.2.1) hlen
  rw [lg_entry_eq]
  have hcw : (cwY y).before av.toArray s = true := hts0 _ List.mem_cons_self
  have hlk := B.notSynchronized
  have hx := B.exec
  have hb := B.bytes
  have hr := B.returns
  refine k p l e _ s m av.toArray below meth c _ s.heap [] _ 0 0 kc ks ⟨⟨hx, hb, hr, hml, findClass_of_methodNamed B.named, fun w hw => hts0 w (List.mem_cons_of_mem _ hw), hlk, ?_, htr, hE, Nat.le_refl _, Nat.le_refl _⟩, hP, hS, ⟨hl.1, hl.2.1, fun i v hi => ?_⟩, ⟨by omega, by omega, Nat.le_refl _, Nat.le_refl _⟩, (name_of_methodNamed B.named B.method).1, hEx, ?_⟩
  · rw [hh]
    have : c.exceptionTable.toList = [] := by
      unfold cwY at hcw
      rw [hh] at hcw
      exact codeTable (x := y.1) B hcw
    rw [this]; rfl
  · rw [← hL] at hi
    exact hl.2.2 (i, v) (ents_at hi)
  · intro pc' L' st' N' ν' M' kc' ks' H' locs' ls' cells' slots' hq hP' hS' hL' hc' hs'
    obtain ⟨q1, q2, q3⟩ := hq
    subst q2
    refine W.widen (k := kc) (n := ks) (by omega) (by omega) ?_
    exact W.vret hx hb (hr.trans hret) (fun t ht _ => ⟨N', ν', M', rfl, q3, by rw [ht]; exact hP', hS'.F ht⟩) hS'.2.2 q1
/-- a constructor is called -/
theorem C_call {own : String} {idx n d' kc' ks' b : Nat} {y' : Mth} {As rest : List Value} {P : Nat → NU → Mem → Prop} (ct : CTc g d' y' (.ref (g.1 + b) :: As) N ν M kc' ks' P) (hy : y.1.cls = own) (hc : calOK own idx y' n) (hr : y'.2.2.2.1 = none) (hnm : y'.1.name = "<init>") (hi : Cond.instanceMethod y'.1 ∈ AW) (hd' : d' + 1 ≤ d) (hkc : kc' ≤ kc) (hks : ks' ≤ ks) (hn : As.length = n) (hst : st = As.reverse ++ .ref (g.1 + b) :: rest) (hrs : (rest.map fun v => v.category).sum ≤ 8) (hd : decode y.2.1 pc = .ok (.invokespecial idx, 3))
    (kk : ∀ (N' : Nat) (ν' : NU) (M' : Mem), P N' ν' M' → WPc g d y (pc + 3) L rest N' ν' M' (kc - kc') (ks - ks') Q) : WPc g d y pc L st N ν M kc ks Q := fun p l e R s m args below meth c0 Z H locs ls cells slots mc ms S => by
  obtain ⟨⟨hx, hb, hr9, hml, hown, hts, hlk, hxt, htr, henv, hf, hl⟩, hP, hS, hL, hB, hnm9, hEx, hR⟩ := S
  obtain ⟨a1, a2, a3, a4, a5, a6, a7⟩ := hc
  have hcw : cwY y' = Cond.code y'.1 y'.2.1 y'.2.2.1 none := by unfold cwY; rw [a1, hr]; rfl
  have hB9 : CallB R s args own idx y'.1 y'.2.1 y'.2.2.1 none (wsY y') { frames := d', cells := kc', slots := ks', locals := 100 * d' + 100 } kc' ks' n := by
    refine ⟨rfl, rfl, by show d' + 1 ≤ _; omega, by show 8 + (y'.2.2.1 + 11) + (100 * d' + 100) ≤ _; omega, fun w hw a' U hW => ?_, by rw [← hcw]; exact List.mem_cons_self, by rw [← hcw]; exact hts _ a4, hts _ a5, a6, fun sig hs => ?_, hts _ a3⟩
    · rcases List.mem_cons.mp hw with q | q
      · rw [q]; exact aw_at hW hts _ a4
      · exact aw_at hW hts _ q
    · rw [hs] at a7
      exact (Option.some.inj a7).symm
  have hblind : FrameBlind (va_Pc (.ref (g.1 + b) :: As) (fun U => RepC g N ν M U.heap ∧ Env0 g U ∧ ExC g U)) := by
    intro a U g0 mk q
    obtain ⟨q0, q1, q2, q3⟩ := q
    exact ⟨q0, q1, q2.to (State.WarmedH.refl U) (Nat.le_refl _) (fun _ _ _ => rfl), q3.moved (State.WarmedH.refl U).alike⟩
  have run := va_runI (p := p) (l := l) (e := e) (R := R) (s := s) (m := m) (args := args) (below := below) (meth := meth) (c := c0) (H := H) (locs := locs) (cells := cells) (slots := slots) (g := F0 m pc ls st) (cc := y.2.1) (nL := y.2.2.1) (Ts := AW) (own := own) (As := As) (rest := rest) (b := g.1 + b) ⟨hx, hb, hml, hy ▸ hown, hts⟩ (ct l htr) ⟨hB9, hnm, hts _ hi⟩ ⟨hblind, fun U hU hW => ⟨rfl, by rw [hU]; exact hP, env_at henv hS hU hW, hEx.moved hW.alike⟩⟩ rfl hn hL.1 hst (lv_room hrs) hd ⟨by omega, by omega⟩
  intro T hT X
  obtain ⟨v, st₀, t, T', Lc, h0, X', hLc, e1, e2, ⟨N', ν', M', ho, hq, hP', hF⟩, stp⟩ := run T hT X
  cases ho
  obtain ⟨k1, k2, hS'⟩ := vx_keep h0 e1 hS (fun q _ h => h) (fun q h => h) hLc hF
  obtain ⟨t2, a1, b1⟩ := kk N' ν' M' hq p l e R s m args below meth c0 Z T'.heap (locs ++ Lc) ls (cells + kc') (slots + ks') mc ms ⟨⟨hx, hb, hr9, hml, hown, hts, hlk, hxt, htr, henv, hf, hl⟩, by rw [e1]; exact hP', hS', hL, ⟨by omega, by omega, hB.2.2.1, hB.2.2.2⟩, hnm9, hEx, hR⟩ T' rfl X'
  exact ⟨t2, stp t2 a1, b1⟩
/-- an object is made -/
theorem C_new {own : String} {idx c n : Nat} {C : String} {T : u_T} {ty : Nat → FieldType} (hcl : clsOK c C T ty) (hy : y.1.cls = own) (hlink : Cond.classLink own idx C ∈ AW) (hinst : Cond.instantiable C (nfC c) ∈ AW) (hini : Cond.initialized C ∈ AW) (hk : kd N = c) (hn : n = nfC c) (hM : ∀ k, M.1 N k = 0) (hν : ∀ k, ν N k = false) (hdf : ∀ k, k < nfC c → defaultValue (ty k) = if isI c k = true then .int 0 else .null) (hkc : 1 ≤ kc) (hks : n ≤ ks) (hd : decode y.2.1 pc = .ok (.new idx, 3)) (kk : WPc g d y (pc + 3) L (.ref (g.1 + N) :: st) (N + 1) ν M (kc - 1) (ks - n) Q) : WPc g d y pc L st N ν M kc ks Q := fun p l e R s m args below meth c0 Z H locs ls cells slots mc ms S => by
  subst hn
  obtain ⟨h1, h2, h3, h4, h5⟩ := hcl
  have hts := S.1.2.2.2.2.2.1
  have hK := S.1.2.2.2.2.2.2.2.2.2.1.2.1
  have hKn := hK.1 c _ h2
  have hB := S.2.2.2.2.1
  refine W.newcK S.1.1 S.1.2.1 (hy ▸ S.1.2.2.2.2.1) (hts _ hlink) (hts _ hinst) (hts _ hini) rfl hd (by omega) (by omega) hKn.2.1 S.2.1.2 fun H1 kC hkC e1 z1 o1 => ?_
  have w1 : va_P g.2.1 cls (plG (cellC g ν M) (N + 1) g) H1 := plG_P S.2.1.1 S.2.1.2 (by rw [S.2.1.2]; exact o1) (by
    rw [cellC_o g ν M hk h1]
    refine ⟨_, h2, (u_born ty hts h3 hKn hkC e1 h4).to (fun j hj => ?_)⟩
    rw [hdf j hj]
    show _ = (flC g ν M N c).getD j .null
    rw [List.getD_eq_getElem?_getD, flC_at g ν M N c j hj, hM j, hν j]
    rfl)
  exact kk p l e R s m args below meth c0 Z H1 locs ls (cells + 1) (slots + nfC c) mc ms ⟨S.1, ⟨w1, by rw [z1]; omega⟩, ⟨Nat.le_trans S.2.2.1.1 (by rw [z1, S.2.1.2]; omega), fun x g1 g2 => (o1 x (by have := S.2.2.1.1; have := S.2.1.2; omega)).trans (S.2.2.1.2.1 x g1 g2), S.2.2.1.2.2⟩, S.2.2.2.1, ⟨by omega, by omega, hB.2.2.1, hB.2.2.2⟩, S.2.2.2.2.2⟩
/-- a row of numbers is made -/
theorem C_newa {atype : ArrayType} {t n : Nat} {n0 : Int32} {a0 : vp_A} (harr : Cond.arrayClass (newarray.typeOf atype) ∈ AW) (ht : ∃ cA, (tysG g)[t]? = some (cA, newarray.typeOf atype) ∧ cellC g ν M N = .inl (cA, a0)) (hv : ∀ cA, vp_cell cA a0 = arrV cA n (fun _ => defaultValue (newarray.typeOf atype))) (hra : ∀ (U : State) (cA : ClassId), va_RA U cA (newarray.typeOf atype) → U.vm.findClass ("[" ++ (newarray.typeOf atype).toString) = some cA) (h0 : ¬ n0 < 0) (hn : n0.toNatClampNeg = n) (hb : n * componentBytes (newarray.typeOf atype) ≤ 536870912) (hkc : 1 ≤ kc) (hks : n ≤ ks) (hd : decode y.2.1 pc = .ok (.newarray atype, 2)) (kk : WPc g d y (pc + 2) L (.ref (g.1 + N) :: st) (N + 1) ν M (kc - 1) (ks - n) Q) : WPc g d y pc L (.int n0 :: st) N ν M kc ks Q := fun p l e R s m args below meth c0 Z H locs ls cells slots mc ms S => by
  have hts := S.1.2.2.2.2.2.1
  have hK := S.1.2.2.2.2.2.2.2.2.2.1.2.1
  have hB := S.2.2.2.2.1
  obtain ⟨cA, ht1, ht2⟩ := ht
  refine va_newaK S.1.1 S.1.2.1 (hts _ harr) rfl hd rfl h0 hn hb (by omega) (by omega) S.2.1.2 fun H1 cA' e1 z1 o1 hAr hNm => ?_
  have hcc : cA' = cA := Option.some.inj (hNm.symm.trans (hra s cA (hK.2 t _ ht1).2))
  subst hcc
  have w1 : va_P g.2.1 cls (plG (cellC g ν M) (N + 1) g) H1 := plG_P S.2.1.1 S.2.1.2 (by rw [S.2.1.2]; exact o1) (by
    rw [ht2]
    show H1[g.1 + N]? = some (vp_cell cA' a0)
    rw [hv]; exact e1)
  exact kk p l e R s m args below meth c0 Z H1 locs ls (cells + 1) (slots + n) mc ms ⟨S.1, ⟨w1, by rw [z1]; omega⟩, ⟨Nat.le_trans S.2.2.1.1 (by rw [z1, S.2.1.2]; omega), fun x g1 g2 => (o1 x (by have := S.2.2.1.1; have := S.2.1.2; omega)).trans (S.2.2.1.2.1 x g1 g2), S.2.2.1.2.2⟩, S.2.2.2.1, ⟨by omega, by omega, hB.2.2.1, hB.2.2.2⟩, S.2.2.2.2.2⟩
end RowsC

