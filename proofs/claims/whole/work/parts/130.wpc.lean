/-! ===== CONSTRUCTORS: N objects are made so far; ν: which places of references are filled ===== -/
abbrev NU : Type := Nat → Nat → Bool
def flC (g : GG) (ν : NU) (M : Mem) (i c : Nat) : List Value := (List.range (nfC c)).map fun k => if isI c k = true then .int (M.1 i k) else if ν i k = true then .ref (g.1 + rf i k) else .null
def cellC (g : GG) (ν : NU) (M : Mem) (i : Nat) : va_E := if kd i < 8 then .inr (kd i, flC g ν M i (kd i)) else if kd i = 10 then .inl (g.2.2.1 2, ln i, .inr (.inr (.inr (.inr (fun j => if ν i j = true ∨ ln i ≤ j then some (g.1 + rf i j) else none))))) else cellOf g M i
def plG (f : Nat → va_E) (N : Nat) (g : GG) : va_W := va_pl (adsN N g) (fun a => f (a - g.1))
def RepC (g : GG) (N : Nat) (ν : NU) (M : Mem) (H : Heap) : Prop := va_P g.2.1 cls (plG (cellC g ν M) N g) H ∧ H.size = g.1 + N
theorem plG_D (f : Nat → va_E) (N : Nat) (g : GG) : va_D (AG g) (plG f N g) := by
  refine ⟨fun i j p q hi hj he => ?_, fun k q hk => ?_⟩
  · unfold plG va_pl adsN at hi hj
    rw [List.getElem?_map, List.getElem?_map] at hi hj
    by_cases h1 : i < N
    · by_cases h2 : j < N
      · rw [List.getElem?_range h1] at hi
        rw [List.getElem?_range h2] at hj
        simp only [Option.map_some, Option.some.injEq] at hi hj
        rw [← hi, ← hj] at he
        simp only at he
        omega
      · rw [List.getElem?_eq_none (by simpa using h2)] at hj; simp at hj
    · rw [List.getElem?_eq_none (by simpa using h1)] at hi; simp at hi
  · obtain ⟨a, ha, hq⟩ := List.mem_map.mp (List.mem_of_getElem? hk)
    obtain ⟨i, -, he⟩ := ads_of ha
    rw [← hq]
    show g.1 ≤ a
    omega
theorem plG_at (f : Nat → va_E) (N : Nat) (g : GG) {i : Nat} (h : i < N) : ∃ k : Nat, (plG f N g)[k]? = some (g.1 + i, f i) := by
  obtain ⟨k, hk⟩ := va_pl_get (X := []) (L := adsN N g) (f := fun a => f (a - g.1)) (ads_mem (g := g) h)
  refine ⟨k, ?_⟩
  rw [List.nil_append] at hk
  unfold plG
  rw [hk]
  show some (g.1 + i, f (g.1 + i - g.1)) = _
  rw [Nat.add_sub_cancel_left]
theorem plG_congr {f f' : Nat → va_E} {N : Nat} {g : GG} (h : ∀ i, i < N → f' i = f i) : plG f' N g = plG f N g := by
  unfold plG va_pl
  apply List.map_congr_left
  intro a ha
  obtain ⟨j, hj, rfl⟩ := ads_of ha
  show (g.1 + j, f' (g.1 + j - g.1)) = (g.1 + j, f (g.1 + j - g.1))
  rw [Nat.add_sub_cancel_left, h j hj]
theorem plG_set {f f' : Nat → va_E} {N : Nat} {g : GG} {i k : Nat} {e : va_E} (h : i < N) (hk : (plG f N g)[k]? = some (g.1 + i, f i)) (he : f' i = e) (ho : ∀ j, j ≠ i → f' j = f j) : (plG f N g).set k (g.1 + i, e) = plG f' N g := by
  have hk' : ([] ++ va_pl (adsN N g) (fun a => f (a - g.1)))[k]? = some (g.1 + i, (fun a => f (a - g.1)) (g.1 + i)) := by
    rw [List.nil_append]
    unfold plG at hk
    rw [hk]
    show some (g.1 + i, f i) = some (g.1 + i, f (g.1 + i - g.1))
    rw [Nat.add_sub_cancel_left]
  have hD := plG_D f N g
  unfold plG at hD
  have h1 := va_pl_set (X := []) (L := adsN N g) (f := fun a => f (a - g.1)) (e := e) (by rw [List.nil_append]; exact hD) (ads_mem (g := g) h) hk'
  rw [List.nil_append, List.nil_append] at h1
  unfold plG
  rw [h1]
  unfold va_pl
  apply List.map_congr_left
  intro a ha
  obtain ⟨j, -, rfl⟩ := ads_of ha
  by_cases hj : j = i
  · subst hj
    show (g.1 + j, va_up _ _ e (g.1 + j)) = (g.1 + j, f' (g.1 + j - g.1))
    rw [va_up_self, Nat.add_sub_cancel_left, he]
  · show (g.1 + j, va_up (fun a => f (a - g.1)) _ e (g.1 + j)) = (g.1 + j, f' (g.1 + j - g.1))
    rw [va_up_ne _ _ (by omega), Nat.add_sub_cancel_left, ho j hj]
theorem plG_push (f : Nat → va_E) (N : Nat) (g : GG) : plG f (N + 1) g = plG f N g ++ [(g.1 + N, f N)] := by
  unfold plG va_pl adsN
  rw [List.range_succ, List.map_append, List.map_append]
  show _ ++ [(g.1 + N, f (g.1 + N - g.1))] = _
  rw [Nat.add_sub_cancel_left]
/-- one more object -/
theorem plG_P {g : GG} {f : Nat → va_E} {N : Nat} {H H1 : Heap} (hP : va_P g.2.1 cls (plG f N g) H) (hz : H.size = g.1 + N) (o1 : ∀ q, q < H.size → H1[q]? = H[q]?) (e1 : va_at g.2.1 cls (g.1 + N, f N) H1) : va_P g.2.1 cls (plG f (N + 1) g) H1 := by
  rw [plG_push]
  refine (hP.kept (fun k x hx => o1 x.1 ((hP k x hx).lt))).app (fun k x hx => ?_)
  have hz : k < 1 := (List.getElem?_eq_some_iff.mp hx).1
  rw [show k = 0 by omega] at hx
  cases hx
  exact e1
def nuset (ν : NU) (i k : Nat) : NU := fun a j => ν a j || (a == i && j == k)
theorem nuset_ne {ν : NU} {i k a : Nat} (h : a ≠ i) : nuset ν i k a = ν a := by
  funext j; unfold nuset; simp [h]
theorem flC_len (g : GG) (ν : NU) (M : Mem) (i c : Nat) : (flC g ν M i c).length = nfC c := by simp [flC]
theorem flC_at (g : GG) (ν : NU) (M : Mem) (i c k : Nat) (h : k < nfC c) : (flC g ν M i c)[k]? = some (if isI c k = true then .int (M.1 i k) else if ν i k = true then .ref (g.1 + rf i k) else .null) := by
  unfold flC
  rw [List.getElem?_map, List.getElem?_range h]
  rfl
theorem flC_set (g : GG) (ν : NU) (M : Mem) (i c k : Nat) (v : Int32) (hi : isI c k = true) : (flC g ν M i c).set k (.int v) = flC g ν (mset M i k v) i c := by
  apply List.ext_getElem?
  intro j
  by_cases hj : j < nfC c
  · rw [List.getElem?_set, flC_at g ν _ i c j hj, flC_at g ν _ i c j hj, mset_at, flC_len]
    by_cases e : k = j
    · subst e
      rw [if_pos rfl, if_pos hj, if_pos hi, pk_us]
    · rw [if_neg e, pk_un (fun q => e q.symm)]
  · rw [List.getElem?_eq_none (by rw [List.length_set, flC_len]; omega), List.getElem?_eq_none (by rw [flC_len]; omega)]
theorem flC_setR (g : GG) (ν : NU) (M : Mem) (i c k : Nat) (hi : isI c k = false) : (flC g ν M i c).set k (.ref (g.1 + rf i k)) = flC g (nuset ν i k) M i c := by
  apply List.ext_getElem?
  intro j
  by_cases hj : j < nfC c
  · rw [List.getElem?_set, flC_at g ν _ i c j hj, flC_at g _ _ i c j hj, flC_len]
    by_cases e : k = j
    · subst e
      rw [if_pos rfl, if_pos hj, if_neg (by rw [hi]; decide), if_pos (by simp [nuset])]
    · have : nuset ν i k i j = ν i j := by
        have e2 : ¬ j = k := fun q => e q.symm
        simp [nuset, e2]
      rw [if_neg e, this]
  · rw [List.getElem?_eq_none (by rw [List.length_set, flC_len]; omega), List.getElem?_eq_none (by rw [flC_len]; omega)]
theorem cellC_o (g : GG) (ν : NU) (M : Mem) {i c : Nat} (h : kd i = c) (hc : c < 8) : cellC g ν M i = .inr (c, flC g ν M i c) := by unfold cellC; rw [if_pos (by omega), h]
theorem cellC_10 (g : GG) (ν : NU) (M : Mem) {i : Nat} (h : kd i = 10) : cellC g ν M i = .inl (g.2.2.1 2, ln i, .inr (.inr (.inr (.inr (fun j => if ν i j = true ∨ ln i ≤ j then some (g.1 + rf i j) else none))))) := by unfold cellC; rw [if_neg (by omega), if_pos h]
theorem cellC_n (g : GG) (ν : NU) (M : Mem) {i : Nat} (h : 8 ≤ kd i) (h2 : kd i ≠ 10) : cellC g ν M i = cellOf g M i := by unfold cellC; rw [if_neg (by omega), if_neg h2]
theorem cellC_ne (g : GG) {ν ν' : NU} {M M' : Mem} {i : Nat} (h : M'.1 i = M.1 i) (h2 : M'.2 = M.2) (h3 : ν' i = ν i) : cellC g ν' M' i = cellC g ν M i := by
  unfold cellC flC
  rw [h, h3, cell_ne g h h2]
/-- the same world by other words -/
theorem RepC.to {g : GG} {N : Nat} {ν ν' : NU} {M M' : Mem} {H : Heap} (h : RepC g N ν M H) (hM : ∀ i, i < N → M'.1 i = M.1 i) (h2 : M'.2 = M.2) (hν : ∀ i k, i < N → ((kd i = 10 ∧ k < ln i) ∨ (kd i < 8 ∧ isI (kd i) k = false ∧ k < nfC (kd i))) → ν' i k = ν i k) : RepC g N ν' M' H := by
  refine ⟨?_, h.2⟩
  have e : plG (cellC g ν' M') N g = plG (cellC g ν M) N g := plG_congr (fun i hi => by
    unfold cellC
    by_cases c : kd i < 8
    · rw [if_pos c, if_pos c]
      congr 2
      unfold flC
      apply List.map_congr_left
      intro k hk
      rw [hM i hi]
      by_cases q : isI (kd i) k = true
      · rw [if_pos q, if_pos q]
      · rw [if_neg q, if_neg q, hν i k hi (Or.inr ⟨c, by simpa using q, List.mem_range.mp hk⟩)]
    · rw [if_neg c, if_neg c]
      by_cases c2 : kd i = 10
      · rw [if_pos c2, if_pos c2]
        congr 7
        funext j
        by_cases q : j < ln i
        · rw [hν i j hi (Or.inl ⟨c2, q⟩)]
        · rw [if_pos (Or.inr (by omega)), if_pos (Or.inr (by omega))]
      · rw [if_neg c2, if_neg c2, cell_ne g (hM i hi) h2])
  rw [e]; exact h.1
theorem RepC.done {g : GG} {ν : NU} {M : Mem} {H : Heap} (h : RepC g 1594 ν M H) (hν : ∀ i k, i < 1594 → ((kd i = 10 ∧ k < ln i) ∨ (kd i < 8 ∧ isI (kd i) k = false ∧ k < nfC (kd i))) → ν i k = true) : Rep g M H := by
  have e : plG (cellC g ν M) 1594 g = plM g M := plG_congr (fun i hi => by
    unfold cellC
    by_cases c : kd i < 8
    · rw [if_pos c, cell_o g M rfl c]
      congr 2
      unfold flC fl
      apply List.map_congr_left
      intro k hk
      by_cases q : isI (kd i) k = true
      · rw [if_pos q, if_pos q]
      · rw [if_neg q, if_neg q, if_pos (hν i k hi (Or.inr ⟨c, by simpa using q, List.mem_range.mp hk⟩))]
    · rw [if_neg c]
      by_cases c2 : kd i = 10
      · rw [if_pos c2, cell_10 g M c2]
        congr 7
        funext j
        by_cases q : j < ln i
        · rw [if_pos (Or.inl (hν i j hi (Or.inl ⟨c2, q⟩)))]
        · rw [if_pos (Or.inr (by omega))]
      · rw [if_neg c2])
  show va_P g.2.1 cls (plM g M) H
  rw [← e]; exact h.1
/-- what is known besides of the classes of rows -/
def MI (g : GG) (U : State) : Prop := ∃ kA : Class, U.vm.classes[g.2.2.1 3]? = some kA ∧ kA.kind = .array (g.2.2.1 1) (.array .int) ∧ U.vm.findClass "[[I" = some (g.2.2.1 3)
theorem MI.moved {g : GG} {u U : State} (hvm : u.vm.Alike U.vm) (h : MI g u) : MI g U := by
  obtain ⟨kA, h1, h2, h3⟩ := h
  obtain ⟨k', hk', he⟩ := hvm.2.2 _ _ h1
  exact ⟨k', hk', by rw [he]; exact h2, by rw [hvm.findClass]; exact h3⟩
def ExC (g : GG) (U : State) : Prop := va_AO "VisitBooking$State" U ∧ MI g U
theorem ExC.moved {g : GG} {u U : State} (hvm : u.vm.Alike U.vm) (h : ExC g u) : ExC g U := ⟨h.1.moved hvm, h.2.moved hvm⟩
abbrev QC : Type := Nat → List (Option Value) → List Value → Nat → NU → Mem → Nat → Nat → Prop
def Sc (g : GG) (d : Nat) (y : Mth) (L : List (Option Value)) (N : Nat) (ν : NU) (M : Mem) (kc ks : Nat) (Q : QC) (p : Program) (l : Launch) (e : Env) (R : Room) (s : State) (m : MethodId) (args : Array Value) (below : List Frame) (meth : Method) (c : Code) (Z : State → Prop) (H : Heap) (locs : List Loc) (ls : Array Slot) (cells slots mc ms : Nat) : Prop :=
  Cx g d y p l R s m args meth c ∧ RepC g N ν M H ∧ va_S (AG g) s.heap H locs ∧ LH ls y.2.2.1 L ∧ (cells + kc ≤ mc ∧ slots + ks ≤ ms ∧ mc ≤ R.cells ∧ ms ≤ R.slots) ∧ meth.name = y.1.name ∧ ExC g s ∧
  (∀ (pc' : Nat) (L' : List (Option Value)) (st' : List Value) (N' : Nat) (ν' : NU) (M' : Mem) (kc' ks' : Nat) (H' : Heap) (locs' : List Loc) (ls' : Array Slot) (cells' slots' : Nat), Q pc' L' st' N' ν' M' kc' ks' → RepC g N' ν' M' H' → va_S (AG g) s.heap H' locs' → LH ls' y.2.2.1 L' → cells' + kc' ≤ mc → slots' + ks' ≤ ms → W p l e R s m args below meth c H' locs' cells' slots' Z (F0 m pc' ls' st'))
def WPc (g : GG) (d : Nat) (y : Mth) (pc : Nat) (L : List (Option Value)) (st : List Value) (N : Nat) (ν : NU) (M : Mem) (kc ks : Nat) (Q : QC) : Prop :=
  ∀ (p : Program) (l : Launch) (e : Env) (R : Room) (s : State) (m : MethodId) (args : Array Value) (below : List Frame) (meth : Method) (c : Code) (Z : State → Prop) (H : Heap) (locs : List Loc) (ls : Array Slot) (cells slots mc ms : Nat),
    Sc g d y L N ν M kc ks Q p l e R s m args below meth c Z H locs ls cells slots mc ms → W p l e R s m args below meth c H locs cells slots Z (F0 m pc ls st)
theorem arrV_cg {cI : ClassId} {n : Nat} {f f' : Nat → Value} (h : ∀ j, j < n → f j = f' j) : arrV cI n f = arrV cI n f' := by
  unfold arrV
  congr 2
  funext j
  exact h j.val j.isLt
section RowsC
variable {g : GG} {d : Nat} {y : Mth} {pc : Nat} {L L' : List (Option Value)} {st : List Value} {N : Nat} {ν : NU} {M : Mem} {kc ks : Nat} {Q : QC}
theorem C_exit (h : Q pc L st N ν M kc ks) : WPc g d y pc L st N ν M kc ks Q := fun p l e R s m args below meth c Z H locs ls cells slots mc ms S => S.2.2.2.2.2.2.2 pc L st N ν M kc ks H locs ls cells slots h S.2.1 S.2.2.1 S.2.2.2.1 S.2.2.2.2.1.1 S.2.2.2.2.1.2.1
/-- the same world by other words -/
theorem C_to {ν' : NU} {M' : Mem} (hM : ∀ i, i < N → M'.1 i = M.1 i) (h2 : M'.2 = M.2) (hν : ∀ i k, i < N → ((kd i = 10 ∧ k < ln i) ∨ (kd i < 8 ∧ isI (kd i) k = false ∧ k < nfC (kd i))) → ν' i k = ν i k) (k : WPc g d y pc L st N ν' M' kc ks Q) : WPc g d y pc L st N ν M kc ks Q := fun p l e R s m args below meth c Z H locs ls cells slots mc ms S => k p l e R s m args below meth c Z H locs ls cells slots mc ms ⟨S.1, S.2.1.to hM h2 hν, S.2.2⟩

theorem C_iconst {n : Int} {v : Int32} (hd : decode y.2.1 pc = .ok (.iconst n, 1)) (hv : Int32.ofInt n = v) (k : WPc g d y (pc + 1) L (.int v :: st) N ν M kc ks Q) : WPc g d y pc L (st) N ν M kc ks Q := fun p l e R s m args below meth c Z H locs ls cells slots mc ms S => lv_iconst S.1.1 S.1.2.1 hd hv (k p l e R s m args below meth c Z H locs ls cells slots mc ms S)
theorem C_bipush {n : Int} {v : Int32} (hd : decode y.2.1 pc = .ok (.bipush n, 2)) (hv : (Int8.ofInt n).toInt32 = v) (k : WPc g d y (pc + 2) L (.int v :: st) N ν M kc ks Q) : WPc g d y pc L (st) N ν M kc ks Q := fun p l e R s m args below meth c Z H locs ls cells slots mc ms S => lv_bipush S.1.1 S.1.2.1 hd hv (k p l e R s m args below meth c Z H locs ls cells slots mc ms S)
theorem C_sipush {n : Int} {v : Int32} (hd : decode y.2.1 pc = .ok (.sipush n, 3)) (hv : (Int16.ofInt n).toInt32 = v) (k : WPc g d y (pc + 3) L (.int v :: st) N ν M kc ks Q) : WPc g d y pc L (st) N ν M kc ks Q := fun p l e R s m args below meth c Z H locs ls cells slots mc ms S => lv_sipush S.1.1 S.1.2.1 hd hv (k p l e R s m args below meth c Z H locs ls cells slots mc ms S)
theorem C_iadd {x y1 : Int32} (hd : decode y.2.1 pc = .ok (.iadd, 1)) (k : WPc g d y (pc + 1) L (.int (x + y1) :: st) N ν M kc ks Q) : WPc g d y pc L (.int y1 :: .int x :: st) N ν M kc ks Q := fun p l e R s m args below meth c Z H locs ls cells slots mc ms S => lv_iadd S.1.1 S.1.2.1 hd (k p l e R s m args below meth c Z H locs ls cells slots mc ms S)
theorem C_dup {v : Value} (hd : decode y.2.1 pc = .ok (.dup, 1)) (hv : v.category = 1) (k : WPc g d y (pc + 1) L (v :: v :: st) N ν M kc ks Q) : WPc g d y pc L (v :: st) N ν M kc ks Q := fun p l e R s m args below meth c Z H locs ls cells slots mc ms S => lv_dup S.1.1 S.1.2.1 hd hv (k p l e R s m args below meth c Z H locs ls cells slots mc ms S)
theorem C_iload_n {k4 : Fin 4} {i : Nat} {x : Int32} (hd : decode y.2.1 pc = .ok (.iload_n k4, 1)) (hi : (k4 : Nat) = i) (hl : L[i]? = some (some (.int x))) (k : WPc g d y (pc + 1) L (.int x :: st) N ν M kc ks Q) : WPc g d y pc L st N ν M kc ks Q := fun p l e R s m args below meth c Z H locs ls cells slots mc ms S => lv_iload_n S.1.1 S.1.2.1 hd hi (S.2.2.2.1.2.2 i _ hl) (k p l e R s m args below meth c Z H locs ls cells slots mc ms S)
theorem C_aload_n {k4 : Fin 4} {i : Nat} {x : Nat} (hd : decode y.2.1 pc = .ok (.aload_n k4, 1)) (hi : (k4 : Nat) = i) (hl : L[i]? = some (some (.ref x))) (k : WPc g d y (pc + 1) L (.ref x :: st) N ν M kc ks Q) : WPc g d y pc L st N ν M kc ks Q := fun p l e R s m args below meth c Z H locs ls cells slots mc ms S => lv_aload_n S.1.1 S.1.2.1 hd hi (S.2.2.2.1.2.2 i _ hl) (k p l e R s m args below meth c Z H locs ls cells slots mc ms S)
theorem C_istore_n {k4 : Fin 4} {i : Nat} {x : Int32} (hd : decode y.2.1 pc = .ok (.istore_n k4, 1)) (hi : (k4 : Nat) = i) (hn : i < y.2.2.1) (hl : set1 L i (.int x) = L') (k : WPc g d y (pc + 1) L' st N ν M kc ks Q) : WPc g d y pc L (.int x :: st) N ν M kc ks Q := fun p l e R s m args below meth c Z H locs ls cells slots mc ms S => lv_istore_n S.1.1 S.1.2.1 hd hi S.2.2.2.1.has hn rfl (fun ls' h => k p l e R s m args below meth c Z H locs ls' cells slots mc ms ⟨S.1, S.2.1, S.2.2.1, hl ▸ set1_LH h, S.2.2.2.2⟩)
theorem C_istore {i : Nat} {x : Int32} (hd : decode y.2.1 pc = .ok (.istore i, 2)) (hn : i < y.2.2.1) (hl : set1 L i (.int x) = L') (k : WPc g d y (pc + 2) L' st N ν M kc ks Q) : WPc g d y pc L (.int x :: st) N ν M kc ks Q := fun p l e R s m args below meth c Z H locs ls cells slots mc ms S => lv_istore S.1.1 S.1.2.1 hd S.2.2.2.1.has hn rfl (fun ls' h => k p l e R s m args below meth c Z H locs ls' cells slots mc ms ⟨S.1, S.2.1, S.2.2.1, hl ▸ set1_LH h, S.2.2.2.2⟩)
theorem C_astore_n {k4 : Fin 4} {i : Nat} {x : Nat} (hd : decode y.2.1 pc = .ok (.astore_n k4, 1)) (hi : (k4 : Nat) = i) (hn : i < y.2.2.1) (hl : set1 L i (.ref x) = L') (k : WPc g d y (pc + 1) L' st N ν M kc ks Q) : WPc g d y pc L (.ref x :: st) N ν M kc ks Q := fun p l e R s m args below meth c Z H locs ls cells slots mc ms S => lv_astore_n S.1.1 S.1.2.1 hd hi S.2.2.2.1.has hn rfl (fun ls' h => k p l e R s m args below meth c Z H locs ls' cells slots mc ms ⟨S.1, S.2.1, S.2.2.1, hl ▸ set1_LH h, S.2.2.2.2⟩)
theorem C_astore {i : Nat} {x : Nat} (hd : decode y.2.1 pc = .ok (.astore i, 2)) (hn : i < y.2.2.1) (hl : set1 L i (.ref x) = L') (k : WPc g d y (pc + 2) L' st N ν M kc ks Q) : WPc g d y pc L (.ref x :: st) N ν M kc ks Q := fun p l e R s m args below meth c Z H locs ls cells slots mc ms S => lv_astore S.1.1 S.1.2.1 hd S.2.2.2.1.has hn rfl (fun ls' h => k p l e R s m args below meth c Z H locs ls' cells slots mc ms ⟨S.1, S.2.1, S.2.2.1, hl ▸ set1_LH h, S.2.2.2.2⟩)
theorem C_iinc {i : Nat} {n : Int} {x v : Int32} (hd : decode y.2.1 pc = .ok (.iinc i n, 3)) (hi : L[i]? = some (some (.int x))) (hv : x + Int32.ofInt n = v) (hn : i < y.2.2.1) (hl : set1 L i (.int v) = L') (k : WPc g d y (pc + 3) L' st N ν M kc ks Q) : WPc g d y pc L st N ν M kc ks Q := fun p l e R s m args below meth c Z H locs ls cells slots mc ms S => by
  obtain ⟨j, hj⟩ := List.getElem?_of_mem (asc_mem.mpr hi)
  exact lv_iinc S.1.1 S.1.2.1 hd S.2.2.2.1.has hj hv hn rfl (fun ls' h => k p l e R s m args below meth c Z H locs ls' cells slots mc ms ⟨S.1, S.2.1, S.2.2.1, hl ▸ set1_LH h, S.2.2.2.2⟩)
theorem C_goto {off : Int} {tgt : Nat} (hd : decode y.2.1 pc = .ok (.goto off, 3)) (ht : (pc : Int) + off = (tgt : Int)) (k : WPc g d y tgt L st N ν M kc ks Q) : WPc g d y pc L st N ν M kc ks Q := fun p l e R s m args below meth c Z H locs ls cells slots mc ms S => lv_goto S.1.1 S.1.2.1 hd ht (k p l e R s m args below meth c Z H locs ls cells slots mc ms S)
theorem C_icmp_ge {x y1 : Int32} {off : Int} {tgt : Nat} (hd : decode y.2.1 pc = .ok (.if_icmp .ge off, 3)) (ht : (pc : Int) + off = (tgt : Int)) (kt : y1 ≤ x → WPc g d y tgt L st N ν M kc ks Q) (kf : ¬ y1 ≤ x → WPc g d y (pc + 3) L st N ν M kc ks Q) : WPc g d y pc L (.int y1 :: .int x :: st) N ν M kc ks Q := fun p l e R s m args below meth c Z H locs ls cells slots mc ms S => lv_icmp_ge S.1.1 S.1.2.1 hd ht (fun h => kt h p l e R s m args below meth c Z H locs ls cells slots mc ms S) (fun h => kf h p l e R s m args below meth c Z H locs ls cells slots mc ms S)
theorem C_sub {L' : List (Option Value)} {kc' ks' : Nat} (k : WPc g d y pc L' st N ν M kc' ks' Q) (hk : kc' ≤ kc) (hk2 : ks' ≤ ks) (hs : lsub L' L) : WPc g d y pc L st N ν M kc ks Q := by
  intro p l e R s m args below meth c Z H locs ls cells slots mc ms S
  obtain ⟨hC, hP, hS, hL, hB, hn, hR⟩ := S
  exact k p l e R s m args below meth c Z H locs ls cells slots mc ms ⟨hC, hP, hS, ⟨hL.1, hL.2.1, fun i v h => hL.2.2 i v (lsub_at _ _ hs i v h)⟩, ⟨by omega, by omega, hB.2.2.1, hB.2.2.2⟩, hn, hR⟩
theorem aw_oi : Cond.instanceMethod objectInit ∈ AW := aw_t 30 (by decide +kernel) (by decide +kernel)
theorem aw_oc : Cond.code objectInit ⟨#[0xb1]⟩ 1 none ∈ AW := aw_t 31 (by decide +kernel) (by decide +kernel)
theorem C_objInit {own : String} {idx : Nat} {i : Nat} (hy : y.1.cls = own) (hlink : Cond.methodLink own idx objectInit ∈ AW) (hst : (st.map fun v => v.category).sum ≤ 8) (hdd : 1 ≤ d) (hd : decode y.2.1 pc = .ok (.invokespecial idx, 3)) (k : WPc g d y (pc + 3) L st N ν M kc ks Q) : WPc g d y pc L (.ref i :: st) N ν M kc ks Q := fun p l e R s m args below meth c Z H locs ls cells slots mc ms S => by
  have hfr := S.1.2.2.2.2.2.2.2.2.2.2
  exact W.objInit S.1.1 S.1.2.1 (hy ▸ S.1.2.2.2.2.1) (S.1.2.2.2.2.2.1 _ hlink) (S.1.2.2.2.2.2.1 _ aw_oi) (S.1.2.2.2.2.2.1 _ aw_oc) rfl (S.2.2.2.1.1.trans S.1.2.2.2.1.symm) rfl hd (by omega) (by show 2 * 0 + (st.map fun v => v.category).sum + 12 ≤ R.locals; omega) (k p l e R s m args below meth c Z H locs ls cells slots mc ms S)
theorem C_getR {own : String} {idx c k i : Nat} {C : String} {T : u_T} {ty : Nat → FieldType} (hf : fldOK own idx c k C T ty) (hy : y.1.cls = own) (hI : isI c k = false) (hk : kd i = c) (hi : i < N) (hν : ν i k = true) (hd : decode y.2.1 pc = .ok (.getfield idx, 3)) (kk : WPc g d y (pc + 3) L (.ref (g.1 + rf i k) :: st) N ν M kc ks Q) : WPc g d y pc L (.ref (g.1 + i) :: st) N ν M kc ks Q := fun p l e R s m args below meth c0 Z H locs ls cells slots mc ms S => by
  obtain ⟨⟨h1, h2, h3, h4, h5⟩, h6, h7⟩ := hf
  obtain ⟨q0, hq⟩ := plG_at (cellC g ν M) N g hi
  rw [cellC_o g ν M hk h1] at hq
  exact va_get (D := g.2.1) (v := .ref (g.1 + rf i k)) S.1.1 S.1.2.1 S.1.2.2.2.2.2.1 h3 (hy ▸ S.1.2.2.2.2.1) S.1.2.2.2.2.2.2.2.2.2.1.2.1 S.2.1.1 q0 hq h2 k h6 (S.1.2.2.2.2.2.1 _ h7) (fun _ h9 => h9) ((flC_at g ν M i c k h6).trans (by rw [if_neg (by rw [hI]; decide), if_pos hν])) hd (kk p l e R s m args below meth c0 Z H locs ls cells slots mc ms S)
/-- a field of an object under construction is written: v at its place k -/
theorem C_put0 {own : String} {idx c k i : Nat} {C : String} {T : u_T} {ty : Nat → FieldType} {v : Value} {ν' : NU} {M' : Mem} (hf : fldOK own idx c k C T ty) (hy : y.1.cls = own) (hfin : (T k).2.2.2 = false ∨ (y.1.name = "<init>" ∧ (T k).1 = own)) (hk : kd i = c) (hi : i < N) (hn : narrow (ty k) v = v) (hfit : fits (ty k) v = true) (hfl : (flC g ν M i c).set k v = flC g ν' M' i c) (hM : ∀ j, j ≠ i → M'.1 j = M.1 j) (hM2 : M'.2 = M.2) (hν : ∀ j, j ≠ i → ν' j = ν j) (hd : decode y.2.1 pc = .ok (.putfield idx, 3)) (kk : WPc g d y (pc + 3) L st N ν' M' kc ks Q) : WPc g d y pc L (v :: .ref (g.1 + i) :: st) N ν M kc ks Q := fun p l e R s m args below meth c0 Z H locs ls cells slots mc ms S => by
  obtain ⟨⟨h1, h2, h3, h4, h5⟩, h6, h7⟩ := hf
  obtain ⟨q0, hq⟩ := plG_at (cellC g ν M) N g hi
  have hq2 := hq
  rw [cellC_o g ν M hk h1] at hq
  have hts := S.1.2.2.2.2.2.1
  have hK := S.1.2.2.2.2.2.2.2.2.2.1.2.1
  have hown : s.vm.findClass own = some m.cls := hy ▸ S.1.2.2.2.2.1
  have hP := S.2.1.1
  have hap := va_apart (own := own) hts h3 ty h4 h5 hK h2
  obtain ⟨r, g1, cell, g2, g3, g4, g5⟩ := hP q0 _ hq
  have hr : r = (C, T, nfC c) := Option.some.inj (g1.symm.trans h2)
  subst hr
  obtain ⟨hSl, hfc, kC, hkC, hkind⟩ := hK.1 c _ h2
  obtain ⟨cf, kf, fi, f, hif, hsl⟩ := hSl k h6
  have hlay := hts _ (h3 _ (u_in_lay h6))
  have hst := (u_facts hfc hkC (u_lays hts h3 h6) hif).1
  have fin : ∀ H1 : Heap, H1[g.1 + i]? = some (cell.setSlot f.slot v) → H1.size = H.size → (∀ q : Nat, q ≠ g.1 + i → H1[q]? = H[q]?) → W p l e R s m args below meth c0 H1 (locs ++ [⟨g.1 + i, f.slot⟩]) cells slots Z (F0 m (pc + 3) ls st) := by
    intro H1 e1 e2 e3
    rw [hsl] at e1
    have w1 := hP.set (plG_D _ N g) hq (e := .inr (c, (flC g ν M i c).set k v)) ⟨_, h2, t_OB.to (V := updV (vp_V (flC g ν M i c)) k v) ⟨_, e1, g3, g4, t_set g5 hap h6 v⟩ (fun j _ => vp_updV_set (by rw [flC_len]; exact h6) v j)⟩ e3
    rw [hfl, plG_set (f' := cellC g ν' M') hi hq2 (cellC_o g _ _ hk h1) (fun j hj => cellC_ne g (hM j hj) hM2 (hν j hj))] at w1
    exact kk p l e R s m args below meth c0 Z H1 _ ls cells slots mc ms ⟨S.1, ⟨w1, e2.trans S.2.1.2⟩, S.2.2.1.put e2 e3 (Nat.le_add_right _ _), S.2.2.2⟩
  unfold u_lay at hlay
  rcases hfin with hfin | ⟨hin, hdecl⟩
  · rw [if_neg (by rw [hfin]; decide)] at hlay
    have w6 := u_store hfc hkC hkind hlay hif (h4 k h6) hn hfit
    exact W.putK S.1.1 S.1.2.1 (f := f) ⟨hown, hts _ h7, ⟨_, _, _, hif⟩, hst⟩ (by rw [g3]; exact w6) g2 g4 (by rw [hsl]; exact k2_hasslot (g5 k h6)) rfl rfl hd fin
  · by_cases hff : (T k).2.2.2 = true
    · rw [if_pos hff] at hlay
      have hcf : m.cls = cf := by
        obtain ⟨_, _, c', _, _, _, -, -, hf', -, -, -, hown2, -⟩ := Cond.laysFinal_spec hlay
        have e1 : c' = cf := by have := hif.symm.trans hf'; simp at this; exact this.1.symm
        rw [hdecl] at hown2
        rw [← e1]; exact Option.some.inj (hown.symm.trans hown2)
      have w6 := u_fits hfc hkC hkind (Or.inr hlay) hif (h4 k h6) hn hfit
      exact W.putFinK S.1.1 S.1.2.1 hown (hts _ h7) hif hst hcf (S.2.2.2.2.2.1.trans hin) (by rw [g3]; exact w6) g2 g4 (by rw [hsl]; exact k2_hasslot (g5 k h6)) rfl rfl hd fin
    · rw [if_neg hff] at hlay
      have w6 := u_store hfc hkC hkind hlay hif (h4 k h6) hn hfit
      exact W.putK S.1.1 S.1.2.1 (f := f) ⟨hown, hts _ h7, ⟨_, _, _, hif⟩, hst⟩ (by rw [g3]; exact w6) g2 g4 (by rw [hsl]; exact k2_hasslot (g5 k h6)) rfl rfl hd fin
theorem C_putI {own : String} {idx c k i : Nat} {C : String} {T : u_T} {ty : Nat → FieldType} {v : Int32} (hf : fldOK own idx c k C T ty) (hy : y.1.cls = own) (hI : isI c k = true) (hfin : (T k).2.2.2 = false ∨ (y.1.name = "<init>" ∧ (T k).1 = own)) (hk : kd i = c) (hi : i < N) (hn : narrow (ty k) (.int v) = .int v) (hfit : fits (ty k) (.int v) = true) (hd : decode y.2.1 pc = .ok (.putfield idx, 3)) (kk : WPc g d y (pc + 3) L st N ν (mset M i k v) kc ks Q) : WPc g d y pc L (.int v :: .ref (g.1 + i) :: st) N ν M kc ks Q :=
  C_put0 hf hy hfin hk hi hn hfit (flC_set g ν M i c k v hI) (fun j hj => mset_ne hj) rfl (fun _ _ => rfl) hd kk
theorem C_putR {own : String} {idx c k i j : Nat} {C : String} {T : u_T} {ty : Nat → FieldType} (hf : fldOK own idx c k C T ty) (hy : y.1.cls = own) (hI : isI c k = false) (hfin : (T k).2.2.2 = false ∨ (y.1.name = "<init>" ∧ (T k).1 = own)) (hk : kd i = c) (hi : i < N) (hj : rf i k = j) (hn : narrow (ty k) (.ref (g.1 + j)) = .ref (g.1 + j)) (hfit : fits (ty k) (.ref (g.1 + j)) = true) (hd : decode y.2.1 pc = .ok (.putfield idx, 3)) (kk : WPc g d y (pc + 3) L st N (nuset ν i k) M kc ks Q) : WPc g d y pc L (.ref (g.1 + j) :: .ref (g.1 + i) :: st) N ν M kc ks Q := by
  subst hj
  exact C_put0 hf hy hfin hk hi hn hfit (flC_setR g ν M i c k hI) (fun _ _ => rfl) rfl (fun j hj => nuset_ne hj) hd kk
theorem C_iast {i : Nat} {j v : Int32} (hk : kd i = 9) (hi : i < N) (hin : vp_in j (ln i)) (hd : decode y.2.1 pc = .ok (.iastore, 1)) (kk : WPc g d y (pc + 1) L st N ν (mset M i j.toNatClampNeg v) kc ks Q) : WPc g d y pc L (.int v :: .int j :: .ref (g.1 + i) :: st) N ν M kc ks Q := fun p l e R s m args below meth c0 Z H locs ls cells slots mc ms S => by
  obtain ⟨q0, hq⟩ := plG_at (cellC g ν M) N g hi
  have hq2 := hq
  rw [cellC_n g ν M (by omega) (by omega), cell_9 g M hk] at hq
  have hK := S.1.2.2.2.2.2.2.2.2.2.1.2.1
  have hP := S.2.1.1
  have hlt : j.toNatClampNeg < ln i := Nat.not_le.mp fun q => hin (Or.inr q)
  have h0 : ¬ j < 0 := fun q => hin (Or.inl q)
  refine W.iast S.1.1 S.1.2.1 (hP q0 _ hq) ((hK.2 1 _ rfl).1 (ln i) (fun k => .int (M.1 i k))) (fun q => by cases q) (by show ¬ (j < 0 ∨ (arrV _ _ _).slots.size ≤ _); rw [arrV_size]; exact hin) rfl rfl hd fun H1 e1 e2 e3 => ?_
  have w1 := hP.set (plG_D _ N g) hq (e := .inl (g.2.2.1 1, ln i, .inl (upd (M.1 i) j.toNatClampNeg v))) (by
    show H1[g.1 + i]? = some (vp_cell _ _)
    rw [e1, vp_cell_i, vp_cell_i, arrV_store]
    congr 2
    funext q
    by_cases hq9 : q = j.toNatClampNeg
    · subst hq9
      simp [updV, pk_us]
    · simp [updV, pk_un hq9, hq9]) e3
  rw [plG_set (f' := cellC g ν (mset M i j.toNatClampNeg v)) hi hq2 (by rw [cellC_n g ν _ (by omega) (by omega), cell_9 g _ hk, mset_at]) (fun k hk => cellC_ne g (mset_ne hk) rfl rfl)] at w1
  exact kk p l e R s m args below meth c0 Z H1 _ ls cells slots mc ms ⟨S.1, ⟨w1, e2.trans S.2.1.2⟩, S.2.2.1.put e2 e3 (Nat.le_add_right _ _), S.2.2.2⟩
/-- an object goes into a row of objects -/
theorem C_aast {i v : Nat} {j : Int32} (hk : kd i = 10) (hi : i < N) (hv : v < N) (hkv : kd v = 3) (hrf : rf i j.toNatClampNeg = v) (hin : vp_in j (ln i)) (hd : decode y.2.1 pc = .ok (.aastore, 1)) (kk : WPc g d y (pc + 1) L st N (nuset ν i j.toNatClampNeg) M kc ks Q) : WPc g d y pc L (.ref (g.1 + v) :: .int j :: .ref (g.1 + i) :: st) N ν M kc ks Q := fun p l e R s m args below meth c0 Z H locs ls cells slots mc ms S => by
  subst hrf
  obtain ⟨q0, hq⟩ := plG_at (cellC g ν M) N g hi
  obtain ⟨q1, hq1⟩ := plG_at (cellC g ν M) N g hv
  have hq2 := hq
  rw [cellC_10 g ν M hk] at hq
  rw [cellC_o g ν M hkv (by omega)] at hq1
  have hK := S.1.2.2.2.2.2.2.2.2.2.1.2.1
  have hP := S.2.1.1
  have hlt : j.toNatClampNeg < ln i := Nat.not_le.mp fun q => hin (Or.inr q)
  have h0 : ¬ j < 0 := fun q => hin (Or.inl q)
  obtain ⟨r', hr', cellV, g1, g2, g3, -⟩ := hP q1 _ hq1
  have hcls := (hK.1 3 _ rfl).2
  obtain ⟨kA, comp, k1, k2, k3, -⟩ := (hK.2 2 _ rfl).2
  have hcomp : comp = g.2.1.1 3 := Option.some.inj (k3.symm.trans hcls.1)
  subst hcomp
  obtain ⟨kC, hkC, -⟩ := hcls.2
  refine W.aast S.1.1 S.1.2.1 (hP q0 _ hq) (fun q h => by cases h) (fun h => by cases h) k1 k2 rfl hkC ⟨h0, by show _ < (arrV _ _ _).slots.size; rw [arrV_size]; exact hlt⟩ g1 (fun q h => by rw [g3] at h; cases h) (by rw [g2]; exact hkC) (by rw [g2]; exact va_assign hcls) rfl rfl hd fun H1 e1 e2 e3 => ?_
  have w1 := hP.set (plG_D _ N g) hq (e := .inl (g.2.2.1 2, ln i, .inr (.inr (.inr (.inr (fun q => if nuset ν i j.toNatClampNeg i q = true ∨ ln i ≤ q then some (g.1 + rf i q) else none)))))) (by
    show H1[g.1 + i]? = some (vp_cell _ _)
    rw [e1, vp_cell_q, vp_cell_q, arrV_store]
    congr 2
    funext q
    by_cases hq9 : q = j.toNatClampNeg
    · subst hq9
      simp [updV, nuset, va_rf]
    · simp [updV, nuset, hq9]) e3
  rw [plG_set (f' := cellC g (nuset ν i j.toNatClampNeg) M) hi hq2 (cellC_10 g _ _ hk) (fun k hk => cellC_ne g rfl rfl (nuset_ne hk))] at w1
  exact kk p l e R s m args below meth c0 Z H1 _ ls cells slots mc ms ⟨S.1, ⟨w1, e2.trans S.2.1.2⟩, S.2.2.1.put e2 e3 (Nat.le_add_right _ _), S.2.2.2⟩
/-- a row of objects is made -/
theorem C_anew {own : String} {idx n : Nat} {n0 : Int32} (hy : y.1.cls = own) (hlink : Cond.classLink own idx "VisitBooking$State" ∈ AW) (hk : kd N = 10) (hl : ln N = n) (hν : ∀ k, ν N k = false) (h0 : ¬ n0 < 0) (hn : n0.toNatClampNeg = n) (hb : n * 4 ≤ 536870912) (hkc : 1 ≤ kc) (hks : n ≤ ks) (hd : decode y.2.1 pc = .ok (.anewarray idx, 3)) (kk : WPc g d y (pc + 3) L (.ref (g.1 + N) :: st) (N + 1) ν M (kc - 1) (ks - n) Q) : WPc g d y pc L (.int n0 :: st) N ν M kc ks Q := fun p l e R s m args below meth c0 Z H locs ls cells slots mc ms S => by
  subst hn
  have hts := S.1.2.2.2.2.2.1
  have hK := S.1.2.2.2.2.2.2.2.2.2.1.2.1
  have hB := S.2.2.2.2.1
  refine W.anew S.1.1 S.1.2.1 (hy ▸ S.1.2.2.2.2.1) (hts _ hlink) S.2.2.2.2.2.2.1.1.use rfl hd rfl h0 hb (by omega) (by omega) fun cA kA comp f1 f2 f3 f4 => ?_
  generalize hH1 : H.push ({ cls := cA, slots := Array.replicate n0.toNatClampNeg .null, vm := .none } : Cell) = H1
  have z1 : H1.size = H.size + 1 := by rw [← hH1, Array.size_push]
  have e1 : H1[H.size]? = some (arrV cA n0.toNatClampNeg (fun _ => .null)) := by rw [← hH1, Array.getElem?_push_size, ← arrV_new]
  have o1 : ∀ q : Nat, q < H.size → H1[q]? = H[q]? := fun q hq => by rw [← hH1, Array.getElem?_push, if_neg (Nat.ne_of_lt hq)]
  have hcc : cA = g.2.2.1 2 := by
    obtain ⟨kA9, comp9, k1, k2, k3, k4⟩ := (hK.2 2 _ rfl).2
    exact Option.some.inj (f1.symm.trans k4)
  have w1 : va_P g.2.1 cls (plG (cellC g ν M) (N + 1) g) H1 := plG_P S.2.1.1 S.2.1.2 o1 (by
    rw [cellC_10 g ν M hk, hl]
    show H1[g.1 + N]? = some (vp_cell _ _)
    rw [← S.2.1.2, e1, vp_cell_q, hcc]
    refine congrArg some (arrV_cg (fun j hj => ?_))
    rw [hν j, if_neg (by simp; omega)]; rfl)
  have w2 := kk p l e R s m args below meth c0 Z H1 locs ls (cells + 1) (slots + n0.toNatClampNeg) mc ms ⟨S.1, ⟨w1, by rw [z1, S.2.1.2]; omega⟩, ⟨Nat.le_trans S.2.2.1.1 (by omega), fun x g1 g2 => (o1 x (by have := S.2.2.1.1; omega)).trans (S.2.2.1.2.1 x g1 g2), S.2.2.1.2.2⟩, S.2.2.2.1, ⟨by omega, by omega, hB.2.2.1, hB.2.2.2⟩, S.2.2.2.2.2⟩
  rw [S.2.1.2]
  exact w2
/-- the outer row, with its first i places filled -/
def mulO (c : ClassId) (n b i : Nat) : Cell := arrV c n (fun j => if j < i then .ref (b + 1 + j) else .null)
theorem mulO_sz {c : ClassId} {n b i : Nat} : (mulO c n b i).slots.size = n := arrV_size _ _ _
theorem mulO_at {c : ClassId} {n b i j : Nat} (hj : j < n) : (mulO c n b i).slots[j]? = some (if j < i then .ref (b + 1 + j) else .null) := by
  unfold mulO arrV
  simp [hj]
theorem mulO_s {c : ClassId} {n b i : Nat} : (mulO c n b i).setSlot i (.ref (b + 1 + i)) = mulO c n b (i + 1) := by
  have e : (mulO c n b i).slots.setIfInBounds i (.ref (b + 1 + i)) = (mulO c n b (i + 1)).slots := by
    refine Array.ext (by rw [Array.size_setIfInBounds, mulO_sz, mulO_sz]) (fun j h1 h2 => ?_)
    have hj : j < n := by rw [mulO_sz] at h2; exact h2
    have e2 := mulO_at (c := c) (b := b) (i := i + 1) hj
    rw [Array.getElem?_eq_getElem h2] at e2
    have e1 := mulO_at (c := c) (b := b) (i := i) hj
    have h3 : j < (mulO c n b i).slots.size := by rw [mulO_sz]; exact hj
    rw [Array.getElem?_eq_getElem h3] at e1
    rw [Option.some.inj e2, Array.getElem_setIfInBounds]
    by_cases q : i = j
    · subst q; rw [if_pos rfl, if_pos (by omega)]
    · rw [if_neg q, Option.some.inj e1]
      by_cases q2 : j < i
      · rw [if_pos q2, if_pos (by omega)]
      · rw [if_neg q2, if_neg (by omega)]
    exact h3
  show ({ (mulO c n b i) with slots := (mulO c n b i).slots.setIfInBounds i (.ref (b + 1 + i)) } : Cell) = _
  rw [e]
  rfl
/-- the machine with i inner rows made and stored -/
def mulS (U : State) (c k : ClassId) (n w : Nat) : Nat → State
  | 0 => U.pushCell (mulO c n U.heap.size 0)
  | i + 1 => ((mulS U c k n w i).pushCell (arrV k w (fun _ => .int 0))).setCell U.heap.size (mulO c n U.heap.size (i + 1))
theorem mulS_top {U : State} {f : JFrame} {c k : ClassId} {n w : Nat} : ∀ i, mulS (U.setTop f) c k n w i = (mulS U c k n w i).setTop f
  | 0 => rfl
  | i + 1 => by unfold mulS; rw [mulS_top i]; rfl
theorem mulS_f {U : State} {c k : ClassId} {n w : Nat} : ∀ i, (mulS U c k n w i).heap.size = U.heap.size + 1 + i ∧ (mulS U c k n w i).heap[U.heap.size]? = some (mulO c n U.heap.size i) ∧ (mulS U c k n w i).vm = U.vm ∧ (mulS U c k n w i).slotsUsed = U.slotsUsed + n + i * w ∧ (∀ q, q < U.heap.size → (mulS U c k n w i).heap[q]? = U.heap[q]?) ∧ (∀ j, j < i → (mulS U c k n w i).heap[U.heap.size + 1 + j]? = some (arrV k w (fun _ => .int 0)))
  | 0 => by
    unfold mulS
    refine ⟨by simp, by simp, rfl, by rw [State.slotsUsed_pushCell, mulO_sz]; omega, fun q hq => ?_, fun j hj => absurd hj (Nat.not_lt_zero j)⟩
    rw [State.heap_pushCell, Array.getElem?_push, if_neg (by omega)]
  | i + 1 => by
    obtain ⟨f1, f2, f3, f4, f5, f6⟩ := mulS_f (U := U) (c := c) (k := k) (n := n) (w := w) i
    unfold mulS
    refine ⟨by rw [State.heap_setCell, Array.size_setIfInBounds, State.heap_pushCell, Array.size_push, f1]; omega, ?_, f3, ?_, fun q hq => ?_, fun j hj => ?_⟩
    · rw [State.heap_setCell, State.heap_pushCell, Array.getElem?_setIfInBounds, if_pos rfl, if_pos (by rw [Array.size_push, f1]; omega)]
    · rw [State.slotsUsed_setCell, State.slotsUsed_pushCell, f4, arrV_size, Nat.succ_mul]; omega
    · rw [State.heap_setCell, State.heap_pushCell, Array.getElem?_setIfInBounds, if_neg (by omega), Array.getElem?_push, if_neg (by rw [f1]; omega)]
      exact f5 q hq
    · rw [State.heap_setCell, State.heap_pushCell, Array.getElem?_setIfInBounds, if_neg (by omega), Array.getElem?_push, f1]
      by_cases q : j = i
      · rw [if_pos (by omega)]
      · rw [if_neg (by omega)]
        exact f6 j (by omega)
theorem mulS_X {p : Program} {l : Launch} {e : Env} {R : Room} {s : State} {m : MethodId} {args : Array Value} {below : List Frame} {meth : Method} {cc : Code} {U : State} {locs : List Loc} {cells slots : Nat} (X : Stand p l e R s m args below meth cc U locs cells slots) {c k : ClassId} {n w : Nat} :
    ∀ i, ∃ ls : List Loc, (∀ q ∈ ls, q.base = U.heap.size) ∧ Stand p l e R s m args below meth cc (mulS U c k n w i) (locs ++ ls) (cells + 1 + i) (slots + n + i * w)
  | 0 => by
    have h := X.pushed (mulO c n U.heap.size 0)
    rw [mulO_sz] at h
    refine ⟨[], fun q hq => absurd hq List.not_mem_nil, ?_⟩
    rw [List.append_nil, Nat.zero_mul]
    exact h
  | i + 1 => by
    obtain ⟨ls, g1, g2⟩ := mulS_X X (c := c) (k := k) (n := n) (w := w) i
    obtain ⟨f1, f2, -⟩ := mulS_f (U := U) (c := c) (k := k) (n := n) (w := w) i
    have hc : ((mulS U c k n w i).pushCell (arrV k w (fun _ => .int 0))).heap[U.heap.size]? = some (mulO c n U.heap.size i) := by
      rw [State.heap_pushCell, Array.getElem?_push, if_neg (by rw [f1]; omega)]
      exact f2
    have h := (g2.pushed (arrV k w (fun _ => .int 0))).stored hc i (.ref (U.heap.size + 1 + i))
    rw [mulO_s, arrV_size] at h
    refine ⟨ls ++ [⟨U.heap.size, i⟩], fun q hq => ?_, ?_⟩
    · rcases List.mem_append.mp hq with z | z
      · exact g1 q z
      · rw [List.mem_singleton.mp z]
    · rw [← List.append_assoc, show cells + 1 + (i + 1) = cells + 1 + i + 1 by omega, show slots + n + (i + 1) * w = slots + n + i * w + w by rw [Nat.succ_mul]; omega]
      exact h
theorem mul_make {E : CtlPost} {e : Env} {d : Bool} {acts : List Action} {U : State} {Q : Addr → Pre} {c k cc : ClassId} {kc kk : Class} {n w : Int32} (hc : U.vm.classes[c]? = some kc) (hck : kc.kind = .array k (.array .int)) (hk : U.vm.classes[k]? = some kk) (hkk : kk.kind = .array cc .int) (hn : ¬ n < 0) (hw : ¬ w < 0)
    (l1 : ¬ n.toNatClampNeg > e.platform.arrayLengthLimit) (l2 : ¬ n.toNatClampNeg * 4 > e.platform.maxHeapBytes) (l3 : ¬ w.toNatClampNeg > e.platform.arrayLengthLimit) (l4 : ¬ w.toNatClampNeg * 4 > e.platform.maxHeapBytes)
    (r1 : U.heap.size + 1 + n.toNatClampNeg ≤ e.platform.maxCells) (r2 : U.slotsUsed + n.toNatClampNeg + n.toNatClampNeg * w.toNatClampNeg ≤ e.platform.maxSlots)
    (hq : ∀ d' acts', Q U.heap.size d' acts' (mulS U c k n.toNatClampNeg w.toNatClampNeg n.toNatClampNeg)) : wp (multianewarray.make c [n, w]) Q E e d acts U := by
  generalize hN : n.toNatClampNeg = N at l1 l2 r1 r2 hq
  generalize hW : w.toNatClampNeg = W' at l3 l4 r1 r2 hq
  rw [multianewarray.make]
  simp only [wp_bind', W.ite, hn, if_false, wp_pure', W.theClass, hc, hck, Option.some.injEq, exists_eq_left', hN]
  refine W.newArray_of hc hck l1 l2 (by omega) (by omega) rfl (fun acts1 => ?_)
  have e0 : U.pushCell { cls := c, slots := Array.replicate N .null } = mulS U c k N W' 0 := by
    unfold mulS mulO
    rw [arrV_new]
    refine congrArg U.pushCell (arrV_cg (fun j _ => ?_))
    rw [if_neg (Nat.not_lt_zero j)]
  rw [e0]
  simp only [show ([w].find? (· < 0)) = none by simp [hw], ite_self, wp_bind', wp_pure', Std.Legacy.Range.forIn_eq_forIn_range', show ([:N] : Std.Legacy.Range).size = N by simp [Std.Legacy.Range.size]]
  refine wp_forIn_inv (fun rest U' => ∃ i, i + rest.length = N ∧ rest = List.range' i rest.length ∧ U' = mulS U c k N W' i) _ _ ⟨0, by simp, by simp, rfl⟩ ?_ ?_
  · rintro x rest U' d' acts' Q' ⟨i, h1, h2, rfl⟩ next
    rw [List.length_cons] at h1 h2
    rw [List.range'_succ] at h2
    obtain ⟨rfl, h3⟩ := List.cons.inj h2
    obtain ⟨f1, f2, f3, f4, -, -⟩ := mulS_f (U := U) (c := c) (k := k) (n := N) (w := W') x
    have hmul : x * W' + W' ≤ N * W' := by
      have := Nat.mul_le_mul_right W' (show x + 1 ≤ N by omega)
      rw [Nat.succ_mul] at this
      exact this
    rw [multianewarray.make]
    simp only [wp_bind', W.ite, hw, if_false, wp_pure', W.theClass, f3, hk, hkk, Option.some.injEq, exists_eq_left', hW]
    refine W.newArray_of (by rw [f3]; exact hk) hkk l3 l4 (by rw [f1]; omega) (by rw [f4]; omega) rfl (fun acts2 => ?_)
    have e1 : ({ cls := k, slots := Array.replicate W' (defaultValue .int) } : Cell) = arrV k W' (fun _ => .int 0) := arrV_new _ _ _
    rw [e1]
    simp only [wp_bind', W.writeLoc, wp_pure']
    refine ⟨mulO c N U.heap.size x, ?_, ?_, by rw [mulO_sz]; omega, ?_, next _ _ _ ⟨x + 1, by omega, h3, ?_⟩⟩
    · rw [State.heap_pushCell, Array.getElem?_push, if_neg (by rw [f1]; omega)]
      exact f2
    · unfold mulO arrV
      simp
    · unfold mulO arrV
      simp [State.fitsSlot, State.slotType?, f3, hc, hck, fits]
    · rw [f1, mulO_s]
      rfl
  · rintro U' d' acts' ⟨i, h1, -, rfl⟩
    rw [show i = N from h1]
    exact hq _ _
theorem mul_step {p : Program} {l : Launch} {e : Env} {R : Room} {s : State} {m : MethodId} {args : Array Value} {below : List Frame} {meth : Method} {c : Code} {T : State} {locs : List Loc} {cells slots : Nat} (X : Stand p l e R s m args below meth c T locs cells slots) (hexec : p.tables.exec = Jvm.exec) {own : String} {index : Nat}
    (hown : s.vm.findClass own = some m.cls) (hclink : (Cond.classLink own index "[[I").before args s = true) {cA comp cc : ClassId} {kA kC : Class} (hnameA : s.vm.findClass "[[I" = some cA) (hkA : s.vm.classes[cA]? = some kA) (hkindA : kA.kind = .array comp (.array .int)) (hkC : s.vm.classes[comp]? = some kC) (hkindC : kC.kind = .array cc .int)
    {g : JFrame} (hg : g.method = m) (hdg : decode c.code g.pc = .ok (.multianewarray index 2, 4)) {n k : Int32} {rest : List Value} (hstack : g.stack = .int k :: .int n :: rest)
    (hn : ¬ n < 0) (hk : ¬ k < 0) (hb1 : n.toNatClampNeg ≤ 1000) (hb2 : k.toNatClampNeg ≤ 1000)
    (hcells : cells + (1 + n.toNatClampNeg) ≤ R.cells) (hslots : slots + (n.toNatClampNeg + n.toNatClampNeg * k.toNatClampNeg) ≤ R.slots) :
    ∃ (vm₁ : Vm) (ls : List Loc), (∀ q ∈ ls, q.base = T.heap.size) ∧ Stand p l e R s m args below meth c (mulS (T.setVm vm₁) cA comp n.toNatClampNeg k.toNatClampNeg n.toNatClampNeg) (locs ++ ls) (cells + 1 + n.toNatClampNeg) (slots + n.toNatClampNeg + n.toNatClampNeg * k.toNatClampNeg) ∧
      ∀ target, Steps p.tables e below ((mulS (T.setVm vm₁) cA comp n.toNatClampNeg k.toNatClampNeg n.toNatClampNeg).setTop { g with pc := g.pc + 4, stack := .ref T.heap.size :: rest }) target → Steps p.tables e below (T.setTop g) target := by
  subst hg
  obtain ⟨c0, hfc0, hcl⟩ := Cond.classLink_spec hown hclink e.platform (by rw [X.admits.platform])
  cases hnameA.symm.trans hfc0
  obtain ⟨q1, q2, -⟩ := State.classEntry (e := e) X.warmed hcl
  generalize T.vm.noted g.method.cls index (.cls cA) = vm₁ at q1 q2
  obtain ⟨kA₁, a1, a2⟩ := q2.alike.2.2 _ _ hkA
  obtain ⟨kC₁, b1, b2⟩ := q2.alike.2.2 _ _ hkC
  obtain ⟨r1, r2⟩ := X.roomAbove hcells hslots
  obtain ⟨ls, y1, Y⟩ := mulS_X (X.noted q2) (c := cA) (k := comp) (n := n.toNatClampNeg) (w := k.toNatClampNeg) n.toNatClampNeg
  refine ⟨vm₁, ls, y1, Y, fun target hrest => ?_⟩
  jvm_step X.here [hexec, hdg]
  simp only [multianewarray.sem, wp_bind', W.resolveClassAt_links (State.method?_setTop g X.here.top) q1]
  rw [W.popN, if_neg (by decide)]
  refine ⟨g, State.topJava?_setTop' (s := T.setVm vm₁) g X.here.top, [.int n, .int k], rest, rfl, hstack, ?_⟩
  simp only [List.mapM_cons, List.mapM_nil, wp_bind', wp_pure']
  rw [show ((T.setTop g).setVm vm₁).setTop { g with stack := rest } = (T.setVm vm₁).setTop { g with stack := rest } from by
    show ((T.setVm vm₁).setTop g).setTop _ = _
    rw [State.setTop_setTop]]
  refine mul_make a1 (by rw [a2]; exact hkindA) b1 (by rw [b2]; exact hkindC) hn hk (by rw [Launch.admits_arrayLengthLimit X.admits]; omega) (by rw [Launch.admits_maxHeapBytes X.admits]; omega) (by rw [Launch.admits_arrayLengthLimit X.admits]; omega) (by rw [Launch.admits_maxHeapBytes X.admits]; omega) (by show T.heap.size + 1 + _ ≤ _; omega) (by show T.slotsUsed + _ + _ ≤ _; omega) (fun d' acts' => ?_)
  rw [mulS_top]
  simp only [wp_bind', W.mark, W.pushRef, State.topJava?_setTop' _ Y.here.top, Option.some.injEq, exists_eq_left', State.setTop_setTop, State.heap_setTop]
  intro acts
  simp [jvm, Y.here.top]
  exact hrest
/-- a row of rows of numbers is made -/
theorem C_multi {own : String} {idx n w : Nat} {n0 w0 : Int32} (hy : y.1.cls = own) (hlink : Cond.classLink own idx "[[I" ∈ AW) (harr : Cond.arrayClass .int ∈ AW) (hk : kd N = 11) (hl : ln N = n) (hrf : ∀ k, rf N k = N + 1 + k) (hk2 : ∀ k, k < n → kd (N + 1 + k) = 9 ∧ ln (N + 1 + k) = w ∧ ∀ j, M.1 (N + 1 + k) j = 0) (h0 : ¬ n0 < 0) (hn : n0.toNatClampNeg = n) (h1 : ¬ w0 < 0) (hw : w0.toNatClampNeg = w) (hb : n ≤ 1000) (hb2 : w ≤ 1000) (hkc : 1 + n ≤ kc) (hks : n + n * w ≤ ks) (hd : decode y.2.1 pc = .ok (.multianewarray idx 2, 4)) (kk : WPc g d y (pc + 4) L (.ref (g.1 + N) :: st) (N + 1 + n) ν M (kc - (1 + n)) (ks - (n + n * w)) Q) : WPc g d y pc L (.int w0 :: .int n0 :: st) N ν M kc ks Q := fun p l e R s m args below meth c0 Z H locs ls cells slots mc ms S => by
  subst hn hw
  have hts := S.1.2.2.2.2.2.1
  have hK := S.1.2.2.2.2.2.2.2.2.2.1.2.1
  have hB := S.2.2.2.2.1
  have hz := S.2.1.2
  have hown : s.vm.findClass own = some m.cls := hy ▸ S.1.2.2.2.2.1
  obtain ⟨kA, hkA, hkindA, hnameA⟩ := S.2.2.2.2.2.2.1.2
  obtain ⟨comp', kC, cc, hcomp', hkC, hkindC⟩ := Cond.arrayClass_spec (hts _ harr)
  have ec : comp' = g.2.2.1 1 := Option.some.inj (hcomp'.symm.trans (hK.2 1 _ rfl).2)
  subst ec
  intro T hT X
  subst hT
  obtain ⟨vm₁, lsn, y1, X1, step⟩ := mul_step (g := F0 m pc ls (.int w0 :: .int n0 :: st)) X S.1.1 hown (hts _ hlink) hnameA hkA hkindA hkC hkindC rfl (by rw [S.1.2.1]; exact hd) rfl h0 h1 (by omega) (by omega) (by omega) (by omega)
  obtain ⟨f1, f2, -, -, f5, f6⟩ := mulS_f (U := T.setVm vm₁) (c := g.2.2.1 3) (k := g.2.2.1 1) (n := n0.toNatClampNeg) (w := w0.toNatClampNeg) n0.toNatClampNeg
  generalize mulS (T.setVm vm₁) (g.2.2.1 3) (g.2.2.1 1) n0.toNatClampNeg w0.toNatClampNeg n0.toNatClampNeg = FT at X1 step f1 f2 f5 f6
  have eT : (T.setVm vm₁).heap = T.heap := rfl
  rw [eT] at f1 f2 f5 f6
  have up : ∀ N', va_P g.2.1 cls (plG (cellC g ν M) N' g) FT.heap → va_at g.2.1 cls (g.1 + N', cellC g ν M N') FT.heap → va_P g.2.1 cls (plG (cellC g ν M) (N' + 1) g) FT.heap := fun N' hP e => by
    rw [plG_push]
    refine hP.app (fun k x hx => ?_)
    have hz : k < 1 := (List.getElem?_eq_some_iff.mp hx).1
    rw [show k = 0 by omega] at hx
    cases hx
    exact e
  have p0 : va_P g.2.1 cls (plG (cellC g ν M) N g) FT.heap := S.2.1.1.kept (fun k x hx => f5 x.1 ((S.2.1.1 k x hx).lt))
  have p1 : va_P g.2.1 cls (plG (cellC g ν M) (N + 1) g) FT.heap := up N p0 (by
    rw [cellC_n g ν M (by omega) (by omega), cell_11 g M hk, hl]
    show FT.heap[g.1 + N]? = some (vp_cell _ _)
    rw [← hz, f2, vp_cell_q, hz]
    unfold mulO
    refine congrArg some (arrV_cg (fun j hj => ?_))
    rw [hrf j, if_pos hj]
    show Value.ref (g.1 + N + 1 + j) = Value.ref (g.1 + (N + 1 + j))
    rw [show g.1 + N + 1 + j = g.1 + (N + 1 + j) by omega])
  have p2 : ∀ j, j ≤ n0.toNatClampNeg → va_P g.2.1 cls (plG (cellC g ν M) (N + 1 + j) g) FT.heap := by
    intro j
    induction j with
    | zero => exact fun _ => p1
    | succ j ih =>
      intro hj
      obtain ⟨k1, k2, k3⟩ := hk2 j hj
      refine up (N + 1 + j) (ih (by omega)) ?_
      rw [cellC_n g ν M (by omega) (by omega), cell_9 g M k1, k2]
      show FT.heap[g.1 + (N + 1 + j)]? = some (vp_cell _ _)
      rw [show g.1 + (N + 1 + j) = T.heap.size + 1 + j by omega, f6 j hj, vp_cell_i]
      refine congrArg some ?_
      exact arrV_cg (fun q _ => by rw [k3 q])
  have hl9 : ∀ q ∈ locs ++ lsn, AG g q.base := by
    intro q hq
    rcases List.mem_append.mp hq with h | h
    · exact S.2.2.1.2.2 q h
    · show g.1 ≤ q.base
      rw [y1 q h]
      omega
  obtain ⟨t, ht, hZ⟩ := kk p l e R s m args below meth c0 Z FT.heap _ ls (cells + 1 + n0.toNatClampNeg) (slots + n0.toNatClampNeg + n0.toNatClampNeg * w0.toNatClampNeg) mc ms ⟨S.1, ⟨p2 _ (Nat.le_refl _), by rw [f1, hz]; omega⟩, ⟨Nat.le_trans S.2.2.1.1 (by rw [f1]; omega), fun x g1 g2 => (f5 x (by have := S.2.2.1.1; omega)).trans (S.2.2.1.2.1 x g1 g2), hl9⟩, S.2.2.2.1, ⟨by omega, by omega, hB.2.2.1, hB.2.2.2⟩, S.2.2.2.2.2⟩ FT rfl X1
  refine ⟨t, step t ?_, hZ⟩
  rw [hz]
  exact ht
/-- the contract of a constructor -/
def CTc (g : GG) (d : Nat) (y : Mth) (av : List Value) (N : Nat) (ν : NU) (M : Mem) (kc ks : Nat) (P : Nat → NU → Mem → Prop) : Prop :=
  ∀ l : Launch, l.stackTraces = false → Met l y.1 (wsY y) { frames := d, cells := kc, slots := ks, locals := 100 * d + 100 } (va_Pc av (fun U => RepC g N ν M U.heap ∧ Env0 g U ∧ ExC g U)) (fun _ st oc t => ∃ (N' : Nat) (ν' : NU) (M' : Mem), oc = .returned none ∧ P N' ν' M' ∧ RepC g N' ν' M' t.heap ∧ va_F (AG g) st t) kc ks (AG g)
def QR (y : Mth) (P : Nat → NU → Mem → Prop) : QC := fun pc _ st N ν M _ _ => RetAt y.2.1 pc none ∧ st = [] ∧ P N ν M
theorem CTc_of {av : List Value} {P : Nat → NU → Mem → Prop} (hy : plainName y.1.cls = true) (hh : y.2.2.2.2 = []) (hret : y.2.2.2.1 = none) (hlen : (lg_sl av).length ≤ y.2.2.1) (hL : ents av y.2.2.1 = L) (k : WPc g d y 0 L [] N ν M kc ks (QR y P)) : CTc g d y av N ν M kc ks P := by
  intro l htr
  have hw : wsY y = Cond.code y.1 y.2.1 y.2.2.1 y.2.2.2.1 :: AW := by unfold wsY cwY; rw [hh]; rfl
  refine Met.ofW (ws' := AW) (cc := y.2.1) (maxL := y.2.2.1) (ret := y.2.2.2.1) hy hw ?_
  intro p e s m args below meth c s₁ B hml hv
  obtain ⟨rfl, hP, hE, hEx⟩ := hv
  have hts0 := atoms_spec (ws := wsY y) B.pre
  have hS : va_S (AG g) s.heap s.heap [] := va_S.rf
  have hl := lv_entry av (n := y.2.2.1) hlen
  rw [lg_entry_eq]
  have hcw : (cwY y).before av.toArray s = true := hts0 _ List.mem_cons_self
  have hlk := B.notSynchronized
  have hx := B.exec
  have hb := B.bytes
  have hr := B.returns
  refine k p l e _ s m av.toArray below meth c _ s.heap [] _ 0 0 kc ks ⟨⟨hx, hb, hr, hml, findClass_of_methodNamed B.named, fun w hw => hts0 w (List.mem_cons_of_mem _ hw), hlk, ?_, htr, hE, Nat.le_refl _, Nat.le_refl _⟩, hP, hS, ⟨hl.1, hl.2.1, fun i v hi => ?_⟩, ⟨by omega, by omega, Nat.le_refl _, Nat.le_refl _⟩, (name_of_methodNamed B.named B.method).1, hEx, ?_⟩
  · rw [hh]
    have : c.exceptionTable.toList = [] := by
      unfold cwY at hcw
      rw [hh] at hcw
      exact codeTable (x := y.1) B hcw
    rw [this]; rfl
  · rw [← hL] at hi
    exact hl.2.2 (i, v) (ents_at hi)
  · intro pc' L' st' N' ν' M' kc' ks' H' locs' ls' cells' slots' hq hP' hS' hL' hc' hs'
    obtain ⟨q1, q2, q3⟩ := hq
    subst q2
    refine W.widen (k := kc) (n := ks) (by omega) (by omega) ?_
    exact W.vret hx hb (hr.trans hret) (fun t ht _ => ⟨N', ν', M', rfl, q3, by rw [ht]; exact hP', hS'.F ht⟩) hS'.2.2 q1
/-- a constructor is called -/
theorem C_call {own : String} {idx n d' kc' ks' b : Nat} {y' : Mth} {As rest : List Value} {P : Nat → NU → Mem → Prop} (ct : CTc g d' y' (.ref (g.1 + b) :: As) N ν M kc' ks' P) (hy : y.1.cls = own) (hc : calOK own idx y' n) (hr : y'.2.2.2.1 = none) (hnm : y'.1.name = "<init>") (hi : Cond.instanceMethod y'.1 ∈ AW) (hd' : d' + 1 ≤ d) (hkc : kc' ≤ kc) (hks : ks' ≤ ks) (hn : As.length = n) (hst : st = As.reverse ++ .ref (g.1 + b) :: rest) (hrs : (rest.map fun v => v.category).sum ≤ 8) (hd : decode y.2.1 pc = .ok (.invokespecial idx, 3))
    (kk : ∀ (N' : Nat) (ν' : NU) (M' : Mem), P N' ν' M' → WPc g d y (pc + 3) L rest N' ν' M' (kc - kc') (ks - ks') Q) : WPc g d y pc L st N ν M kc ks Q := fun p l e R s m args below meth c0 Z H locs ls cells slots mc ms S => by
  obtain ⟨⟨hx, hb, hr9, hml, hown, hts, hlk, hxt, htr, henv, hf, hl⟩, hP, hS, hL, hB, hnm9, hEx, hR⟩ := S
  obtain ⟨a1, a2, a3, a4, a5, a6, a7⟩ := hc
  have hcw : cwY y' = Cond.code y'.1 y'.2.1 y'.2.2.1 none := by unfold cwY; rw [a1, hr]; rfl
  have hB9 : CallB R s args own idx y'.1 y'.2.1 y'.2.2.1 none (wsY y') { frames := d', cells := kc', slots := ks', locals := 100 * d' + 100 } kc' ks' n := by
    refine ⟨rfl, rfl, by show d' + 1 ≤ _; omega, by show 8 + (y'.2.2.1 + 11) + (100 * d' + 100) ≤ _; omega, fun w hw a' U hW => ?_, by rw [← hcw]; exact List.mem_cons_self, by rw [← hcw]; exact hts _ a4, hts _ a5, a6, fun sig hs => ?_, hts _ a3⟩
    · rcases List.mem_cons.mp hw with q | q
      · rw [q]; exact aw_at hW hts _ a4
      · exact aw_at hW hts _ q
    · rw [hs] at a7
      exact (Option.some.inj a7).symm
  have hblind : FrameBlind (va_Pc (.ref (g.1 + b) :: As) (fun U => RepC g N ν M U.heap ∧ Env0 g U ∧ ExC g U)) := by
    intro a U g0 mk q
    obtain ⟨q0, q1, q2, q3⟩ := q
    exact ⟨q0, q1, q2.to (State.WarmedH.refl U) (Nat.le_refl _) (fun _ _ _ => rfl), q3.moved (State.WarmedH.refl U).alike⟩
  have run := va_runI (p := p) (l := l) (e := e) (R := R) (s := s) (m := m) (args := args) (below := below) (meth := meth) (c := c0) (H := H) (locs := locs) (cells := cells) (slots := slots) (g := F0 m pc ls st) (cc := y.2.1) (nL := y.2.2.1) (Ts := AW) (own := own) (As := As) (rest := rest) (b := g.1 + b) ⟨hx, hb, hml, hy ▸ hown, hts⟩ (ct l htr) ⟨hB9, hnm, hts _ hi⟩ ⟨hblind, fun U hU hW => ⟨rfl, by rw [hU]; exact hP, env_at henv hS hU hW, hEx.moved hW.alike⟩⟩ rfl hn hL.1 hst (lv_room hrs) hd ⟨by omega, by omega⟩
  intro T hT X
  obtain ⟨v, st₀, t, T', Lc, h0, X', hLc, e1, e2, ⟨N', ν', M', ho, hq, hP', hF⟩, stp⟩ := run T hT X
  cases ho
  obtain ⟨k1, k2, hS'⟩ := vx_keep h0 e1 hS (fun q _ h => h) (fun q h => h) hLc hF
  obtain ⟨t2, a1, b1⟩ := kk N' ν' M' hq p l e R s m args below meth c0 Z T'.heap (locs ++ Lc) ls (cells + kc') (slots + ks') mc ms ⟨⟨hx, hb, hr9, hml, hown, hts, hlk, hxt, htr, henv, hf, hl⟩, by rw [e1]; exact hP', hS', hL, ⟨by omega, by omega, hB.2.2.1, hB.2.2.2⟩, hnm9, hEx, hR⟩ T' rfl X'
  exact ⟨t2, stp t2 a1, b1⟩
/-- an object is made -/
theorem C_new {own : String} {idx c n : Nat} {C : String} {T : u_T} {ty : Nat → FieldType} (hcl : clsOK c C T ty) (hy : y.1.cls = own) (hlink : Cond.classLink own idx C ∈ AW) (hinst : Cond.instantiable C (nfC c) ∈ AW) (hini : Cond.initialized C ∈ AW) (hk : kd N = c) (hn : n = nfC c) (hM : ∀ k, M.1 N k = 0) (hν : ∀ k, ν N k = false) (hdf : ∀ k, k < nfC c → defaultValue (ty k) = if isI c k = true then .int 0 else .null) (hkc : 1 ≤ kc) (hks : n ≤ ks) (hd : decode y.2.1 pc = .ok (.new idx, 3)) (kk : WPc g d y (pc + 3) L (.ref (g.1 + N) :: st) (N + 1) ν M (kc - 1) (ks - n) Q) : WPc g d y pc L st N ν M kc ks Q := fun p l e R s m args below meth c0 Z H locs ls cells slots mc ms S => by
  subst hn
  obtain ⟨h1, h2, h3, h4, h5⟩ := hcl
  have hts := S.1.2.2.2.2.2.1
  have hK := S.1.2.2.2.2.2.2.2.2.2.1.2.1
  have hKn := hK.1 c _ h2
  have hB := S.2.2.2.2.1
  refine W.newcK S.1.1 S.1.2.1 (hy ▸ S.1.2.2.2.2.1) (hts _ hlink) (hts _ hinst) (hts _ hini) rfl hd (by omega) (by omega) hKn.2.1 S.2.1.2 fun H1 kC hkC e1 z1 o1 => ?_
  have w1 : va_P g.2.1 cls (plG (cellC g ν M) (N + 1) g) H1 := plG_P S.2.1.1 S.2.1.2 (by rw [S.2.1.2]; exact o1) (by
    rw [cellC_o g ν M hk h1]
    refine ⟨_, h2, (u_born ty hts h3 hKn hkC e1 h4).to (fun j hj => ?_)⟩
    rw [hdf j hj]
    show _ = (flC g ν M N c).getD j .null
    rw [List.getD_eq_getElem?_getD, flC_at g ν M N c j hj, hM j, hν j]
    rfl)
  exact kk p l e R s m args below meth c0 Z H1 locs ls (cells + 1) (slots + nfC c) mc ms ⟨S.1, ⟨w1, by rw [z1]; omega⟩, ⟨Nat.le_trans S.2.2.1.1 (by rw [z1, S.2.1.2]; omega), fun x g1 g2 => (o1 x (by have := S.2.2.1.1; have := S.2.1.2; omega)).trans (S.2.2.1.2.1 x g1 g2), S.2.2.1.2.2⟩, S.2.2.2.1, ⟨by omega, by omega, hB.2.2.1, hB.2.2.2⟩, S.2.2.2.2.2⟩
/-- a row of numbers is made -/
theorem C_newa {atype : ArrayType} {t n : Nat} {n0 : Int32} {a0 : vp_A} (harr : Cond.arrayClass (newarray.typeOf atype) ∈ AW) (ht : ∃ cA, (tysG g)[t]? = some (cA, newarray.typeOf atype) ∧ cellC g ν M N = .inl (cA, a0)) (hv : ∀ cA, vp_cell cA a0 = arrV cA n (fun _ => defaultValue (newarray.typeOf atype))) (hra : ∀ (U : State) (cA : ClassId), va_RA U cA (newarray.typeOf atype) → U.vm.findClass ("[" ++ (newarray.typeOf atype).toString) = some cA) (h0 : ¬ n0 < 0) (hn : n0.toNatClampNeg = n) (hb : n * componentBytes (newarray.typeOf atype) ≤ 536870912) (hkc : 1 ≤ kc) (hks : n ≤ ks) (hd : decode y.2.1 pc = .ok (.newarray atype, 2)) (kk : WPc g d y (pc + 2) L (.ref (g.1 + N) :: st) (N + 1) ν M (kc - 1) (ks - n) Q) : WPc g d y pc L (.int n0 :: st) N ν M kc ks Q := fun p l e R s m args below meth c0 Z H locs ls cells slots mc ms S => by
  have hts := S.1.2.2.2.2.2.1
  have hK := S.1.2.2.2.2.2.2.2.2.2.1.2.1
  have hB := S.2.2.2.2.1
  obtain ⟨cA, ht1, ht2⟩ := ht
  refine va_newaK S.1.1 S.1.2.1 (hts _ harr) rfl hd rfl h0 hn hb (by omega) (by omega) S.2.1.2 fun H1 cA' e1 z1 o1 hAr hNm => ?_
  have hcc : cA' = cA := Option.some.inj (hNm.symm.trans (hra s cA (hK.2 t _ ht1).2))
  subst hcc
  have w1 : va_P g.2.1 cls (plG (cellC g ν M) (N + 1) g) H1 := plG_P S.2.1.1 S.2.1.2 (by rw [S.2.1.2]; exact o1) (by
    rw [ht2]
    show H1[g.1 + N]? = some (vp_cell cA' a0)
    rw [hv]; exact e1)
  exact kk p l e R s m args below meth c0 Z H1 locs ls (cells + 1) (slots + n) mc ms ⟨S.1, ⟨w1, by rw [z1]; omega⟩, ⟨Nat.le_trans S.2.2.1.1 (by rw [z1, S.2.1.2]; omega), fun x g1 g2 => (o1 x (by have := S.2.2.1.1; have := S.2.1.2; omega)).trans (S.2.2.1.2.1 x g1 g2), S.2.2.1.2.2⟩, S.2.2.2.1, ⟨by omega, by omega, hB.2.2.1, hB.2.2.2⟩, S.2.2.2.2.2⟩
end RowsC

