def STRS : List (String × Nat × String) := [("VisitBooking", 70, "the wing or the level is out of range"), ("VisitBooking", 84, "there are 10 inmates"), ("VisitBooking", 98, "the kind is out of range"), ("VisitBooking", 103, "there are 12 visitors"), ("VisitBooking", 105, "the wing or the number of seats is out of range"), ("VisitBooking", 110, "there are 6 rooms"), ("VisitBooking", 114, "there is no such room"), ("VisitBooking", 124, "there is no such inmate"), ("VisitBooking", 126, "the level is out of range"), ("VisitBooking", 368, "there is none with this number"), ("VisitBooking", 370, "a number is out of range"), ("VisitBooking", 372, "this cannot be done in this state"), ("VisitBooking", 147, "there is no such setting"), ("VisitBooking", 149, "the number is out of range"), ("VisitBooking", 155, "what is out of range"), ("VisitBooking", 175, "there is no such place"), ("VisitBooking", 197, "the visit is refused"), ("VisitBooking", 218, "these cannot be the visitors"), ("VisitBooking", 223, "there is no such slot"), ("VisitBooking", 228, "there is no such visit"), ("VisitBooking", 245, "the day or the slot is out of range"), ("VisitBooking", 256, "the number of days is out of range"), ("VisitBooking", 258, "the days end before that"), ("VisitBooking", 277, "there is no such ban"), ("VisitBooking", 285, "the visitors or the days are out of range"), ("VisitBooking", 290, "there are 6 wishes"), ("VisitBooking", 292, "there is no such wish"), ("VisitBooking", 297, "there is no such notice"), ("VisitBooking", 299, "there is no such level"), ("VisitBooking", 310, "there is no such account"), ("VisitBooking", 314, "no visits are booked"), ("VisitBooking", 317, "the week is out of range"), ("VisitBooking", 322, "the sum of the quotas is 0"), ("VisitBooking", 325, "the buffer holds 80 characters"), ("VisitBooking", 349, "a command cannot be carried out"), ("VisitBooking", 355, "there is no change"), ("VisitBooking", 363, "nothing was saved")]
def NCS : List (String × String) := [("java/lang/ArithmeticException", "java/lang/IllegalArgumentException"), ("java/lang/ArithmeticException", "java/lang/IllegalStateException"), ("java/lang/ArithmeticException", "java/lang/IndexOutOfBoundsException"), ("java/lang/ArithmeticException", "java/lang/UnsupportedOperationException"), ("java/lang/ArithmeticException", "java/util/NoSuchElementException"), ("java/lang/IllegalArgumentException", "java/lang/ArithmeticException"), ("java/lang/IllegalArgumentException", "java/lang/IllegalStateException"), ("java/lang/IllegalArgumentException", "java/lang/IndexOutOfBoundsException"), ("java/lang/IllegalArgumentException", "java/lang/UnsupportedOperationException"), ("java/lang/IllegalArgumentException", "java/util/NoSuchElementException"), ("java/lang/IllegalStateException", "java/lang/ArithmeticException"), ("java/lang/IllegalStateException", "java/lang/IllegalArgumentException"), ("java/lang/IllegalStateException", "java/lang/IndexOutOfBoundsException"), ("java/lang/IllegalStateException", "java/lang/UnsupportedOperationException"), ("java/lang/IllegalStateException", "java/util/NoSuchElementException"), ("java/lang/IndexOutOfBoundsException", "java/lang/ArithmeticException"), ("java/lang/IndexOutOfBoundsException", "java/lang/IllegalArgumentException"), ("java/lang/IndexOutOfBoundsException", "java/lang/IllegalStateException"), ("java/lang/IndexOutOfBoundsException", "java/lang/UnsupportedOperationException"), ("java/lang/IndexOutOfBoundsException", "java/util/NoSuchElementException"), ("java/lang/UnsupportedOperationException", "java/lang/ArithmeticException"), ("java/lang/UnsupportedOperationException", "java/lang/IllegalArgumentException"), ("java/lang/UnsupportedOperationException", "java/lang/IllegalStateException"), ("java/lang/UnsupportedOperationException", "java/lang/IndexOutOfBoundsException"), ("java/lang/UnsupportedOperationException", "java/util/NoSuchElementException"), ("java/util/NoSuchElementException", "java/lang/ArithmeticException"), ("java/util/NoSuchElementException", "java/lang/IllegalArgumentException"), ("java/util/NoSuchElementException", "java/lang/IllegalStateException"), ("java/util/NoSuchElementException", "java/lang/IndexOutOfBoundsException"), ("java/util/NoSuchElementException", "java/lang/UnsupportedOperationException")]

def nestW : Cond := .methodLinkNest RX5 57 ⟨RX6, "isBelow", "(II)Z"⟩ RX6
/-- what every state of a run knows: the classes, the statics that a throw reads, the texts, which classes are apart -/
def Env0 (g : GG) (U : State) : Prop := g.1 ≤ U.heap.size ∧ va_K g.2.1 cls (tysG g) U ∧ vx_Zq Bundle.tN "UNASSIGNED_STACK" Bundle.steD (AG g) U U.heap ∧ vx_Zq Bundle.tN "SUPPRESSED_SENTINEL" Bundle.listD (AG g) U U.heap ∧ (∀ q ∈ STRS, ∃ sa : Nat, vk_R q.1 q.2.1 q.2.2 sa U) ∧ (∀ q ∈ NCS, va_Nc q.1 q.2 U) ∧ va_Nw nestW U ∧ va_X g.2.2.2.1 g.2.2.2.2.1 g.2.2.2.2.2 U U.heap ∧ g.2.2.2.1 < g.1
theorem Env0.to {g : GG} {u U : State} (hW : u.WarmedH U.vm) (hz : u.heap.size ≤ U.heap.size) (hh : ∀ q : Nat, q < u.heap.size → ¬ AG g q → U.heap[q]? = u.heap[q]?) (h : Env0 g u) : Env0 g U := by
  obtain ⟨h1, h2, h3, h4, h5, h6, h7, h8, h9⟩ := h
  have hb : ¬ AG g g.2.2.2.1 := fun q => absurd (show g.1 ≤ g.2.2.2.1 from q) (by omega)
  exact ⟨Nat.le_trans h1 hz, va_K.moved hW.alike h2, vx_Zq.moved hW.alike (h3.kept hh), vx_Zq.moved hW.alike (h4.kept hh), fun q hq => (h5 q hq).elim fun sa hs => ⟨sa, vk_R.warm hW hs⟩, fun q hq => va_Nc.moved hW.alike (h6 q hq), va_Nw.warmM hW h7, (h8.kept (hh _ (Nat.lt_of_lt_of_le h9 h1) hb)).moved hW.alike, h9⟩
/-- the words of a method: its code, and all that keep -/
def cwY (y : Mth) : Cond := if y.2.2.2.2.isEmpty = true then .code y.1 y.2.1 y.2.2.1 y.2.2.2.1 else .codeWith y.1 y.2.1 y.2.2.1 y.2.2.2.1 y.2.2.2.2
abbrev wsY (y : Mth) : List Cond := cwY y :: AW
abbrev rmD (d kc : Nat) : Room := { frames := d, cells := kc, slots := 6 * kc, locals := 100 * d + 100 }
/-- where a method stands -/
def Cx (g : GG) (d : Nat) (y : Mth) (p : Program) (l : Launch) (R : Room) (s : State) (m : MethodId) (args : Array Value) (meth : Method) (c : Code) : Prop :=
  p.tables.exec = Jvm.exec ∧ c.code = y.2.1 ∧ meth.sig.returnType = y.2.2.2.1 ∧ c.maxLocals = y.2.2.1 ∧ s.vm.findClass y.1.cls = some m.cls ∧ (∀ w ∈ AW, w.before args s = true) ∧ meth.locks = false ∧ c.exceptionTable.toList = tableOf y.2.2.2.2 ∧ l.stackTraces = false ∧ Env0 g s ∧ d ≤ R.frames ∧ 100 * d + 100 ≤ R.locals
def LH (ls : Array Slot) (n : Nat) (L : List (Option Value)) : Prop := ls.size = n ∧ lv_wf ls ∧ ∀ (i : Nat) (v : Value), L[i]? = some (some v) → ls[i]? = some (.val v)
def RetAt (b : ByteArray) (pc : Nat) (o : Option Value) : Prop := match o with
  | none => decode b pc = .ok (.return_, 1)
  | some (.int _) => decode b pc = .ok (.ireturn, 1)
  | some (.long _) => decode b pc = .ok (.lreturn, 1)
  | some (.float _) => decode b pc = .ok (.freturn, 1)
  | some (.double _) => decode b pc = .ok (.dreturn, 1)
  | some (.ref _) => decode b pc = .ok (.areturn, 1)
  | _ => False
def XQ (g : GG) (Q : Out → Mem → Prop) : String → State → State → Prop := fun E st t => ∃ M', Q (.inr E) M' ∧ Rep g M' t.heap ∧ va_F (AG g) st t
def NoQ : Array Value → State → Outcome → State → Prop := fun _ _ _ _ => False
/-- the machine's side of a point of a method: heap, locals, room, and what its two ends are worth -/
def Sx (g : GG) (d : Nat) (y : Mth) (L : List (Option Value)) (M : Mem) (kc : Nat) (Q : Out → Mem → Prop) (p : Program) (l : Launch) (e : Env) (R : Room) (s : State) (m : MethodId) (args : Array Value) (below : List Frame) (meth : Method) (c : Code) (Z : State → Prop) (H : Heap) (locs : List Loc) (ls : Array Slot) (cells slots mc ms : Nat) : Prop :=
  Cx g d y p l R s m args meth c ∧ Rep g M H ∧ va_S (AG g) s.heap H locs ∧ LH ls y.2.2.1 L ∧ (cells + kc ≤ mc ∧ slots + 6 * kc ≤ ms ∧ mc ≤ R.cells ∧ ms ≤ R.slots) ∧
  (∀ (o : Option Value) (M' : Mem) (H' : Heap) (locs' : List Loc) (ls' : Array Slot) (pc' cells' slots' : Nat), Q (.inl o) M' → Rep g M' H' → va_S (AG g) s.heap H' locs' → cells' ≤ mc → slots' ≤ ms → RetAt y.2.1 pc' o → W p l e R s m args below meth c H' locs' cells' slots' Z (F0 m pc' ls' o.toList)) ∧
  (∀ t : State, vx_MQ below NoQ (XQ g Q) args s mc ms (AG g) t → Z t)
def WP (g : GG) (d : Nat) (y : Mth) (pc : Nat) (L : List (Option Value)) (st : List Value) (M : Mem) (kc : Nat) (Q : Out → Mem → Prop) : Prop :=
  ∀ (p : Program) (l : Launch) (e : Env) (R : Room) (s : State) (m : MethodId) (args : Array Value) (below : List Frame) (meth : Method) (c : Code) (Z : State → Prop) (H : Heap) (locs : List Loc) (ls : Array Slot) (cells slots mc ms : Nat),
    Sx g d y L M kc Q p l e R s m args below meth c Z H locs ls cells slots mc ms → W p l e R s m args below meth c H locs cells slots Z (F0 m pc ls st)
def lsub : List (Option Value) → List (Option Value) → Prop
  | [], _ => True
  | none :: a, _ :: b => lsub a b
  | none :: a, [] => lsub a []
  | some v :: a, w :: b => w = some v ∧ lsub a b
  | some _ :: _, [] => False
theorem lsub_at : ∀ (a b : List (Option Value)), lsub a b → ∀ (i : Nat) (v : Value), a[i]? = some (some v) → b[i]? = some (some v)
  | [], _, _, i, v, h => by simp at h
  | none :: a, [], hs, i, v, h => by
    cases i with
    | zero => simp at h
    | succ i =>
      have := lsub_at a [] hs i v (by simpa using h)
      simp at this
  | none :: a, _ :: b, hs, i, v, h => by
    cases i with
    | zero => simp at h
    | succ i => simpa using lsub_at a b hs i v (by simpa using h)
  | some u :: a, w :: b, hs, i, v, h => by
    cases i with
    | zero =>
      simp at h
      subst h
      rw [hs.1]; rfl
    | succ i => simpa using lsub_at a b hs.2 i v (by simpa using h)
  | some _ :: _, [], hs, _, _, _ => hs.elim
section Rows0
variable {g : GG} {d : Nat} {y : Mth} {pc : Nat} {L : List (Option Value)} {st : List Value} {M : Mem} {kc : Nat} {Q : Out → Mem → Prop}
theorem WP_sub {L' : List (Option Value)} {kc' : Nat} (k : WP g d y pc L' st M kc' Q) (hk : kc' ≤ kc) (hs : lsub L' L) : WP g d y pc L st M kc Q := by
  intro p l e R s m args below meth c Z H locs ls cells slots mc ms S
  obtain ⟨hC, hP, hS, hL, hB, hR, hX⟩ := S
  exact k p l e R s m args below meth c Z H locs ls cells slots mc ms ⟨hC, hP, hS, ⟨hL.1, hL.2.1, fun i v h => hL.2.2 i v (lsub_at _ _ hs i v h)⟩, ⟨by omega, by omega, hB.2.2.1, hB.2.2.2⟩, hR, hX⟩
theorem WP_eq {pc' : Nat} {st' : List Value} (k : WP g d y pc' L st' M kc Q) (h1 : pc' = pc) (h2 : st' = st) : WP g d y pc L st M kc Q := by subst h1; subst h2; exact k

theorem R_iconst {n : Int} {v : Int32} (hd : decode y.2.1 pc = .ok (.iconst n, 1)) (hv : Int32.ofInt n = v) (k : WP g d y (pc + 1) L (.int v :: st) M kc Q) : WP g d y pc L (st) M kc Q := fun p l e R s m args below meth c Z H locs ls cells slots mc ms S => lv_iconst S.1.1 S.1.2.1 hd hv (k p l e R s m args below meth c Z H locs ls cells slots mc ms S)
theorem R_bipush {n : Int} {v : Int32} (hd : decode y.2.1 pc = .ok (.bipush n, 2)) (hv : (Int8.ofInt n).toInt32 = v) (k : WP g d y (pc + 2) L (.int v :: st) M kc Q) : WP g d y pc L (st) M kc Q := fun p l e R s m args below meth c Z H locs ls cells slots mc ms S => lv_bipush S.1.1 S.1.2.1 hd hv (k p l e R s m args below meth c Z H locs ls cells slots mc ms S)
theorem R_sipush {n : Int} {v : Int32} (hd : decode y.2.1 pc = .ok (.sipush n, 3)) (hv : (Int16.ofInt n).toInt32 = v) (k : WP g d y (pc + 3) L (.int v :: st) M kc Q) : WP g d y pc L (st) M kc Q := fun p l e R s m args below meth c Z H locs ls cells slots mc ms S => lv_sipush S.1.1 S.1.2.1 hd hv (k p l e R s m args below meth c Z H locs ls cells slots mc ms S)
theorem R_lconst {n : Fin 2} {v : Int64} (hd : decode y.2.1 pc = .ok (.lconst n, 1)) (hv : Int64.ofNat (n : Nat) = v) (k : WP g d y (pc + 1) L (.long v :: st) M kc Q) : WP g d y pc L (st) M kc Q := fun p l e R s m args below meth c Z H locs ls cells slots mc ms S => lv_lconst S.1.1 S.1.2.1 hd hv (k p l e R s m args below meth c Z H locs ls cells slots mc ms S)
theorem R_iadd {x y1 : Int32} (hd : decode y.2.1 pc = .ok (.iadd, 1)) (k : WP g d y (pc + 1) L (.int (x + y1) :: st) M kc Q) : WP g d y pc L (.int y1 :: .int x :: st) M kc Q := fun p l e R s m args below meth c Z H locs ls cells slots mc ms S => lv_iadd S.1.1 S.1.2.1 hd (k p l e R s m args below meth c Z H locs ls cells slots mc ms S)
theorem R_isub {x y1 : Int32} (hd : decode y.2.1 pc = .ok (.isub, 1)) (k : WP g d y (pc + 1) L (.int (x - y1) :: st) M kc Q) : WP g d y pc L (.int y1 :: .int x :: st) M kc Q := fun p l e R s m args below meth c Z H locs ls cells slots mc ms S => lv_isub S.1.1 S.1.2.1 hd (k p l e R s m args below meth c Z H locs ls cells slots mc ms S)
theorem R_imul {x y1 : Int32} (hd : decode y.2.1 pc = .ok (.imul, 1)) (k : WP g d y (pc + 1) L (.int (x * y1) :: st) M kc Q) : WP g d y pc L (.int y1 :: .int x :: st) M kc Q := fun p l e R s m args below meth c Z H locs ls cells slots mc ms S => lv_imul S.1.1 S.1.2.1 hd (k p l e R s m args below meth c Z H locs ls cells slots mc ms S)
theorem R_iand {x y1 : Int32} (hd : decode y.2.1 pc = .ok (.iand, 1)) (k : WP g d y (pc + 1) L (.int (x &&& y1) :: st) M kc Q) : WP g d y pc L (.int y1 :: .int x :: st) M kc Q := fun p l e R s m args below meth c Z H locs ls cells slots mc ms S => lv_iand S.1.1 S.1.2.1 hd (k p l e R s m args below meth c Z H locs ls cells slots mc ms S)
theorem R_ior {x y1 : Int32} (hd : decode y.2.1 pc = .ok (.ior, 1)) (k : WP g d y (pc + 1) L (.int (x ||| y1) :: st) M kc Q) : WP g d y pc L (.int y1 :: .int x :: st) M kc Q := fun p l e R s m args below meth c Z H locs ls cells slots mc ms S => lv_ior S.1.1 S.1.2.1 hd (k p l e R s m args below meth c Z H locs ls cells slots mc ms S)
theorem R_ixor {x y1 : Int32} (hd : decode y.2.1 pc = .ok (.ixor, 1)) (k : WP g d y (pc + 1) L (.int (x ^^^ y1) :: st) M kc Q) : WP g d y pc L (.int y1 :: .int x :: st) M kc Q := fun p l e R s m args below meth c Z H locs ls cells slots mc ms S => lv_ixor S.1.1 S.1.2.1 hd (k p l e R s m args below meth c Z H locs ls cells slots mc ms S)
theorem R_ishl {x y1 : Int32} (hd : decode y.2.1 pc = .ok (.ishl, 1)) (k : WP g d y (pc + 1) L (.int (x <<< (y1 &&& 31)) :: st) M kc Q) : WP g d y pc L (.int y1 :: .int x :: st) M kc Q := fun p l e R s m args below meth c Z H locs ls cells slots mc ms S => lv_ishl S.1.1 S.1.2.1 hd (k p l e R s m args below meth c Z H locs ls cells slots mc ms S)
theorem R_ishr {x y1 : Int32} (hd : decode y.2.1 pc = .ok (.ishr, 1)) (k : WP g d y (pc + 1) L (.int (x >>> (y1 &&& 31)) :: st) M kc Q) : WP g d y pc L (.int y1 :: .int x :: st) M kc Q := fun p l e R s m args below meth c Z H locs ls cells slots mc ms S => lv_ishr S.1.1 S.1.2.1 hd (k p l e R s m args below meth c Z H locs ls cells slots mc ms S)
theorem R_land {x y1 : Int64} (hd : decode y.2.1 pc = .ok (.land, 1)) (k : WP g d y (pc + 1) L (.long (x &&& y1) :: st) M kc Q) : WP g d y pc L (.long y1 :: .long x :: st) M kc Q := fun p l e R s m args below meth c Z H locs ls cells slots mc ms S => lv_land S.1.1 S.1.2.1 hd (k p l e R s m args below meth c Z H locs ls cells slots mc ms S)
theorem R_lor {x y1 : Int64} (hd : decode y.2.1 pc = .ok (.lor, 1)) (k : WP g d y (pc + 1) L (.long (x ||| y1) :: st) M kc Q) : WP g d y pc L (.long y1 :: .long x :: st) M kc Q := fun p l e R s m args below meth c Z H locs ls cells slots mc ms S => lv_lor S.1.1 S.1.2.1 hd (k p l e R s m args below meth c Z H locs ls cells slots mc ms S)
theorem R_lxor {x y1 : Int64} (hd : decode y.2.1 pc = .ok (.lxor, 1)) (k : WP g d y (pc + 1) L (.long (x ^^^ y1) :: st) M kc Q) : WP g d y pc L (.long y1 :: .long x :: st) M kc Q := fun p l e R s m args below meth c Z H locs ls cells slots mc ms S => lv_lxor S.1.1 S.1.2.1 hd (k p l e R s m args below meth c Z H locs ls cells slots mc ms S)
theorem R_lsub {x y1 : Int64} (hd : decode y.2.1 pc = .ok (.lsub, 1)) (k : WP g d y (pc + 1) L (.long (x - y1) :: st) M kc Q) : WP g d y pc L (.long y1 :: .long x :: st) M kc Q := fun p l e R s m args below meth c Z H locs ls cells slots mc ms S => lv_lsub S.1.1 S.1.2.1 hd (k p l e R s m args below meth c Z H locs ls cells slots mc ms S)
theorem R_ladd {x y1 : Int64} (hd : decode y.2.1 pc = .ok (.ladd, 1)) (k : WP g d y (pc + 1) L (.long (x + y1) :: st) M kc Q) : WP g d y pc L (.long y1 :: .long x :: st) M kc Q := fun p l e R s m args below meth c Z H locs ls cells slots mc ms S => lv_ladd S.1.1 S.1.2.1 hd (k p l e R s m args below meth c Z H locs ls cells slots mc ms S)
theorem R_idiv {x y1 : Int32} (hd : decode y.2.1 pc = .ok (.idiv, 1)) (hne : ¬ y1 = 0) (k : WP g d y (pc + 1) L (.int (x / y1) :: st) M kc Q) : WP g d y pc L (.int y1 :: .int x :: st) M kc Q := fun p l e R s m args below meth c Z H locs ls cells slots mc ms S => lv_idiv S.1.1 S.1.2.1 hd hne (k p l e R s m args below meth c Z H locs ls cells slots mc ms S)
theorem R_irem {x y1 : Int32} (hd : decode y.2.1 pc = .ok (.irem, 1)) (hne : ¬ y1 = 0) (k : WP g d y (pc + 1) L (.int (x - x / y1 * y1) :: st) M kc Q) : WP g d y pc L (.int y1 :: .int x :: st) M kc Q := fun p l e R s m args below meth c Z H locs ls cells slots mc ms S => lv_irem S.1.1 S.1.2.1 hd hne (k p l e R s m args below meth c Z H locs ls cells slots mc ms S)
theorem R_ineg {x : Int32} (hd : decode y.2.1 pc = .ok (.ineg, 1)) (k : WP g d y (pc + 1) L (.int (-x) :: st) M kc Q) : WP g d y pc L (.int x :: st) M kc Q := fun p l e R s m args below meth c Z H locs ls cells slots mc ms S => lv_ineg S.1.1 S.1.2.1 hd (k p l e R s m args below meth c Z H locs ls cells slots mc ms S)
theorem R_iushr {x y1 : Int32} (hd : decode y.2.1 pc = .ok (.iushr, 1)) (k : WP g d y (pc + 1) L (.int (x.toUInt32 >>> (y1.toUInt32 &&& Int32.toUInt32 31)).toInt32 :: st) M kc Q) : WP g d y pc L (.int y1 :: .int x :: st) M kc Q := fun p l e R s m args below meth c Z H locs ls cells slots mc ms S => lv_iushr S.1.1 S.1.2.1 hd rfl (k p l e R s m args below meth c Z H locs ls cells slots mc ms S)
theorem R_lushr {x : Int64} {y1 : Int32} (hd : decode y.2.1 pc = .ok (.lushr, 1)) (k : WP g d y (pc + 1) L (.long (x.toUInt64 >>> (y1.toInt64.toUInt64 &&& Int64.toUInt64 63)).toInt64 :: st) M kc Q) : WP g d y pc L (.int y1 :: .long x :: st) M kc Q := fun p l e R s m args below meth c Z H locs ls cells slots mc ms S => lv_lushr S.1.1 S.1.2.1 hd rfl (k p l e R s m args below meth c Z H locs ls cells slots mc ms S)
theorem R_lshl {x : Int64} {y1 : Int32} (hd : decode y.2.1 pc = .ok (.lshl, 1)) (k : WP g d y (pc + 1) L (.long (x <<< (y1.toInt64 &&& 63)) :: st) M kc Q) : WP g d y pc L (.int y1 :: .long x :: st) M kc Q := fun p l e R s m args below meth c Z H locs ls cells slots mc ms S => lv_lshl S.1.1 S.1.2.1 hd rfl (k p l e R s m args below meth c Z H locs ls cells slots mc ms S)
theorem R_i2c {x : Int32} (hd : decode y.2.1 pc = .ok (.i2c, 1)) (k : WP g d y (pc + 1) L (.int (x.toUInt32 % 65536).toInt32 :: st) M kc Q) : WP g d y pc L (.int x :: st) M kc Q := fun p l e R s m args below meth c Z H locs ls cells slots mc ms S => lv_i2c S.1.1 S.1.2.1 hd rfl (k p l e R s m args below meth c Z H locs ls cells slots mc ms S)
theorem R_i2l {x : Int32} (hd : decode y.2.1 pc = .ok (.i2l, 1)) (k : WP g d y (pc + 1) L (.long x.toInt64 :: st) M kc Q) : WP g d y pc L (.int x :: st) M kc Q := fun p l e R s m args below meth c Z H locs ls cells slots mc ms S => lv_i2l S.1.1 S.1.2.1 hd rfl (k p l e R s m args below meth c Z H locs ls cells slots mc ms S)
theorem R_l2i {x : Int64} (hd : decode y.2.1 pc = .ok (.l2i, 1)) (k : WP g d y (pc + 1) L (.int x.toInt32 :: st) M kc Q) : WP g d y pc L (.long x :: st) M kc Q := fun p l e R s m args below meth c Z H locs ls cells slots mc ms S => lv_l2i S.1.1 S.1.2.1 hd rfl (k p l e R s m args below meth c Z H locs ls cells slots mc ms S)
theorem R_i2d {x : Int32} (hd : decode y.2.1 pc = .ok (.i2d, 1)) (k : WP g d y (pc + 1) L (.double (FP.i2d x) :: st) M kc Q) : WP g d y pc L (.int x :: st) M kc Q := fun p l e R s m args below meth c Z H locs ls cells slots mc ms S => lv_i2d S.1.1 S.1.2.1 hd (k p l e R s m args below meth c Z H locs ls cells slots mc ms S)
theorem R_i2f {x : Int32} (hd : decode y.2.1 pc = .ok (.i2f, 1)) (k : WP g d y (pc + 1) L (.float (FP.i2f x) :: st) M kc Q) : WP g d y pc L (.int x :: st) M kc Q := fun p l e R s m args below meth c Z H locs ls cells slots mc ms S => lv_i2f S.1.1 S.1.2.1 hd (k p l e R s m args below meth c Z H locs ls cells slots mc ms S)
theorem R_f2d {x : UInt32} (hd : decode y.2.1 pc = .ok (.f2d, 1)) (hne : vf_n64 (FP.f2d x)) (k : WP g d y (pc + 1) L (.double (FP.f2d x) :: st) M kc Q) : WP g d y pc L (.float x :: st) M kc Q := fun p l e R s m args below meth c Z H locs ls cells slots mc ms S => lv_f2d S.1.1 S.1.2.1 hd hne (k p l e R s m args below meth c Z H locs ls cells slots mc ms S)
theorem R_ddiv {x y1 : UInt64} (hd : decode y.2.1 pc = .ok (.ddiv, 1)) (hne : vf_n64 (FP.ddiv x y1)) (k : WP g d y (pc + 1) L (.double (FP.ddiv x y1) :: st) M kc Q) : WP g d y pc L (.double y1 :: .double x :: st) M kc Q := fun p l e R s m args below meth c Z H locs ls cells slots mc ms S => lv_ddiv S.1.1 S.1.2.1 hd hne (k p l e R s m args below meth c Z H locs ls cells slots mc ms S)
theorem R_fdiv {x y1 : UInt32} (hd : decode y.2.1 pc = .ok (.fdiv, 1)) (hne : vf_n32 (FP.fdiv x y1)) (k : WP g d y (pc + 1) L (.float (FP.fdiv x y1) :: st) M kc Q) : WP g d y pc L (.float y1 :: .float x :: st) M kc Q := fun p l e R s m args below meth c Z H locs ls cells slots mc ms S => lv_fdiv S.1.1 S.1.2.1 hd hne (k p l e R s m args below meth c Z H locs ls cells slots mc ms S)
theorem R_dcmp {x y1 : UInt64} {op : CmpOp} (hd : decode y.2.1 pc = .ok (.dcmp op, 1)) (k : WP g d y (pc + 1) L (.int (Op.cmpValue (FP.dcmp x y1) op) :: st) M kc Q) : WP g d y pc L (.double y1 :: .double x :: st) M kc Q := fun p l e R s m args below meth c Z H locs ls cells slots mc ms S => lv_dcmp S.1.1 S.1.2.1 hd (k p l e R s m args below meth c Z H locs ls cells slots mc ms S)
theorem R_fcmp {x y1 : UInt32} {op : CmpOp} (hd : decode y.2.1 pc = .ok (.fcmp op, 1)) (k : WP g d y (pc + 1) L (.int (Op.cmpValue (FP.fcmp x y1) op) :: st) M kc Q) : WP g d y pc L (.float y1 :: .float x :: st) M kc Q := fun p l e R s m args below meth c Z H locs ls cells slots mc ms S => lv_fcmp S.1.1 S.1.2.1 hd (k p l e R s m args below meth c Z H locs ls cells slots mc ms S)
theorem R_fconst0 (hd : decode y.2.1 pc = .ok (.fconst 0, 1)) (k : WP g d y (pc + 1) L (.float FP.fconst0 :: st) M kc Q) : WP g d y pc L (st) M kc Q := fun p l e R s m args below meth c Z H locs ls cells slots mc ms S => lv_fconst0 S.1.1 S.1.2.1 hd (k p l e R s m args below meth c Z H locs ls cells slots mc ms S)
theorem R_dconst0 (hd : decode y.2.1 pc = .ok (.dconst 0, 1)) (k : WP g d y (pc + 1) L (.double FP.dconst0 :: st) M kc Q) : WP g d y pc L (st) M kc Q := fun p l e R s m args below meth c Z H locs ls cells slots mc ms S => lv_dconst0 S.1.1 S.1.2.1 hd (k p l e R s m args below meth c Z H locs ls cells slots mc ms S)
theorem R_dup {v : Value} (hd : decode y.2.1 pc = .ok (.dup, 1)) (hv : v.category = 1) (k : WP g d y (pc + 1) L (v :: v :: st) M kc Q) : WP g d y pc L (v :: st) M kc Q := fun p l e R s m args below meth c Z H locs ls cells slots mc ms S => lv_dup S.1.1 S.1.2.1 hd hv (k p l e R s m args below meth c Z H locs ls cells slots mc ms S)
theorem R_pop {v : Value} (hd : decode y.2.1 pc = .ok (.pop, 1)) (hv : v.category = 1) (k : WP g d y (pc + 1) L (st) M kc Q) : WP g d y pc L (v :: st) M kc Q := fun p l e R s m args below meth c Z H locs ls cells slots mc ms S => lv_pop S.1.1 S.1.2.1 hd hv (k p l e R s m args below meth c Z H locs ls cells slots mc ms S)
theorem R_dup2 {va vb : Value} (hd : decode y.2.1 pc = .ok (.dup2, 1)) (hva : va.category = 1) (hvb : vb.category = 1) (k : WP g d y (pc + 1) L (va :: vb :: va :: vb :: st) M kc Q) : WP g d y pc L (va :: vb :: st) M kc Q := fun p l e R s m args below meth c Z H locs ls cells slots mc ms S => lv_dup2_11 S.1.1 S.1.2.1 hd hva hvb (k p l e R s m args below meth c Z H locs ls cells slots mc ms S)
theorem R_lcmp {x y1 : Int64} (hd : decode y.2.1 pc = .ok (.lcmp, 1)) (k : WP g d y (pc + 1) L (.int (lg_cmp x y1) :: st) M kc Q) : WP g d y pc L (.long y1 :: .long x :: st) M kc Q := fun p l e R s m args below meth c Z H locs ls cells slots mc ms S => W.lcmp S.1.1 S.1.2.1 hd (k p l e R s m args below meth c Z H locs ls cells slots mc ms S)
theorem R_iload_n {k4 : Fin 4} {i : Nat} {x : Int32} (hd : decode y.2.1 pc = .ok (.iload_n k4, 1)) (hi : (k4 : Nat) = i) (hl : L[i]? = some (some (.int x))) (k : WP g d y (pc + 1) L (.int x :: st) M kc Q) : WP g d y pc L st M kc Q := fun p l e R s m args below meth c Z H locs ls cells slots mc ms S => lv_iload_n S.1.1 S.1.2.1 hd hi (S.2.2.2.1.2.2 i _ hl) (k p l e R s m args below meth c Z H locs ls cells slots mc ms S)
theorem R_iload {i : Nat} {x : Int32} (hd : decode y.2.1 pc = .ok (.iload i, 2)) (hl : L[i]? = some (some (.int x))) (k : WP g d y (pc + 2) L (.int x :: st) M kc Q) : WP g d y pc L st M kc Q := fun p l e R s m args below meth c Z H locs ls cells slots mc ms S => lv_iload S.1.1 S.1.2.1 hd (S.2.2.2.1.2.2 i _ hl) (k p l e R s m args below meth c Z H locs ls cells slots mc ms S)
theorem R_lload_n {k4 : Fin 4} {i : Nat} {x : Int64} (hd : decode y.2.1 pc = .ok (.lload_n k4, 1)) (hi : (k4 : Nat) = i) (hl : L[i]? = some (some (.long x))) (k : WP g d y (pc + 1) L (.long x :: st) M kc Q) : WP g d y pc L st M kc Q := fun p l e R s m args below meth c Z H locs ls cells slots mc ms S => lv_lload_n S.1.1 S.1.2.1 hd hi (S.2.2.2.1.2.2 i _ hl) (k p l e R s m args below meth c Z H locs ls cells slots mc ms S)
theorem R_lload {i : Nat} {x : Int64} (hd : decode y.2.1 pc = .ok (.lload i, 2)) (hl : L[i]? = some (some (.long x))) (k : WP g d y (pc + 2) L (.long x :: st) M kc Q) : WP g d y pc L st M kc Q := fun p l e R s m args below meth c Z H locs ls cells slots mc ms S => lv_lload S.1.1 S.1.2.1 hd (S.2.2.2.1.2.2 i _ hl) (k p l e R s m args below meth c Z H locs ls cells slots mc ms S)
theorem R_aload_n {k4 : Fin 4} {i : Nat} {x : Nat} (hd : decode y.2.1 pc = .ok (.aload_n k4, 1)) (hi : (k4 : Nat) = i) (hl : L[i]? = some (some (.ref x))) (k : WP g d y (pc + 1) L (.ref x :: st) M kc Q) : WP g d y pc L st M kc Q := fun p l e R s m args below meth c Z H locs ls cells slots mc ms S => lv_aload_n S.1.1 S.1.2.1 hd hi (S.2.2.2.1.2.2 i _ hl) (k p l e R s m args below meth c Z H locs ls cells slots mc ms S)
theorem R_aload {i : Nat} {x : Nat} (hd : decode y.2.1 pc = .ok (.aload i, 2)) (hl : L[i]? = some (some (.ref x))) (k : WP g d y (pc + 2) L (.ref x :: st) M kc Q) : WP g d y pc L st M kc Q := fun p l e R s m args below meth c Z H locs ls cells slots mc ms S => lv_aload S.1.1 S.1.2.1 hd (S.2.2.2.1.2.2 i _ hl) (k p l e R s m args below meth c Z H locs ls cells slots mc ms S)
theorem R_fload_n {k4 : Fin 4} {i : Nat} {x : UInt32} (hd : decode y.2.1 pc = .ok (.fload_n k4, 1)) (hi : (k4 : Nat) = i) (hl : L[i]? = some (some (.float x))) (k : WP g d y (pc + 1) L (.float x :: st) M kc Q) : WP g d y pc L st M kc Q := fun p l e R s m args below meth c Z H locs ls cells slots mc ms S => lv_fload_n S.1.1 S.1.2.1 hd hi (S.2.2.2.1.2.2 i _ hl) (k p l e R s m args below meth c Z H locs ls cells slots mc ms S)
theorem R_fload {i : Nat} {x : UInt32} (hd : decode y.2.1 pc = .ok (.fload i, 2)) (hl : L[i]? = some (some (.float x))) (k : WP g d y (pc + 2) L (.float x :: st) M kc Q) : WP g d y pc L st M kc Q := fun p l e R s m args below meth c Z H locs ls cells slots mc ms S => lv_fload S.1.1 S.1.2.1 hd (S.2.2.2.1.2.2 i _ hl) (k p l e R s m args below meth c Z H locs ls cells slots mc ms S)
theorem R_dload_n {k4 : Fin 4} {i : Nat} {x : UInt64} (hd : decode y.2.1 pc = .ok (.dload_n k4, 1)) (hi : (k4 : Nat) = i) (hl : L[i]? = some (some (.double x))) (k : WP g d y (pc + 1) L (.double x :: st) M kc Q) : WP g d y pc L st M kc Q := fun p l e R s m args below meth c Z H locs ls cells slots mc ms S => lv_dload_n S.1.1 S.1.2.1 hd hi (S.2.2.2.1.2.2 i _ hl) (k p l e R s m args below meth c Z H locs ls cells slots mc ms S)
theorem R_dload {i : Nat} {x : UInt64} (hd : decode y.2.1 pc = .ok (.dload i, 2)) (hl : L[i]? = some (some (.double x))) (k : WP g d y (pc + 2) L (.double x :: st) M kc Q) : WP g d y pc L st M kc Q := fun p l e R s m args below meth c Z H locs ls cells slots mc ms S => lv_dload S.1.1 S.1.2.1 hd (S.2.2.2.1.2.2 i _ hl) (k p l e R s m args below meth c Z H locs ls cells slots mc ms S)
end Rows0
/-! stores into locals -/
def isC2 (o : Option (Option Value)) : Bool := match o with
  | some (some (.long _)) => true
  | some (some (.double _)) => true
  | _ => false
def clr (L : List (Option Value)) (i : Nat) : List (Option Value) := match i with
  | 0 => L
  | j + 1 => if isC2 L[j]? = true then L.set j none else L
def set1 (L : List (Option Value)) (i : Nat) (v : Value) : List (Option Value) := (clr L i).set i (some v)
def set2 (L : List (Option Value)) (i : Nat) (v : Value) : List (Option Value) := ((clr L i).set i (some v)).set (i + 1) none
def asc (L : List (Option Value)) : List (Nat × Value) := (List.range L.length).filterMap fun i => (L[i]?.join).map (fun v => (i, v))
theorem asc_mem {L : List (Option Value)} {i : Nat} {v : Value} : (i, v) ∈ asc L ↔ L[i]? = some (some v) := by
  unfold asc
  rw [List.mem_filterMap]
  constructor
  · rintro ⟨j, -, hj⟩
    cases h : L[j]? with
    | none => rw [h] at hj; simp at hj
    | some o =>
      rw [h] at hj
      cases o with
      | none => simp at hj
      | some w =>
        simp at hj
        obtain ⟨rfl, rfl⟩ := hj
        exact h
  · intro h
    exact ⟨i, List.mem_range.mpr (List.getElem?_eq_some_iff.mp h).1, by rw [h]; rfl⟩
theorem LH.has {ls : Array Slot} {n : Nat} {L : List (Option Value)} (h : LH ls n L) : lv_has ls n (asc L) := ⟨h.1, h.2.1, fun q hq => h.2.2 q.1 q.2 (asc_mem.mp hq)⟩
theorem cat2 {v : Value} : v.category = 2 ↔ isC2 (some (some v)) = true := by cases v <;> simp [Value.category, isC2]
theorem clr_at {L : List (Option Value)} {i j : Nat} {v : Value} (h : (clr L i)[j]? = some (some v)) : L[j]? = some (some v) ∧ ¬ (j + 1 = i ∧ v.category = 2) := by
  cases i with
  | zero => exact ⟨h, by omega⟩
  | succ i =>
    unfold clr at h
    by_cases hc : isC2 L[i]? = true
    · simp only [hc, if_true] at h
      rw [List.getElem?_set] at h
      by_cases e : i = j
      · subst e
        simp at h
      · rw [if_neg e] at h
        exact ⟨h, by omega⟩
    · simp only [hc] at h
      refine ⟨by simpa using h, fun q => ?_⟩
      obtain ⟨q1, q2⟩ := q
      have e : j = i := by omega
      subst e
      exact hc (by rw [show L[j]? = some (some v) by simpa using h]; exact cat2.mp q2)
theorem set1_LH {ls : Array Slot} {n : Nat} {L : List (Option Value)} {i : Nat} {v : Value} (h : lv_has ls n ((i, v) :: (asc L).filter (fun q => !(q.1 == i) && !(q.1 + 1 == i && q.2.category == 2)))) : LH ls n (set1 L i v) := by
  refine ⟨h.1, h.2.1, fun j w hj => ?_⟩
  unfold set1 at hj
  rw [List.getElem?_set] at hj
  by_cases e : i = j
  · subst e
    rw [if_pos rfl] at hj
    split at hj
    · simp at hj
      subst hj
      exact h.2.2 (i, v) List.mem_cons_self
    · simp at hj
  · rw [if_neg e] at hj
    obtain ⟨h1, h2⟩ := clr_at hj
    refine h.2.2 (j, w) (List.mem_cons_of_mem _ (List.mem_filter.mpr ⟨asc_mem.mpr h1, ?_⟩))
    simp only [Bool.and_eq_true, Bool.not_eq_true', beq_eq_false_iff_ne, Bool.and_eq_false_iff, ne_eq]
    refine ⟨fun q => e q.symm, ?_⟩
    by_cases q : j + 1 = i
    · exact Or.inr (fun q2 => h2 ⟨q, q2⟩)
    · exact Or.inl q
theorem set2_LH {ls : Array Slot} {n : Nat} {L : List (Option Value)} {i : Nat} {v : Value} (h : lv_has ls n ((i, v) :: (asc L).filter (fun q => !(q.1 == i) && (!(q.1 == i + 1) && !(q.1 + 1 == i && q.2.category == 2))))) : LH ls n (set2 L i v) := by
  refine ⟨h.1, h.2.1, fun j w hj => ?_⟩
  unfold set2 at hj
  rw [List.getElem?_set] at hj
  by_cases e1 : i + 1 = j
  · subst e1
    rw [if_pos rfl] at hj
    split at hj <;> simp at hj
  · rw [if_neg e1, List.getElem?_set] at hj
    by_cases e : i = j
    · subst e
      rw [if_pos rfl] at hj
      split at hj
      · simp at hj
        subst hj
        exact h.2.2 (i, v) List.mem_cons_self
      · simp at hj
    · rw [if_neg e] at hj
      obtain ⟨h1, h2⟩ := clr_at hj
      refine h.2.2 (j, w) (List.mem_cons_of_mem _ (List.mem_filter.mpr ⟨asc_mem.mpr h1, ?_⟩))
      simp only [Bool.and_eq_true, Bool.not_eq_true', beq_eq_false_iff_ne, Bool.and_eq_false_iff, ne_eq]
      refine ⟨fun q => e q.symm, fun q => e1 q.symm, ?_⟩
      by_cases q : j + 1 = i
      · exact Or.inr (fun q2 => h2 ⟨q, q2⟩)
      · exact Or.inl q
section Rows1
variable {g : GG} {d : Nat} {y : Mth} {pc : Nat} {L L' : List (Option Value)} {st : List Value} {M : Mem} {kc : Nat} {Q : Out → Mem → Prop}
theorem R_istore_n {k4 : Fin 4} {i : Nat} {x : Int32} (hd : decode y.2.1 pc = .ok (.istore_n k4, 1)) (hi : (k4 : Nat) = i) (hn : i < y.2.2.1) (hl : set1 L i (.int x) = L') (k : WP g d y (pc + 1) L' st M kc Q) : WP g d y pc L (.int x :: st) M kc Q := fun p l e R s m args below meth c Z H locs ls cells slots mc ms S => lv_istore_n S.1.1 S.1.2.1 hd hi S.2.2.2.1.has hn rfl (fun ls' h => k p l e R s m args below meth c Z H locs ls' cells slots mc ms ⟨S.1, S.2.1, S.2.2.1, hl ▸ set1_LH h, S.2.2.2.2⟩)
theorem R_istore {i : Nat} {x : Int32} (hd : decode y.2.1 pc = .ok (.istore i, 2)) (hn : i < y.2.2.1) (hl : set1 L i (.int x) = L') (k : WP g d y (pc + 2) L' st M kc Q) : WP g d y pc L (.int x :: st) M kc Q := fun p l e R s m args below meth c Z H locs ls cells slots mc ms S => lv_istore S.1.1 S.1.2.1 hd S.2.2.2.1.has hn rfl (fun ls' h => k p l e R s m args below meth c Z H locs ls' cells slots mc ms ⟨S.1, S.2.1, S.2.2.1, hl ▸ set1_LH h, S.2.2.2.2⟩)
theorem R_lstore_n {k4 : Fin 4} {i : Nat} {x : Int64} (hd : decode y.2.1 pc = .ok (.lstore_n k4, 1)) (hi : (k4 : Nat) = i) (hn : i + 1 < y.2.2.1) (hl : set2 L i (.long x) = L') (k : WP g d y (pc + 1) L' st M kc Q) : WP g d y pc L (.long x :: st) M kc Q := fun p l e R s m args below meth c Z H locs ls cells slots mc ms S => lv_lstore_n S.1.1 S.1.2.1 hd hi S.2.2.2.1.has hn rfl (fun ls' h => k p l e R s m args below meth c Z H locs ls' cells slots mc ms ⟨S.1, S.2.1, S.2.2.1, hl ▸ set2_LH h, S.2.2.2.2⟩)
theorem R_lstore {i : Nat} {x : Int64} (hd : decode y.2.1 pc = .ok (.lstore i, 2)) (hn : i + 1 < y.2.2.1) (hl : set2 L i (.long x) = L') (k : WP g d y (pc + 2) L' st M kc Q) : WP g d y pc L (.long x :: st) M kc Q := fun p l e R s m args below meth c Z H locs ls cells slots mc ms S => lv_lstore S.1.1 S.1.2.1 hd S.2.2.2.1.has hn rfl (fun ls' h => k p l e R s m args below meth c Z H locs ls' cells slots mc ms ⟨S.1, S.2.1, S.2.2.1, hl ▸ set2_LH h, S.2.2.2.2⟩)
theorem R_astore_n {k4 : Fin 4} {i : Nat} {x : Nat} (hd : decode y.2.1 pc = .ok (.astore_n k4, 1)) (hi : (k4 : Nat) = i) (hn : i < y.2.2.1) (hl : set1 L i (.ref x) = L') (k : WP g d y (pc + 1) L' st M kc Q) : WP g d y pc L (.ref x :: st) M kc Q := fun p l e R s m args below meth c Z H locs ls cells slots mc ms S => lv_astore_n S.1.1 S.1.2.1 hd hi S.2.2.2.1.has hn rfl (fun ls' h => k p l e R s m args below meth c Z H locs ls' cells slots mc ms ⟨S.1, S.2.1, S.2.2.1, hl ▸ set1_LH h, S.2.2.2.2⟩)
theorem R_astore {i : Nat} {x : Nat} (hd : decode y.2.1 pc = .ok (.astore i, 2)) (hn : i < y.2.2.1) (hl : set1 L i (.ref x) = L') (k : WP g d y (pc + 2) L' st M kc Q) : WP g d y pc L (.ref x :: st) M kc Q := fun p l e R s m args below meth c Z H locs ls cells slots mc ms S => lv_astore S.1.1 S.1.2.1 hd S.2.2.2.1.has hn rfl (fun ls' h => k p l e R s m args below meth c Z H locs ls' cells slots mc ms ⟨S.1, S.2.1, S.2.2.1, hl ▸ set1_LH h, S.2.2.2.2⟩)
theorem R_fstore_n {k4 : Fin 4} {i : Nat} {x : UInt32} (hd : decode y.2.1 pc = .ok (.fstore_n k4, 1)) (hi : (k4 : Nat) = i) (hn : i < y.2.2.1) (hl : set1 L i (.float x) = L') (k : WP g d y (pc + 1) L' st M kc Q) : WP g d y pc L (.float x :: st) M kc Q := fun p l e R s m args below meth c Z H locs ls cells slots mc ms S => lv_fstore_n S.1.1 S.1.2.1 hd hi S.2.2.2.1.has hn rfl (fun ls' h => k p l e R s m args below meth c Z H locs ls' cells slots mc ms ⟨S.1, S.2.1, S.2.2.1, hl ▸ set1_LH h, S.2.2.2.2⟩)
theorem R_fstore {i : Nat} {x : UInt32} (hd : decode y.2.1 pc = .ok (.fstore i, 2)) (hn : i < y.2.2.1) (hl : set1 L i (.float x) = L') (k : WP g d y (pc + 2) L' st M kc Q) : WP g d y pc L (.float x :: st) M kc Q := fun p l e R s m args below meth c Z H locs ls cells slots mc ms S => lv_fstore S.1.1 S.1.2.1 hd S.2.2.2.1.has hn rfl (fun ls' h => k p l e R s m args below meth c Z H locs ls' cells slots mc ms ⟨S.1, S.2.1, S.2.2.1, hl ▸ set1_LH h, S.2.2.2.2⟩)
theorem R_dstore_n {k4 : Fin 4} {i : Nat} {x : UInt64} (hd : decode y.2.1 pc = .ok (.dstore_n k4, 1)) (hi : (k4 : Nat) = i) (hn : i + 1 < y.2.2.1) (hl : set2 L i (.double x) = L') (k : WP g d y (pc + 1) L' st M kc Q) : WP g d y pc L (.double x :: st) M kc Q := fun p l e R s m args below meth c Z H locs ls cells slots mc ms S => lv_dstore_n S.1.1 S.1.2.1 hd hi S.2.2.2.1.has hn rfl (fun ls' h => k p l e R s m args below meth c Z H locs ls' cells slots mc ms ⟨S.1, S.2.1, S.2.2.1, hl ▸ set2_LH h, S.2.2.2.2⟩)
theorem R_dstore {i : Nat} {x : UInt64} (hd : decode y.2.1 pc = .ok (.dstore i, 2)) (hn : i + 1 < y.2.2.1) (hl : set2 L i (.double x) = L') (k : WP g d y (pc + 2) L' st M kc Q) : WP g d y pc L (.double x :: st) M kc Q := fun p l e R s m args below meth c Z H locs ls cells slots mc ms S => lv_dstore S.1.1 S.1.2.1 hd S.2.2.2.1.has hn rfl (fun ls' h => k p l e R s m args below meth c Z H locs ls' cells slots mc ms ⟨S.1, S.2.1, S.2.2.1, hl ▸ set2_LH h, S.2.2.2.2⟩)
theorem R_iinc {i : Nat} {n : Int} {x v : Int32} (hd : decode y.2.1 pc = .ok (.iinc i n, 3)) (hi : L[i]? = some (some (.int x))) (hv : x + Int32.ofInt n = v) (hn : i < y.2.2.1) (hl : set1 L i (.int v) = L') (k : WP g d y (pc + 3) L' st M kc Q) : WP g d y pc L st M kc Q := fun p l e R s m args below meth c Z H locs ls cells slots mc ms S => by
  obtain ⟨j, hj⟩ := List.getElem?_of_mem (asc_mem.mpr hi)
  exact lv_iinc S.1.1 S.1.2.1 hd S.2.2.2.1.has hj hv hn rfl (fun ls' h => k p l e R s m args below meth c Z H locs ls' cells slots mc ms ⟨S.1, S.2.1, S.2.2.1, hl ▸ set1_LH h, S.2.2.2.2⟩)
theorem R_goto {off : Int} {tgt : Nat} (hd : decode y.2.1 pc = .ok (.goto off, 3)) (ht : (pc : Int) + off = (tgt : Int)) (k : WP g d y tgt L st M kc Q) : WP g d y pc L st M kc Q := fun p l e R s m args below meth c Z H locs ls cells slots mc ms S => lv_goto S.1.1 S.1.2.1 hd ht (k p l e R s m args below meth c Z H locs ls cells slots mc ms S)
theorem R_if_eq {x : Int32} {off : Int} {tgt : Nat} (hd : decode y.2.1 pc = .ok (.ifCond .eq off, 3)) (ht : (pc : Int) + off = (tgt : Int)) (kt : x = 0 → WP g d y tgt L st M kc Q) (kf : ¬ x = 0 → WP g d y (pc + 3) L st M kc Q) : WP g d y pc L (.int x :: st) M kc Q := fun p l e R s m args below meth c Z H locs ls cells slots mc ms S => lv_if_eq S.1.1 S.1.2.1 hd ht (fun h => kt h p l e R s m args below meth c Z H locs ls cells slots mc ms S) (fun h => kf h p l e R s m args below meth c Z H locs ls cells slots mc ms S)
theorem R_if_ne {x : Int32} {off : Int} {tgt : Nat} (hd : decode y.2.1 pc = .ok (.ifCond .ne off, 3)) (ht : (pc : Int) + off = (tgt : Int)) (kt : ¬ x = 0 → WP g d y tgt L st M kc Q) (kf : x = 0 → WP g d y (pc + 3) L st M kc Q) : WP g d y pc L (.int x :: st) M kc Q := fun p l e R s m args below meth c Z H locs ls cells slots mc ms S => lv_if_ne S.1.1 S.1.2.1 hd ht (fun h => kt h p l e R s m args below meth c Z H locs ls cells slots mc ms S) (fun h => kf h p l e R s m args below meth c Z H locs ls cells slots mc ms S)
theorem R_if_lt {x : Int32} {off : Int} {tgt : Nat} (hd : decode y.2.1 pc = .ok (.ifCond .lt off, 3)) (ht : (pc : Int) + off = (tgt : Int)) (kt : x < 0 → WP g d y tgt L st M kc Q) (kf : ¬ x < 0 → WP g d y (pc + 3) L st M kc Q) : WP g d y pc L (.int x :: st) M kc Q := fun p l e R s m args below meth c Z H locs ls cells slots mc ms S => lv_if_lt S.1.1 S.1.2.1 hd ht (fun h => kt h p l e R s m args below meth c Z H locs ls cells slots mc ms S) (fun h => kf h p l e R s m args below meth c Z H locs ls cells slots mc ms S)
theorem R_if_ge {x : Int32} {off : Int} {tgt : Nat} (hd : decode y.2.1 pc = .ok (.ifCond .ge off, 3)) (ht : (pc : Int) + off = (tgt : Int)) (kt : 0 ≤ x → WP g d y tgt L st M kc Q) (kf : ¬ 0 ≤ x → WP g d y (pc + 3) L st M kc Q) : WP g d y pc L (.int x :: st) M kc Q := fun p l e R s m args below meth c Z H locs ls cells slots mc ms S => lv_if_ge S.1.1 S.1.2.1 hd ht (fun h => kt h p l e R s m args below meth c Z H locs ls cells slots mc ms S) (fun h => kf h p l e R s m args below meth c Z H locs ls cells slots mc ms S)
theorem R_if_gt {x : Int32} {off : Int} {tgt : Nat} (hd : decode y.2.1 pc = .ok (.ifCond .gt off, 3)) (ht : (pc : Int) + off = (tgt : Int)) (kt : 0 < x → WP g d y tgt L st M kc Q) (kf : ¬ 0 < x → WP g d y (pc + 3) L st M kc Q) : WP g d y pc L (.int x :: st) M kc Q := fun p l e R s m args below meth c Z H locs ls cells slots mc ms S => lv_if_gt S.1.1 S.1.2.1 hd ht (fun h => kt h p l e R s m args below meth c Z H locs ls cells slots mc ms S) (fun h => kf h p l e R s m args below meth c Z H locs ls cells slots mc ms S)
theorem R_if_le {x : Int32} {off : Int} {tgt : Nat} (hd : decode y.2.1 pc = .ok (.ifCond .le off, 3)) (ht : (pc : Int) + off = (tgt : Int)) (kt : x ≤ 0 → WP g d y tgt L st M kc Q) (kf : ¬ x ≤ 0 → WP g d y (pc + 3) L st M kc Q) : WP g d y pc L (.int x :: st) M kc Q := fun p l e R s m args below meth c Z H locs ls cells slots mc ms S => lv_if_le S.1.1 S.1.2.1 hd ht (fun h => kt h p l e R s m args below meth c Z H locs ls cells slots mc ms S) (fun h => kf h p l e R s m args below meth c Z H locs ls cells slots mc ms S)
theorem R_icmp_eq {x y1 : Int32} {off : Int} {tgt : Nat} (hd : decode y.2.1 pc = .ok (.if_icmp .eq off, 3)) (ht : (pc : Int) + off = (tgt : Int)) (kt : x = y1 → WP g d y tgt L st M kc Q) (kf : ¬ x = y1 → WP g d y (pc + 3) L st M kc Q) : WP g d y pc L (.int y1 :: .int x :: st) M kc Q := fun p l e R s m args below meth c Z H locs ls cells slots mc ms S => lv_icmp_eq S.1.1 S.1.2.1 hd ht (fun h => kt h p l e R s m args below meth c Z H locs ls cells slots mc ms S) (fun h => kf h p l e R s m args below meth c Z H locs ls cells slots mc ms S)
theorem R_icmp_ne {x y1 : Int32} {off : Int} {tgt : Nat} (hd : decode y.2.1 pc = .ok (.if_icmp .ne off, 3)) (ht : (pc : Int) + off = (tgt : Int)) (kt : ¬ x = y1 → WP g d y tgt L st M kc Q) (kf : x = y1 → WP g d y (pc + 3) L st M kc Q) : WP g d y pc L (.int y1 :: .int x :: st) M kc Q := fun p l e R s m args below meth c Z H locs ls cells slots mc ms S => lv_icmp_ne S.1.1 S.1.2.1 hd ht (fun h => kt h p l e R s m args below meth c Z H locs ls cells slots mc ms S) (fun h => kf h p l e R s m args below meth c Z H locs ls cells slots mc ms S)
theorem R_icmp_lt {x y1 : Int32} {off : Int} {tgt : Nat} (hd : decode y.2.1 pc = .ok (.if_icmp .lt off, 3)) (ht : (pc : Int) + off = (tgt : Int)) (kt : x < y1 → WP g d y tgt L st M kc Q) (kf : ¬ x < y1 → WP g d y (pc + 3) L st M kc Q) : WP g d y pc L (.int y1 :: .int x :: st) M kc Q := fun p l e R s m args below meth c Z H locs ls cells slots mc ms S => lv_icmp_lt S.1.1 S.1.2.1 hd ht (fun h => kt h p l e R s m args below meth c Z H locs ls cells slots mc ms S) (fun h => kf h p l e R s m args below meth c Z H locs ls cells slots mc ms S)
theorem R_icmp_ge {x y1 : Int32} {off : Int} {tgt : Nat} (hd : decode y.2.1 pc = .ok (.if_icmp .ge off, 3)) (ht : (pc : Int) + off = (tgt : Int)) (kt : y1 ≤ x → WP g d y tgt L st M kc Q) (kf : ¬ y1 ≤ x → WP g d y (pc + 3) L st M kc Q) : WP g d y pc L (.int y1 :: .int x :: st) M kc Q := fun p l e R s m args below meth c Z H locs ls cells slots mc ms S => lv_icmp_ge S.1.1 S.1.2.1 hd ht (fun h => kt h p l e R s m args below meth c Z H locs ls cells slots mc ms S) (fun h => kf h p l e R s m args below meth c Z H locs ls cells slots mc ms S)
theorem R_icmp_gt {x y1 : Int32} {off : Int} {tgt : Nat} (hd : decode y.2.1 pc = .ok (.if_icmp .gt off, 3)) (ht : (pc : Int) + off = (tgt : Int)) (kt : y1 < x → WP g d y tgt L st M kc Q) (kf : ¬ y1 < x → WP g d y (pc + 3) L st M kc Q) : WP g d y pc L (.int y1 :: .int x :: st) M kc Q := fun p l e R s m args below meth c Z H locs ls cells slots mc ms S => lv_icmp_gt S.1.1 S.1.2.1 hd ht (fun h => kt h p l e R s m args below meth c Z H locs ls cells slots mc ms S) (fun h => kf h p l e R s m args below meth c Z H locs ls cells slots mc ms S)
theorem R_icmp_le {x y1 : Int32} {off : Int} {tgt : Nat} (hd : decode y.2.1 pc = .ok (.if_icmp .le off, 3)) (ht : (pc : Int) + off = (tgt : Int)) (kt : x ≤ y1 → WP g d y tgt L st M kc Q) (kf : ¬ x ≤ y1 → WP g d y (pc + 3) L st M kc Q) : WP g d y pc L (.int y1 :: .int x :: st) M kc Q := fun p l e R s m args below meth c Z H locs ls cells slots mc ms S => lv_icmp_le S.1.1 S.1.2.1 hd ht (fun h => kt h p l e R s m args below meth c Z H locs ls cells slots mc ms S) (fun h => kf h p l e R s m args below meth c Z H locs ls cells slots mc ms S)

end Rows1
section Rows2
variable {g : GG} {d : Nat} {y : Mth} {pc : Nat} {L : List (Option Value)} {st : List Value} {M : Mem} {kc : Nat} {Q : Out → Mem → Prop}
/-- words of the fields of each class -/
theorem inAW0 : ∀ w ∈ u_ws RX0 TX0 2, w ∈ AW := by decide +kernel
theorem inAW1 : ∀ w ∈ u_ws RX1 TX1 3, w ∈ AW := by decide +kernel
theorem inAW2 : ∀ w ∈ u_ws RX2 TX2 7, w ∈ AW := by decide +kernel
theorem inAW3 : ∀ w ∈ u_ws RX3 TX3 9, w ∈ AW := by decide +kernel
theorem inAW4 : ∀ w ∈ u_ws RX4 TX4 3, w ∈ AW := by decide +kernel
theorem inAW5 : ∀ w ∈ u_ws RX5 TX5 4, w ∈ AW := by decide +kernel
theorem inAW6 : ∀ w ∈ u_ws RX6 TX6 8, w ∈ AW := by decide +kernel
theorem inAW7 : ∀ w ∈ u_ws RX7 TX7 23, w ∈ AW := by decide +kernel
/-- a class: its fields' table, their types, and what va_get and va_put ask of it -/
def clsOK (c : Nat) (C : String) (T : u_T) (ty : Nat → FieldType) : Prop := c < 8 ∧ cls[c]? = some (C, T, nfC c) ∧ (∀ w ∈ u_ws C T (nfC c), w ∈ AW) ∧ (∀ k, k < nfC c → parseFieldDescriptor (T k).2.2.1 = some (ty k)) ∧ (∀ a, a < nfC c → ∀ b, b < nfC c → a ≠ b → (T a).2.1 ≠ (T b).2.1)
theorem clsOK0 : clsOK 0 RX0 TX0 tyX0 := ⟨by decide, rfl, inAW0, tyX0_ok, nmX0⟩
theorem clsOK1 : clsOK 1 RX1 TX1 tyX1 := ⟨by decide, rfl, inAW1, tyX1_ok, nmX1⟩
theorem clsOK2 : clsOK 2 RX2 TX2 tyX2 := ⟨by decide, rfl, inAW2, tyX2_ok, nmX2⟩
theorem clsOK3 : clsOK 3 RX3 TX3 tyX3 := ⟨by decide, rfl, inAW3, tyX3_ok, nmX3⟩
theorem clsOK4 : clsOK 4 RX4 TX4 tyX4 := ⟨by decide, rfl, inAW4, tyX4_ok, nmX4⟩
theorem clsOK5 : clsOK 5 RX5 TX5 tyX5 := ⟨by decide, rfl, inAW5, tyX5_ok, nmX5⟩
theorem clsOK6 : clsOK 6 RX6 TX6 tyX6 := ⟨by decide, rfl, inAW6, tyX6_ok, nmX6⟩
theorem clsOK7 : clsOK 7 RX7 TX7 tyX7 := ⟨by decide, rfl, inAW7, tyX7_ok, nmX7⟩
/-- a field by its link: the class c, its slot k -/
def fldOK (own : String) (idx c k : Nat) (C : String) (T : u_T) (ty : Nat → FieldType) : Prop := clsOK c C T ty ∧ k < nfC c ∧ Cond.fieldLink own idx (T k).1 (T k).2.1 (T k).2.2.1 ∈ AW
theorem R_getI {own : String} {idx c k i : Nat} {C : String} {T : u_T} {ty : Nat → FieldType} (hf : fldOK own idx c k C T ty) (hy : y.1.cls = own) (hI : isI c k = true) (hk : kd i = c) (hd : decode y.2.1 pc = .ok (.getfield idx, 3)) (kk : WP g d y (pc + 3) L (.int (M.1 i k) :: st) M kc Q) : WP g d y pc L (.ref (g.1 + i) :: st) M kc Q := fun p l e R s m args below meth c0 Z H locs ls cells slots mc ms S => by
  obtain ⟨⟨h1, h2, h3, h4, h5⟩, h6, h7⟩ := hf
  obtain ⟨q0, hq⟩ := rep_at g M (i := i) (by omega)
  rw [cell_o g M hk h1] at hq
  exact va_get (D := g.2.1) (v := .int (M.1 i k)) S.1.1 S.1.2.1 S.1.2.2.2.2.2.1 h3 (hy ▸ S.1.2.2.2.2.1) S.1.2.2.2.2.2.2.2.2.2.1.2.1 S.2.1 q0 hq h2 k h6 (S.1.2.2.2.2.2.1 _ h7) (fun _ h9 => h9) ((fl_at g M i c k h6).trans (by rw [if_pos hI])) hd (kk p l e R s m args below meth c0 Z H locs ls cells slots mc ms S)
theorem R_getR {own : String} {idx c k i : Nat} {C : String} {T : u_T} {ty : Nat → FieldType} (hf : fldOK own idx c k C T ty) (hy : y.1.cls = own) (hI : isI c k = false) (hk : kd i = c) (hd : decode y.2.1 pc = .ok (.getfield idx, 3)) (kk : WP g d y (pc + 3) L (.ref (g.1 + rf i k) :: st) M kc Q) : WP g d y pc L (.ref (g.1 + i) :: st) M kc Q := fun p l e R s m args below meth c0 Z H locs ls cells slots mc ms S => by
  obtain ⟨⟨h1, h2, h3, h4, h5⟩, h6, h7⟩ := hf
  obtain ⟨q0, hq⟩ := rep_at g M (i := i) (by omega)
  rw [cell_o g M hk h1] at hq
  exact va_get (D := g.2.1) (v := .ref (g.1 + rf i k)) S.1.1 S.1.2.1 S.1.2.2.2.2.2.1 h3 (hy ▸ S.1.2.2.2.2.1) S.1.2.2.2.2.2.2.2.2.2.1.2.1 S.2.1 q0 hq h2 k h6 (S.1.2.2.2.2.2.1 _ h7) (fun _ h9 => h9) ((fl_at g M i c k h6).trans (by rw [if_neg (by rw [hI]; decide)])) hd (kk p l e R s m args below meth c0 Z H locs ls cells slots mc ms S)
theorem R_putI {own : String} {idx c k i : Nat} {C : String} {T : u_T} {ty : Nat → FieldType} {v : Int32} (hf : fldOK own idx c k C T ty) (hy : y.1.cls = own) (hI : isI c k = true) (hfin : (T k).2.2.2 = false) (hk : kd i = c) (hn : narrow (ty k) (.int v) = .int v) (hfit : fits (ty k) (.int v) = true) (hd : decode y.2.1 pc = .ok (.putfield idx, 3)) (kk : WP g d y (pc + 3) L st (mset M i k v) kc Q) : WP g d y pc L (.int v :: .ref (g.1 + i) :: st) M kc Q := fun p l e R s m args below meth c0 Z H locs ls cells slots mc ms S => by
  obtain ⟨⟨h1, h2, h3, h4, h5⟩, h6, h7⟩ := hf
  have h99 : kd i < 99 := by omega
  obtain ⟨q0, hq⟩ := rep_at g M h99
  have hq2 := hq
  rw [cell_o g M hk h1] at hq
  refine va_put (D := g.2.1) (ty := ty k) S.1.1 S.1.2.1 S.1.2.2.2.2.2.1 h3 ty h4 h5 (hy ▸ S.1.2.2.2.2.1) S.1.2.2.2.2.2.2.2.2.2.1.2.1 S.2.1 (repD g M) S.2.2.1 q0 hq h2 k h6 (S.1.2.2.2.2.2.1 _ h7) (fun _ h9 => h9) hfin (h4 k h6) hn hfit (by rw [fl_len]; exact h6) hd (fun H1 locs1 hP hD hS => ?_)
  rw [fl_set g M i c k v hI, rep_set (M' := mset M i k v) h99 hq2 (cell_o g _ hk h1) (fun j hj => cell_ne g (mset_ne hj) rfl)] at hP
  exact kk p l e R s m args below meth c0 Z H1 locs1 ls cells slots mc ms ⟨S.1, hP, hS, S.2.2.2⟩
theorem R_iald {i : Nat} {j : Int32} (hk : kd i = 9) (hin : vp_in j (ln i)) (hd : decode y.2.1 pc = .ok (.iaload, 1)) (kk : WP g d y (pc + 1) L (.int (M.1 i j.toNatClampNeg) :: st) M kc Q) : WP g d y pc L (.int j :: .ref (g.1 + i) :: st) M kc Q := fun p l e R s m args below meth c0 Z H locs ls cells slots mc ms S => by
  obtain ⟨q0, hq⟩ := rep_at g M (i := i) (by omega)
  rw [cell_9 g M hk] at hq
  exact va_iald S.1.1 S.1.2.1 S.1.2.2.2.2.2.2.2.2.2.1.2.1 S.2.1 q0 1 hq rfl hin hd (kk p l e R s m args below meth c0 Z H locs ls cells slots mc ms S)
theorem R_cald {i : Nat} {j : Int32} (hk : kd i = 8) (hin : vp_in j (ln i)) (hd : decode y.2.1 pc = .ok (.caload, 1)) (kk : WP g d y (pc + 1) L (.int (M.1 i j.toNatClampNeg) :: st) M kc Q) : WP g d y pc L (.int j :: .ref (g.1 + i) :: st) M kc Q := fun p l e R s m args below meth c0 Z H locs ls cells slots mc ms S => by
  obtain ⟨q0, hq⟩ := rep_at g M (i := i) (by omega)
  rw [cell_8 g M hk] at hq
  exact va_cald S.1.1 S.1.2.1 S.1.2.2.2.2.2.2.2.2.2.1.2.1 S.2.1 q0 0 hq rfl hin hd (kk p l e R s m args below meth c0 Z H locs ls cells slots mc ms S)
theorem R_lald {i : Nat} {j : Int32} (hk : kd i = 12) (hin : vp_in j (ln i)) (hd : decode y.2.1 pc = .ok (.laload, 1)) (kk : WP g d y (pc + 1) L (.long (M.2.1 j.toNatClampNeg) :: st) M kc Q) : WP g d y pc L (.int j :: .ref (g.1 + i) :: st) M kc Q := fun p l e R s m args below meth c0 Z H locs ls cells slots mc ms S => by
  obtain ⟨q0, hq⟩ := rep_at g M (i := i) (by omega)
  rw [cell_12 g M hk] at hq
  exact va_lald S.1.1 S.1.2.1 S.1.2.2.2.2.2.2.2.2.2.1.2.1 S.2.1 q0 4 hq rfl hin hd (kk p l e R s m args below meth c0 Z H locs ls cells slots mc ms S)
theorem R_dald {i : Nat} {j : Int32} (hk : kd i = 13) (hin : vp_in j (ln i)) (hd : decode y.2.1 pc = .ok (.daload, 1)) (kk : WP g d y (pc + 1) L (.double (M.2.2 j.toNatClampNeg) :: st) M kc Q) : WP g d y pc L (.int j :: .ref (g.1 + i) :: st) M kc Q := fun p l e R s m args below meth c0 Z H locs ls cells slots mc ms S => by
  obtain ⟨q0, hq⟩ := rep_at g M (i := i) (by omega)
  rw [cell_13 g M hk] at hq
  exact va_dald S.1.1 S.1.2.1 S.1.2.2.2.2.2.2.2.2.2.1.2.1 S.2.1 q0 5 hq rfl hin hd (kk p l e R s m args below meth c0 Z H locs ls cells slots mc ms S)
theorem R_aald {i : Nat} {j : Int32} (hk : kd i = 10 ∨ kd i = 11) (hin : vp_in j (ln i)) (hd : decode y.2.1 pc = .ok (.aaload, 1)) (kk : WP g d y (pc + 1) L (.ref (g.1 + rf i j.toNatClampNeg) :: st) M kc Q) : WP g d y pc L (.int j :: .ref (g.1 + i) :: st) M kc Q := fun p l e R s m args below meth c0 Z H locs ls cells slots mc ms S => by
  obtain ⟨q0, hq⟩ := rep_at g M (i := i) (by omega)
  have hK := S.1.2.2.2.2.2.2.2.2.2.1.2.1
  have hlt : j.toNatClampNeg < ln i := Nat.not_le.mp fun q => hin (Or.inr q)
  rcases hk with hk | hk
  · rw [cell_10 g M hk] at hq
    exact va_aldq S.1.1 S.1.2.1 hK S.2.1 q0 2 hq rfl hin hd (kk p l e R s m args below meth c0 Z H locs ls cells slots mc ms S)
  · rw [cell_11 g M hk] at hq
    exact W.aald (v := .ref (g.1 + rf i j.toNatClampNeg)) (ty := .array .int) S.1.1 S.1.2.1 (S.2.1 q0 _ hq) ((hK.2 3 _ rfl).1 (ln i) (fun k => va_rf (some (g.1 + rf i k)))) rfl (fun q => by cases q) (by show ¬ (j < 0 ∨ (arrV _ _ _).slots.size ≤ _); rw [arrV_size]; exact hin) (by show (arrV _ _ _).slots[_]? = _; rw [arrV_read _ _ hlt]; rfl) rfl rfl hd (kk p l e R s m args below meth c0 Z H locs ls cells slots mc ms S)
theorem R_alen {i : Nat} (hk : 8 ≤ kd i) (hk2 : kd i < 14) (hd : decode y.2.1 pc = .ok (.arraylength, 1)) (kk : WP g d y (pc + 1) L (.int (Int32.ofNat (ln i)) :: st) M kc Q) : WP g d y pc L (.ref (g.1 + i) :: st) M kc Q := fun p l e R s m args below meth c0 Z H locs ls cells slots mc ms S => by
  obtain ⟨q0, hq⟩ := rep_at g M (i := i) (by omega)
  have hK := S.1.2.2.2.2.2.2.2.2.2.1.2.1
  have kk' := kk p l e R s m args below meth c0 Z H locs ls cells slots mc ms S
  rcases (show kd i = 8 ∨ kd i = 9 ∨ kd i = 10 ∨ kd i = 11 ∨ kd i = 12 ∨ kd i = 13 by omega) with h | h | h | h | h | h
  · rw [cell_8 g M h] at hq; exact va_alen S.1.1 S.1.2.1 hK S.2.1 q0 0 hq rfl rfl hd kk'
  · rw [cell_9 g M h] at hq; exact va_alen S.1.1 S.1.2.1 hK S.2.1 q0 1 hq rfl rfl hd kk'
  · rw [cell_10 g M h] at hq; exact va_alen S.1.1 S.1.2.1 hK S.2.1 q0 2 hq rfl rfl hd kk'
  · rw [cell_11 g M h] at hq; exact va_alen S.1.1 S.1.2.1 hK S.2.1 q0 3 hq rfl rfl hd kk'
  · rw [cell_12 g M h] at hq; exact va_alen S.1.1 S.1.2.1 hK S.2.1 q0 4 hq rfl rfl hd kk'
  · rw [cell_13 g M h] at hq; exact va_alen S.1.1 S.1.2.1 hK S.2.1 q0 5 hq rfl rfl hd kk'
theorem R_iast {i : Nat} {j v : Int32} (hk : kd i = 9) (hin : vp_in j (ln i)) (hd : decode y.2.1 pc = .ok (.iastore, 1)) (kk : WP g d y (pc + 1) L st (mset M i j.toNatClampNeg v) kc Q) : WP g d y pc L (.int v :: .int j :: .ref (g.1 + i) :: st) M kc Q := fun p l e R s m args below meth c0 Z H locs ls cells slots mc ms S => by
  have h99 : kd i < 99 := by omega
  obtain ⟨q0, hq⟩ := rep_at g M h99
  have hq2 := hq
  rw [cell_9 g M hk] at hq
  refine va_iast S.1.1 S.1.2.1 S.1.2.2.2.2.2.2.2.2.2.1.2.1 S.2.1 (repD g M) S.2.2.1 q0 1 hq rfl hin hd (fun H1 locs1 hP hD hS => ?_)
  rw [rep_set (M' := mset M i j.toNatClampNeg v) h99 hq2 (by rw [cell_9 g _ hk, mset_at]) (fun k hk => cell_ne g (mset_ne hk) rfl)] at hP
  exact kk p l e R s m args below meth c0 Z H1 locs1 ls cells slots mc ms ⟨S.1, hP, hS, S.2.2.2⟩
theorem R_cast {i : Nat} {j v : Int32} (hk : kd i = 8) (hin : vp_in j (ln i)) (hd : decode y.2.1 pc = .ok (.castore, 1)) (kk : WP g d y (pc + 1) L st (mset M i j.toNatClampNeg (vp_nar .char v)) kc Q) : WP g d y pc L (.int v :: .int j :: .ref (g.1 + i) :: st) M kc Q := fun p l e R s m args below meth c0 Z H locs ls cells slots mc ms S => by
  have h99 : kd i < 99 := by omega
  obtain ⟨q0, hq⟩ := rep_at g M h99
  have hq2 := hq
  rw [cell_8 g M hk] at hq
  refine va_cast S.1.1 S.1.2.1 S.1.2.2.2.2.2.2.2.2.2.1.2.1 S.2.1 (repD g M) S.2.2.1 q0 0 hq rfl hin hd (fun H1 locs1 hP hD hS => ?_)
  rw [rep_set (M' := mset M i j.toNatClampNeg (vp_nar .char v)) h99 hq2 (by rw [cell_8 g _ hk, mset_at]) (fun k hk => cell_ne g (mset_ne hk) rfl)] at hP
  exact kk p l e R s m args below meth c0 Z H1 locs1 ls cells slots mc ms ⟨S.1, hP, hS, S.2.2.2⟩
theorem R_last {i : Nat} {j : Int32} {v : Int64} (hk : kd i = 12) (hin : vp_in j (ln i)) (hd : decode y.2.1 pc = .ok (.lastore, 1)) (kk : WP g d y (pc + 1) L st (M.1, vp_updL M.2.1 j.toNatClampNeg v, M.2.2) kc Q) : WP g d y pc L (.long v :: .int j :: .ref (g.1 + i) :: st) M kc Q := fun p l e R s m args below meth c0 Z H locs ls cells slots mc ms S => by
  have h99 : kd i < 99 := by omega
  obtain ⟨q0, hq⟩ := rep_at g M h99
  have hq2 := hq
  rw [cell_12 g M hk] at hq
  refine va_last S.1.1 S.1.2.1 S.1.2.2.2.2.2.2.2.2.2.1.2.1 S.2.1 (repD g M) S.2.2.1 q0 4 hq rfl hin hd (fun H1 locs1 hP hD hS => ?_)
  rw [rep_set (M' := (M.1, vp_updL M.2.1 j.toNatClampNeg v, M.2.2)) h99 hq2 (by rw [cell_12 g _ hk]) (fun k hne => cell_k12 g rfl rfl (fun q => hne (kd12 q hk)))] at hP
  exact kk p l e R s m args below meth c0 Z H1 locs1 ls cells slots mc ms ⟨S.1, hP, hS, S.2.2.2⟩
theorem R_dast {i : Nat} {j : Int32} {v : UInt64} (hk : kd i = 13) (hin : vp_in j (ln i)) (hd : decode y.2.1 pc = .ok (.dastore, 1)) (kk : WP g d y (pc + 1) L st (M.1, M.2.1, vf_upd M.2.2 j.toNatClampNeg v) kc Q) : WP g d y pc L (.double v :: .int j :: .ref (g.1 + i) :: st) M kc Q := fun p l e R s m args below meth c0 Z H locs ls cells slots mc ms S => by
  have h99 : kd i < 99 := by omega
  obtain ⟨q0, hq⟩ := rep_at g M h99
  have hq2 := hq
  rw [cell_13 g M hk] at hq
  refine va_dast S.1.1 S.1.2.1 S.1.2.2.2.2.2.2.2.2.2.1.2.1 S.2.1 (repD g M) S.2.2.1 q0 5 hq rfl hin hd (fun H1 locs1 hP hD hS => ?_)
  rw [rep_set (M' := (M.1, M.2.1, vf_upd M.2.2 j.toNatClampNeg v)) h99 hq2 (by rw [cell_13 g _ hk]) (fun k hne => cell_k13 g rfl rfl (fun q => hne (kd13 q hk)))] at hP
  exact kk p l e R s m args below meth c0 Z H1 locs1 ls cells slots mc ms ⟨S.1, hP, hS, S.2.2.2⟩
theorem R_ldc {own : String} {idx : Nat} {v : Int32} (hy : y.1.cls = own) (hc : Cond.constant own idx v ∈ AW) (hd : decode y.2.1 pc = .ok (.ldc idx, 2)) (kk : WP g d y (pc + 2) L (.int v :: st) M kc Q) : WP g d y pc L st M kc Q := fun p l e R s m args below meth c0 Z H locs ls cells slots mc ms S => lv_ldc S.1.1 S.1.2.1 (hy ▸ S.1.2.2.2.2.1) (S.1.2.2.2.2.2.1 _ hc) hd (kk p l e R s m args below meth c0 Z H locs ls cells slots mc ms S)
theorem R_ldcw {own : String} {idx : Nat} {v : Int32} (hy : y.1.cls = own) (hc : Cond.constant own idx v ∈ AW) (hd : decode y.2.1 pc = .ok (.ldc_w idx, 3)) (kk : WP g d y (pc + 3) L (.int v :: st) M kc Q) : WP g d y pc L st M kc Q := fun p l e R s m args below meth c0 Z H locs ls cells slots mc ms S => lv_ldcw S.1.1 S.1.2.1 (hy ▸ S.1.2.2.2.2.1) (S.1.2.2.2.2.2.1 _ hc) hd (kk p l e R s m args below meth c0 Z H locs ls cells slots mc ms S)
theorem R_ldc2 {own : String} {idx : Nat} {v : Int64} (hy : y.1.cls = own) (hc : Cond.constantLong own idx v ∈ AW) (hd : decode y.2.1 pc = .ok (.ldc2_w idx, 3)) (kk : WP g d y (pc + 3) L (.long v :: st) M kc Q) : WP g d y pc L st M kc Q := fun p l e R s m args below meth c0 Z H locs ls cells slots mc ms S => lv_ldc2 S.1.1 S.1.2.1 (hy ▸ S.1.2.2.2.2.1) (S.1.2.2.2.2.2.1 _ hc) hd (kk p l e R s m args below meth c0 Z H locs ls cells slots mc ms S)
theorem R_ret (hd : RetAt y.2.1 pc none) (h : Q (.inl none) M) : WP g d y pc L [] M kc Q := fun p l e R s m args below meth c0 Z H locs ls cells slots mc ms S => S.2.2.2.2.2.1 none M H locs ls pc cells slots h S.2.1 S.2.2.1 (by have := S.2.2.2.2.1; omega) (by have := S.2.2.2.2.1; omega) hd
theorem R_retv {v : Value} (hd : RetAt y.2.1 pc (some v)) (h : Q (.inl (some v)) M) : WP g d y pc L [v] M kc Q := fun p l e R s m args below meth c0 Z H locs ls cells slots mc ms S => S.2.2.2.2.2.1 (some v) M H locs ls pc cells slots h S.2.1 S.2.2.1 (by have := S.2.2.2.2.1; omega) (by have := S.2.2.2.2.1; omega) hd
theorem R_tsIn {dflt lo hi : Int} {offs : Array Int} {len : Nat} {x : Int32} {off : Int} {tgt : Nat} (hd : decode y.2.1 pc = .ok (.tableswitch dflt lo hi offs, len)) (h1 : ¬ x.toInt < lo) (h2 : ¬ hi < x.toInt) (ho : offs[(x.toInt - lo).toNat]? = some off) (ht : (pc : Int) + off = (tgt : Int)) (k : WP g d y tgt L st M kc Q) : WP g d y pc L (.int x :: st) M kc Q := fun p l e R s m args below meth c0 Z H locs ls cells slots mc ms S => lv_tableIn S.1.1 S.1.2.1 hd h1 h2 ho ht (k p l e R s m args below meth c0 Z H locs ls cells slots mc ms S)
theorem R_tsOut {dflt lo hi : Int} {offs : Array Int} {len : Nat} {x : Int32} {tgt : Nat} (hd : decode y.2.1 pc = .ok (.tableswitch dflt lo hi offs, len)) (h : x.toInt < lo ∨ hi < x.toInt) (ht : (pc : Int) + dflt = (tgt : Int)) (k : WP g d y tgt L st M kc Q) : WP g d y pc L (.int x :: st) M kc Q := fun p l e R s m args below meth c0 Z H locs ls cells slots mc ms S => lv_tableOut S.1.1 S.1.2.1 hd h ht (k p l e R s m args below meth c0 Z H locs ls cells slots mc ms S)
theorem R_lks {dflt : Int} {ps : Array (Int × Int)} {len : Nat} {x : Int32} {off : Int} {tgt : Nat} (hd : decode y.2.1 pc = .ok (.lookupswitch dflt ps, len)) (hp : (ps.toList.zip (ps.toList.drop 1)).all (fun (a, next) => a.1 < next.1) = true) (ho : Op.lookupswitch.offset ps.toList dflt x.toInt = off) (ht : (pc : Int) + off = (tgt : Int)) (k : WP g d y tgt L st M kc Q) : WP g d y pc L (.int x :: st) M kc Q := fun p l e R s m args below meth c0 Z H locs ls cells slots mc ms S => lv_lookup S.1.1 S.1.2.1 hd hp ho ht (k p l e R s m args below meth c0 Z H locs ls cells slots mc ms S)
theorem aw_ac1 : Cond.native arraycopyName ∈ AW := aw_t 238 (by decide +kernel) (by decide +kernel)
theorem aw_ac2 : Cond.static arraycopyName ∈ AW := aw_t 237 (by decide +kernel) (by decide +kernel)
theorem aw_ac3 : Cond.initialized "java/lang/System" ∈ AW := aw_t 14 (by decide +kernel) (by decide +kernel)
theorem R_copy {own : String} {idx : Nat} {i j : Nat} {sp dp n : Int32} (hy : y.1.cls = own) (hlink : Cond.methodLink own idx arraycopyName ∈ AW) (hki : kd i = 9) (hkj : kd j = 9) (h1 : ¬ sp < 0) (h2 : ¬ dp < 0) (h3 : ¬ n < 0) (h4 : sp.toNatClampNeg + n.toNatClampNeg ≤ ln i) (h5 : dp.toNatClampNeg + n.toNatClampNeg ≤ ln j) (hst : (st.map fun v => v.category).sum ≤ 8) (hd1 : 1 ≤ d) (hd : decode y.2.1 pc = .ok (.invokestatic idx, 3)) (kk : WP g d y (pc + 3) L st (mcpy M i j sp.toNatClampNeg dp.toNatClampNeg n.toNatClampNeg) kc Q) : WP g d y pc L (.int n :: .int dp :: .ref (g.1 + j) :: .int sp :: .ref (g.1 + i) :: st) M kc Q := fun p l e R s m args below meth c0 Z H locs ls cells slots mc ms S => by
  have h99 : kd j < 99 := by omega
  obtain ⟨q0, hq0⟩ := rep_at g M (i := i) (by omega)
  obtain ⟨q1, hq1⟩ := rep_at g M h99
  have hq2 := hq1
  rw [cell_9 g M hki] at hq0
  rw [cell_9 g M hkj] at hq1
  have hfr := S.1.2.2.2.2.2.2.2.2.2.2
  have hw9 : nativeFrameWords "java/lang/System" "arraycopy" 5 ≤ 81 := by decide +kernel
  refine va_copyi S.1.1 S.1.2.1 (S.1.2.2.2.1.trans S.2.2.2.1.1.symm) (hy ▸ S.1.2.2.2.2.1) (S.1.2.2.2.2.2.1 _ hlink) (S.1.2.2.2.2.2.1 _ aw_ac1) (S.1.2.2.2.2.2.1 _ aw_ac2) (S.1.2.2.2.2.2.1 _ aw_ac3) S.1.2.2.2.2.2.2.2.2.2.1.2.1 S.2.1 (repD g M) S.2.2.1 q0 q1 1 1 hq0 hq1 rfl rfl rfl h1 h2 h3 h4 h5 (fun k _ => rfl) (by omega) (by omega) hd (fun H1 locs1 hP hD hS => ?_)
  rw [rep_set (M' := mcpy M i j sp.toNatClampNeg dp.toNatClampNeg n.toNatClampNeg) h99 hq2 (by rw [cell_9 g _ hkj, mcpy_at]) (fun k hk => cell_ne g (mcpy_ne hk) rfl)] at hP
  exact kk p l e R s m args below meth c0 Z H1 locs1 ls cells slots mc ms ⟨S.1, hP, hS, S.2.2.2⟩
end Rows2
section Rows3
variable {g : GG} {d : Nat} {y : Mth} {pc : Nat} {L : List (Option Value)} {st : List Value} {M : Mem} {kc : Nat} {Q : Out → Mem → Prop}
theorem W_mono {p : Program} {l : Launch} {e : Env} {R : Room} {s : State} {m : MethodId} {args : Array Value} {below : List Frame} {meth : Method} {c : Code} {H : Heap} {locs : List Loc} {cells slots : Nat} {Z Z' : State → Prop} {g0 : JFrame} (h : ∀ t, Z t → Z' t) (k : W p l e R s m args below meth c H locs cells slots Z g0) : W p l e R s m args below meth c H locs cells slots Z' g0 := fun T hT X => (k T hT X).elim fun t q => ⟨t, q.1, h t q.2⟩
theorem vxW_mono {p : Program} {l : Launch} {e : Env} {R : Room} {s : State} {m : MethodId} {args : Array Value} {below : List Frame} {meth : Method} {c : Code} {H : Heap} {locs : List Loc} {cells slots : Nat} {Z Z' : State → Prop} {g0 : JFrame} {q : Addr} (h : ∀ t, Z t → Z' t) (k : vx_W p l e R s m args below meth c H locs cells slots Z g0 q) : vx_W p l e R s m args below meth c H locs cells slots Z' g0 q := fun T hT X => (k T hT X).elim fun t q => ⟨t, q.1, h t q.2⟩
theorem ok_ot {w : Cond} (h : okWord w = true) : vx_ot w = true := by
  unfold okWord at h
  rw [Bool.or_eq_true, Bool.and_eq_true] at h
  unfold vx_ot
  rw [Bool.or_eq_true]
  rcases h with h | ⟨h, -⟩
  · exact Or.inr h
  · exact Or.inl h
/-- a throw's words -/
def thrOK (own : String) (ik is ic : Nat) (E text : String) : Prop := Bundle.fit E = true ∧ (∀ n ∈ ["java/lang/RuntimeException", "java/lang/Exception"], Bundle.fit n = true) ∧ Cond.classLink own ik E ∈ AW ∧ Cond.initialized E ∈ AW ∧ (own, is, text) ∈ STRS ∧ (∀ w ∈ vx_atS own ic E ["java/lang/RuntimeException", "java/lang/Exception"], w ∈ AW)
theorem R_throw {own E text : String} {ik is ic : Nat} (hy : y.1.cls = own) (hh : y.2.2.2.2 = []) (ht : thrOK own ik is ic E text) (hk : 1 ≤ kc) (hdd : 7 ≤ d) (hst : (st.map fun v => v.category).sum ≤ 8)
    (d0 : decode y.2.1 pc = .ok (.new ik, 3)) (d3 : decode y.2.1 (pc + 3) = .ok (.dup, 1)) (d4 : decode y.2.1 (pc + 4) = .ok (.ldc is, 2)) (d6 : decode y.2.1 (pc + 6) = .ok (.invokespecial ic, 3)) (d9 : decode y.2.1 (pc + 9) = .ok (.athrow, 1)) (h : Q (.inr E) M) : WP g d y pc L st M kc Q := fun p l e R s m args below meth c0 Z H locs ls cells slots mc ms S => by
  obtain ⟨t1, t2, t3, t4, t5, t6⟩ := ht
  obtain ⟨⟨hx, hb, hr, hml, hown, hts, hlk, hxt, htr, henv, hf, hl⟩, hP, hS, hL, hB, hR, hX⟩ := S
  obtain ⟨e1, e2, e3, e4, e5, e6, e7, -, -⟩ := henv
  obtain ⟨sa, hsa⟩ := e5 _ t5
  subst hy
  refine W_mono hX (vx_throwS (names := ["java/lang/RuntimeException", "java/lang/Exception"]) (A := AG g) hx hb htr hown t1 t2 (hts _ t3) (hts _ t4) hsa (fun w hw => hts w (t6 w hw)) ?_ e3 e4 hS (hL.1.trans hml.symm) d0 d3 d4 d6 d9 ?_ ?_ ?_ (by omega) (by omega) hlk ?_ (fun z hz => hS.2.2 z hz) (by omega) (by omega))
  · intro w hw
    have hin : w ∈ AW := by
      rcases List.mem_cons.mp hw with q | q
      · rw [q]; exact t3
      · rcases List.mem_cons.mp q with q | q
        · rw [q]; exact t4
        · exact t6 w q
    exact ok_ot (aw_ok hin)
  · intro x hx9
    rw [hxt, hh] at hx9
    cases hx9
  · show 2 + 3 < R.frames
    omega
  · show (st.map fun v => v.category).sum + (13 * (2 + 1) + 43) ≤ R.locals
    omega
  · intro t hvm hz hk2
    refine ⟨M, h, fun k q hq => ?_, ⟨Nat.le_trans hS.1 hz, fun q h1 h2 => (hk2 q (Nat.lt_of_lt_of_le h1 hS.1)).trans (hS.2.1 q h1 h2)⟩⟩
    have h9 := hP.kept (H1 := t.heap) (fun k x hx => hk2 x.1 ((hP k x hx).lt))
    exact h9 k q hq
/-- a method's contract: called with these values on this memory it comes back, or throws, as Q says; kc new cells at most -/
def CT (g : GG) (d : Nat) (y : Mth) (av : List Value) (M : Mem) (kc : Nat) (Q : Out → Mem → Prop) : Prop :=
  ∀ l : Launch, l.stackTraces = false → vx_Met l y.1 (wsY y) (rmD d kc) (va_Pc av (fun U => Rep g M U.heap ∧ Env0 g U)) (fun _ st oc t => ∃ (o : Option Value) (M' : Mem), oc = .returned o ∧ Q (.inl o) M' ∧ Rep g M' t.heap ∧ va_F (AG g) st t) (XQ g Q) kc (6 * kc) (AG g)
/-- what a method must be to have a contract: its name is plain, its code is told, its answer is of its type -/
def retOK (y : Mth) (Q : Out → Mem → Prop) : Prop := ∀ (o : Option Value) (M' : Mem), Q (.inl o) M' → match o with
  | none => y.2.2.2.1 = none
  | some (.int v) => ∃ ty, y.2.2.2.1 = some ty ∧ narrow ty (.int v) = .int v
  | some (.long _) => y.2.2.2.1 = some .long
  | some (.float _) => y.2.2.2.1 = some .float
  | some (.double _) => y.2.2.2.1 = some .double
  | some (.ref _) => ∃ t, y.2.2.2.1 = some (.array t)
  | _ => False
def ents0 (av : List Value) : List (Option Value) := av.flatMap fun v => if v.category = 2 then [some v, none] else [some v]
def ents (av : List Value) (n : Nat) : List (Option Value) := ents0 av ++ List.replicate (n - (ents0 av).length) none
theorem ents_args (av : List Value) : ∀ (i j : Nat) (v : Value), (av.flatMap fun v => if v.category = 2 then [some v, none] else [some v])[j]? = some (some v) → (i + j, v) ∈ lv_args i av := by
  induction av with
  | nil => intro i j v h; simp at h
  | cons a av ih =>
    intro i j v h
    unfold lv_args
    by_cases hc : a.category = 2
    · rw [List.flatMap_cons, if_pos hc] at h
      rw [if_pos hc]
      match j, h with
      | 0, h => simp at h; subst h; exact List.mem_cons_self
      | 1, h => simp at h
      | j + 2, h =>
        have := ih (i + 2) j v (by simpa using h)
        exact List.mem_cons_of_mem _ (by rw [show i + (j + 2) = i + 2 + j by omega]; exact this)
    · rw [List.flatMap_cons, if_neg hc] at h
      rw [if_neg hc]
      match j, h with
      | 0, h => simp at h; subst h; exact List.mem_cons_self
      | j + 1, h =>
        have := ih (i + 1) j v (by simpa using h)
        exact List.mem_cons_of_mem _ (by rw [show i + (j + 1) = i + 1 + j by omega]; exact this)
theorem codeTable {l : Launch} {p : Program} {x y : MethodName} {S : Spec} {cc bytes : ByteArray} {maxL maxL' : Nat} {ret ret' : Option FieldType} {e : Env} {s s₁ : State} {m : MethodId} {args : Array Value} {below : List Frame} {meth : Method} {c : Code} (B : BodyLoose p l y S cc maxL ret e s m args below meth c s₁) (h : (Cond.code y bytes maxL' ret').before args s = true) : c.exceptionTable.toList = [] := by
  obtain ⟨meth9, c9, h1, h2, -, -, -, -, h7, -⟩ := Cond.code_spec B.named h
  cases Option.some.inj (h1.symm.trans B.method)
  cases Option.some.inj (h2.symm.trans (Stand.of_body B).code)
  rw [Array.isEmpty_iff.mp h7]
theorem aw_at {args a' : Array Value} {s U : State} (hW : s.WarmedH U.vm) (h : ∀ w ∈ AW, w.before args s = true) : ∀ w ∈ AW, w.before a' U = true := fun w hw => by
  have hok := aw_ok hw
  unfold okWord at hok
  rw [Bool.or_eq_true, Bool.and_eq_true] at hok
  rcases hok with hg | ⟨h1, h2⟩
  · exact word_at hW (good_of_word hg) (h w hw)
  · exact va_tabs h1 (rfl : (s.setVm U.vm).vm = U.vm) (Cond.before_shiftedFace (State.Shifted.of_warmed hW) w h2 (h w hw))
theorem ents_at {av : List Value} {n i : Nat} {v : Value} (h : (ents av n)[i]? = some (some v)) : (i, v) ∈ lv_args 0 av := by
  have h2 : (ents0 av)[i]? = some (some v) := by
    unfold ents at h
    by_cases q : i < (ents0 av).length
    · rw [List.getElem?_append_left q] at h; exact h
    · rw [List.getElem?_append_right (Nat.not_lt.mp q), List.getElem?_replicate] at h
      split at h <;> simp at h
  have := ents_args av 0 i v h2
  rw [Nat.zero_add] at this
  exact this
/-- the contract out of the walk of the body -/
theorem CT_of {av : List Value} (hy : plainName y.1.cls = true) (hh : y.2.2.2.2 = []) (hlen : (lg_sl av).length ≤ y.2.2.1) (hret : retOK y Q) (hL : ents av y.2.2.1 = L) (k : WP g d y 0 L [] M kc Q) : CT g d y av M kc Q := by
  intro l htr
  have hw : wsY y = Cond.code y.1 y.2.1 y.2.2.1 y.2.2.2.1 :: AW := by unfold wsY cwY; rw [hh]; rfl
  refine vx_ofW (ws' := AW) (cc := y.2.1) (maxL := y.2.2.1) (ret := y.2.2.2.1) hy hw ?_
  intro p e s m args below meth c s₁ B hml hxt hv
  obtain ⟨rfl, hP, hE⟩ := hv
  have hts0 := atoms_spec (ws := wsY y) B.pre
  have hS : va_S (AG g) s.heap s.heap [] := va_S.rf
  have hl := lv_entry av (n := y.2.2.1) hlen
  rw [lg_entry_eq]
  have hcw : (cwY y).before av.toArray s = true := hts0 _ List.mem_cons_self
  have hlk := B.notSynchronized
  have hx := B.exec
  have hb := B.bytes
  have hr := B.returns
  refine k p l e (rmD d kc) s m av.toArray below meth c _ s.heap [] _ 0 0 kc (6 * kc) ⟨⟨hx, hb, hr, hml, findClass_of_methodNamed B.named, fun w hw => hts0 w (List.mem_cons_of_mem _ hw), hlk, ?_, htr, hE, Nat.le_refl _, Nat.le_refl _⟩, hP, hS, ⟨hl.1, hl.2.1, fun i v hi => ?_⟩, ⟨by omega, by omega, Nat.le_refl _, Nat.le_refl _⟩, ?_, ?_⟩
  · rw [hh]
    have : c.exceptionTable.toList = [] := by
      unfold cwY at hcw
      rw [hh] at hcw
      exact codeTable (x := y.1) B hcw
    rw [this]; rfl
  · rw [← hL] at hi
    exact hl.2.2 (i, v) (ents_at hi)
  · intro o M' H' locs' ls' pc' cells' slots' hq hP' hS' hc' hs' hRA
    have hro := hret o M' hq
    refine W.widen (k := kc) (n := 6 * kc) hc' hs' ?_
    have hfin : ∀ (t : State), t.heap = H' → s.WarmedH t.vm → (fun (_ : Array Value) (st : State) (oc : Outcome) (t : State) => ∃ (o : Option Value) (M' : Mem), oc = .returned o ∧ Q (.inl o) M' ∧ Rep g M' t.heap ∧ va_F (AG g) st t) av.toArray s (.returned o) t := fun t ht _ => ⟨o, M', rfl, hq, by rw [ht]; exact hP', hS'.F ht⟩
    cases o with
    | none => exact vx_ret (W.vret hx hb (hr.trans hro) hfin hS'.2.2 hRA)
    | some v =>
      cases v with
      | int v =>
        obtain ⟨ty, h1, h2⟩ := hro
        exact vx_ret (W.zret hx hb (hr.trans h1) h2 hfin hS'.2.2 hRA)
      | long v => exact vx_ret (W.lret hx hb (hr.trans hro) hfin hS'.2.2 hRA)
      | float v => exact vx_ret (W.fret hx hb (hr.trans hro) hfin hS'.2.2 hRA)
      | double v => exact vx_ret (W.dret hx hb (hr.trans hro) hfin hS'.2.2 hRA)
      | ref a =>
        obtain ⟨t, h1⟩ := hro
        exact vx_ret (W.aret hx hb (hr.trans h1) (Or.inr ⟨t, rfl⟩) (Or.inr ⟨a, rfl⟩) hfin hS'.2.2 hRA)
      | null => exact hro.elim
      | retAddr _ => exact hro.elim
  · intro t ht
    obtain ⟨o, h1, h2, h3⟩ := ht
    refine ⟨o, h1, h2, ?_⟩
    rcases h3 with ⟨h4, -⟩ | h4
    · exact h4.elim
    · exact Or.inr h4
end Rows3
section Rows4
variable {g : GG} {d : Nat} {y : Mth} {pc : Nat} {L : List (Option Value)} {st : List Value} {M : Mem} {kc : Nat} {Q : Out → Mem → Prop}
theorem R_sld {j : Int32} (hin : vp_in j g.2.2.2.2.1) (hd : decode y.2.1 pc = .ok (.iaload, 1)) (kk : WP g d y (pc + 1) L (.int (g.2.2.2.2.2 j.toNatClampNeg) :: st) M kc Q) : WP g d y pc L (.int j :: .ref g.2.2.2.1 :: st) M kc Q := fun p l e R s m args below meth c0 Z H locs ls cells slots mc ms S => by
  have hE := S.1.2.2.2.2.2.2.2.2.2.1
  have h9 := hE.2.2.2.2.2.2.2.2
  exact va_sld S.1.1 S.1.2.1 hE.2.2.2.2.2.2.2.1 (Nat.lt_of_lt_of_le h9 hE.1) (fun q => absurd (show g.1 ≤ g.2.2.2.1 from q) (by omega)) S.2.2.1 hin hd (kk p l e R s m args below meth c0 Z H locs ls cells slots mc ms S)
theorem R_slen (hd : decode y.2.1 pc = .ok (.arraylength, 1)) (kk : WP g d y (pc + 1) L (.int (Int32.ofNat g.2.2.2.2.1) :: st) M kc Q) : WP g d y pc L (.ref g.2.2.2.1 :: st) M kc Q := fun p l e R s m args below meth c0 Z H locs ls cells slots mc ms S => by
  have hE := S.1.2.2.2.2.2.2.2.2.2.1
  have h9 := hE.2.2.2.2.2.2.2.2
  exact va_slen S.1.1 S.1.2.1 hE.2.2.2.2.2.2.2.1 (Nat.lt_of_lt_of_le h9 hE.1) (fun q => absurd (show g.1 ≤ g.2.2.2.1 from q) (by omega)) S.2.2.1 hd (kk p l e R s m args below meth c0 Z H locs ls cells slots mc ms S)
theorem R_throwW {own E text : String} {ik is ic : Nat} (hy : y.1.cls = own) (hh : y.2.2.2.2 = []) (ht : thrOK own ik is ic E text) (hk : 1 ≤ kc) (hdd : 7 ≤ d) (hst : (st.map fun v => v.category).sum ≤ 8)
    (d0 : decode y.2.1 pc = .ok (.new ik, 3)) (d3 : decode y.2.1 (pc + 3) = .ok (.dup, 1)) (d4 : decode y.2.1 (pc + 4) = .ok (.ldc_w is, 3)) (d6 : decode y.2.1 (pc + 7) = .ok (.invokespecial ic, 3)) (d9 : decode y.2.1 (pc + 10) = .ok (.athrow, 1)) (h : Q (.inr E) M) : WP g d y pc L st M kc Q := fun p l e R s m args below meth c0 Z H locs ls cells slots mc ms S => by
  obtain ⟨t1, t2, t3, t4, t5, t6⟩ := ht
  obtain ⟨⟨hx, hb, hr, hml, hown, hts, hlk, hxt, htr, henv, hf, hl⟩, hP, hS, hL, hB, hR, hX⟩ := S
  obtain ⟨e1, e2, e3, e4, e5, e6, e7, -, -⟩ := henv
  obtain ⟨sa, hsa⟩ := e5 _ t5
  subst hy
  refine W_mono hX (vx_throwSW (names := ["java/lang/RuntimeException", "java/lang/Exception"]) (A := AG g) hx hb htr hown t1 t2 (hts _ t3) (hts _ t4) hsa (fun w hw => hts w (t6 w hw)) ?_ e3 e4 hS (hL.1.trans hml.symm) d0 d3 d4 d6 d9 ?_ ?_ ?_ (by omega) (by omega) hlk ?_ (fun z hz => hS.2.2 z hz) (by omega) (by omega))
  · intro w hw
    have hin : w ∈ AW := by
      rcases List.mem_cons.mp hw with q | q
      · rw [q]; exact t3
      · rcases List.mem_cons.mp q with q | q
        · rw [q]; exact t4
        · exact t6 w q
    exact ok_ot (aw_ok hin)
  · intro x hx9
    rw [hxt, hh] at hx9
    cases hx9
  · show 2 + 3 < R.frames
    omega
  · show (st.map fun v => v.category).sum + (13 * (2 + 1) + 43) ≤ R.locals
    omega
  · intro t hvm hz hk2
    refine ⟨M, h, fun k q hq => ?_, ⟨Nat.le_trans hS.1 hz, fun q h1 h2 => (hk2 q (Nat.lt_of_lt_of_le h1 hS.1)).trans (hS.2.1 q h1 h2)⟩⟩
    have h9 := hP.kept (H1 := t.heap) (fun k x hx => hk2 x.1 ((hP k x hx).lt))
    exact h9 k q hq
/-! names for values -/
theorem N_i {v : Int32} (k : ∀ z : Int32, z = v → WP g d y pc L (.int z :: st) M kc Q) : WP g d y pc L (.int v :: st) M kc Q := k v rfl
theorem N_l {v : Int64} (k : ∀ z : Int64, z = v → WP g d y pc L (.long z :: st) M kc Q) : WP g d y pc L (.long v :: st) M kc Q := k v rfl
theorem N_f {v : UInt32} (k : ∀ z : UInt32, z = v → WP g d y pc L (.float z :: st) M kc Q) : WP g d y pc L (.float v :: st) M kc Q := k v rfl
theorem N_d {v : UInt64} (k : ∀ z : UInt64, z = v → WP g d y pc L (.double z :: st) M kc Q) : WP g d y pc L (.double v :: st) M kc Q := k v rfl
theorem N_r {v : Nat} (k : ∀ z : Nat, z = v → WP g d y pc L (.ref (g.1 + z) :: st) M kc Q) : WP g d y pc L (.ref (g.1 + v) :: st) M kc Q := k v rfl
theorem N_M {M0 : Mem} (k : ∀ z : Mem, z = M0 → WP g d y pc L st z kc Q) : WP g d y pc L st M0 kc Q := k M0 rfl
theorem ls_0 {b : List (Option Value)} : lsub [] b := by unfold lsub; trivial
theorem ls_n {a b : List (Option Value)} {w : Option Value} (h : lsub a b) : lsub (none :: a) (w :: b) := by unfold lsub; exact h
theorem cls_at {b c : Nat} {C : String} {T : u_T} {ty : Nat → FieldType} (h : kd b = c) (k : clsOK c C T ty) : clsOK (kd b) C T ty := by rw [h]; exact k
theorem ls_s {a b : List (Option Value)} {v : Value} (h : lsub a b) : lsub (some v :: a) (some v :: b) := by unfold lsub; exact ⟨rfl, h⟩
/-! what a contract answers, by its type -/
def noX : String → Mem → Prop := fun _ _ => False
def oV (q : Mem → Prop) (X : String → Mem → Prop) : Out → Mem → Prop := fun o M => match o with
  | .inl none => q M
  | .inr E => X E M
  | _ => False
def oI (q : Int32 → Mem → Prop) (X : String → Mem → Prop) : Out → Mem → Prop := fun o M => match o with
  | .inl (some (.int r)) => q r M
  | .inr E => X E M
  | _ => False
def oZ (q : Int32 → Mem → Prop) (X : String → Mem → Prop) : Out → Mem → Prop := fun o M => match o with
  | .inl (some (.int r)) => (r = 0 ∨ r = 1) ∧ q r M
  | .inr E => X E M
  | _ => False
def oL (q : Int64 → Mem → Prop) (X : String → Mem → Prop) : Out → Mem → Prop := fun o M => match o with
  | .inl (some (.long r)) => q r M
  | .inr E => X E M
  | _ => False
def oF (q : UInt32 → Mem → Prop) (X : String → Mem → Prop) : Out → Mem → Prop := fun o M => match o with
  | .inl (some (.float r)) => q r M
  | .inr E => X E M
  | _ => False
def oD (q : UInt64 → Mem → Prop) (X : String → Mem → Prop) : Out → Mem → Prop := fun o M => match o with
  | .inl (some (.double r)) => q r M
  | .inr E => X E M
  | _ => False
def oR (g : GG) (q : Nat → Mem → Prop) (X : String → Mem → Prop) : Out → Mem → Prop := fun o M => match o with
  | .inl (some (.ref a)) => ∃ r, a = g.1 + r ∧ q r M
  | .inr E => X E M
  | _ => False
variable {rest : List Value} {X X' : String → Mem → Prop}
theorem k_V {q : Mem → Prop} (k : ∀ M', q M' → WP g d y pc L rest M' kc Q) : ∀ (o : Option Value) (M' : Mem), oV q X' (.inl o) M' → WP g d y pc L (o.toList ++ rest) M' kc Q
  | none, M', h => k M' h
  | some _, _, h => h.elim
theorem k_I {q : Int32 → Mem → Prop} (k : ∀ r M', q r M' → WP g d y pc L (.int r :: rest) M' kc Q) : ∀ (o : Option Value) (M' : Mem), oI q X' (.inl o) M' → WP g d y pc L (o.toList ++ rest) M' kc Q := by
  intro o M' h
  match o, h with
  | some (.int r), h => exact k r M' h
theorem k_Z {q : Int32 → Mem → Prop} (k : ∀ r M', q r M' → WP g d y pc L (.int r :: rest) M' kc Q) : ∀ (o : Option Value) (M' : Mem), oZ q X' (.inl o) M' → WP g d y pc L (o.toList ++ rest) M' kc Q := by
  intro o M' h
  match o, h with
  | some (.int r), h => exact k r M' h.2
theorem k_L {q : Int64 → Mem → Prop} (k : ∀ r M', q r M' → WP g d y pc L (.long r :: rest) M' kc Q) : ∀ (o : Option Value) (M' : Mem), oL q X' (.inl o) M' → WP g d y pc L (o.toList ++ rest) M' kc Q := by
  intro o M' h
  match o, h with
  | some (.long r), h => exact k r M' h
theorem k_F {q : UInt32 → Mem → Prop} (k : ∀ r M', q r M' → WP g d y pc L (.float r :: rest) M' kc Q) : ∀ (o : Option Value) (M' : Mem), oF q X' (.inl o) M' → WP g d y pc L (o.toList ++ rest) M' kc Q := by
  intro o M' h
  match o, h with
  | some (.float r), h => exact k r M' h
theorem k_D {q : UInt64 → Mem → Prop} (k : ∀ r M', q r M' → WP g d y pc L (.double r :: rest) M' kc Q) : ∀ (o : Option Value) (M' : Mem), oD q X' (.inl o) M' → WP g d y pc L (o.toList ++ rest) M' kc Q := by
  intro o M' h
  match o, h with
  | some (.double r), h => exact k r M' h
theorem k_R {q : Nat → Mem → Prop} (k : ∀ r M', q r M' → WP g d y pc L (.ref (g.1 + r) :: rest) M' kc Q) : ∀ (o : Option Value) (M' : Mem), oR g q X' (.inl o) M' → WP g d y pc L (o.toList ++ rest) M' kc Q := by
  intro o M' h
  match o, h with
  | some (.ref a), h =>
    obtain ⟨r, e, h⟩ := h
    subst e
    exact k r M' h
theorem ro_V {q : Mem → Prop} (h : y.2.2.2.1 = none) : retOK y (oV q X) := by
  intro o M' hq
  match o, hq with
  | none, _ => exact h
theorem ro_I {q : Int32 → Mem → Prop} (h : y.2.2.2.1 = some .int) : retOK y (oI q X) := by
  intro o M' hq
  match o, hq with
  | some (.int r), _ => exact ⟨.int, h, rfl⟩
theorem nar_z {r : Int32} (h : r = 0 ∨ r = 1) : narrow .boolean (.int r) = .int r := by rcases h with rfl | rfl <;> decide +kernel
theorem fit_z {r : Int32} (h : r = 0 ∨ r = 1) : fits .boolean (.int r) = true := by rcases h with rfl | rfl <;> decide +kernel
theorem ro_Z {q : Int32 → Mem → Prop} (h : y.2.2.2.1 = some .boolean) : retOK y (oZ q X) := by
  intro o M' hq
  match o, hq with
  | some (.int r), hq => exact ⟨.boolean, h, nar_z hq.1⟩
theorem ro_L {q : Int64 → Mem → Prop} (h : y.2.2.2.1 = some .long) : retOK y (oL q X) := by
  intro o M' hq
  match o, hq with
  | some (.long r), _ => exact h
theorem ro_F {q : UInt32 → Mem → Prop} (h : y.2.2.2.1 = some .float) : retOK y (oF q X) := by
  intro o M' hq
  match o, hq with
  | some (.float r), _ => exact h
theorem ro_D {q : UInt64 → Mem → Prop} (h : y.2.2.2.1 = some .double) : retOK y (oD q X) := by
  intro o M' hq
  match o, hq with
  | some (.double r), _ => exact h
theorem ro_R {q : Nat → Mem → Prop} {t : FieldType} (h : y.2.2.2.1 = some (.array t)) : retOK y (oR g q X) := by
  intro o M' hq
  match o, hq with
  | some (.ref a), _ => exact ⟨t, h⟩
theorem ne_toInt {x k : Int32} (h : ¬ x = k) : x.toInt ≠ k.toInt := fun e => h (Int32.toInt_inj.mp e)
end Rows4
