/-! ===== NUMBERS: small numbers as ints ===== -/
def I (n : Nat) : Int32 := Int32.ofNat n
abbrev NO : Int32 := -(I 1)
theorem I_0 : (0 : Int32) = I 0 := rfl
theorem I_1 : (1 : Int32) = I 1 := rfl
theorem I_2 : (2 : Int32) = I 2 := rfl
theorem I_3 : (3 : Int32) = I 3 := rfl
theorem I_4 : (4 : Int32) = I 4 := rfl
theorem I_5 : (5 : Int32) = I 5 := rfl
theorem I_6 : (6 : Int32) = I 6 := rfl
theorem I_7 : (7 : Int32) = I 7 := rfl
theorem I_8 : (8 : Int32) = I 8 := rfl
theorem I_9 : (9 : Int32) = I 9 := rfl
theorem I_10 : (10 : Int32) = I 10 := rfl
theorem I_11 : (11 : Int32) = I 11 := rfl
theorem I_12 : (12 : Int32) = I 12 := rfl
theorem I_20 : (20 : Int32) = I 20 := rfl
theorem I_22 : (22 : Int32) = I 22 := rfl
theorem I_27 : (27 : Int32) = I 27 := rfl
theorem I_31 : (31 : Int32) = I 31 := rfl
theorem I_32 : (32 : Int32) = I 32 := rfl
theorem I_38 : (38 : Int32) = I 38 := rfl
theorem I_42 : (42 : Int32) = I 42 := rfl
theorem I_48 : (48 : Int32) = I 48 := rfl
theorem I_54 : (54 : Int32) = I 54 := rfl
theorem I_55 : (55 : Int32) = I 55 := rfl
theorem I_56 : (56 : Int32) = I 56 := rfl
theorem I_57 : (57 : Int32) = I 57 := rfl
theorem I_60 : (60 : Int32) = I 60 := rfl
theorem I_66 : (66 : Int32) = I 66 := rfl
theorem I_72 : (72 : Int32) = I 72 := rfl
theorem I_78 : (78 : Int32) = I 78 := rfl
theorem I_80 : (80 : Int32) = I 80 := rfl
theorem I_97 : (97 : Int32) = I 97 := rfl
theorem I_98 : (98 : Int32) = I 98 := rfl
theorem I_99 : (99 : Int32) = I 99 := rfl
theorem I_100 : (100 : Int32) = I 100 := rfl
theorem I_108 : (108 : Int32) = I 108 := rfl
theorem I_109 : (109 : Int32) = I 109 := rfl
theorem I_116 : (116 : Int32) = I 116 := rfl
theorem I_120 : (120 : Int32) = I 120 := rfl
theorem I_438 : (438 : Int32) = I 438 := rfl
theorem I_488 : (488 : Int32) = I 488 := rfl
theorem I_512 : (512 : Int32) = I 512 := rfl
theorem I_552 : (552 : Int32) = I 552 := rfl
theorem I_3864 : (3864 : Int32) = I 3864 := rfl
theorem lt4 {n : Nat} (h : n < 4096) : n < 2147483648 := by omega
theorem tn_I {n : Nat} (h : n < 2147483648) : Int32.toNatClampNeg (I n) = n := Int32.toNatClampNeg_ofNat_of_lt h
theorem ti_I {n : Nat} (h : n < 2147483648) : (I n).toInt = n := Int32.toInt_ofNat_of_lt h
theorem I_add (a b : Nat) : I a + I b = I (a + b) := (Int32.ofNat_add a b).symm
theorem I_mul (a b : Nat) : I a * I b = I (a * b) := (Int32.ofNat_mul a b).symm
theorem I_sub {a b : Nat} (h : b ≤ a) : I a - I b = I (a - b) := (Int32.ofNat_sub a b h).symm
theorem I_div {a b : Nat} (ha : a < 2147483648) (hb : b < 2147483648) : I a / I b = I (a / b) := (Int32.ofNat_div ha hb).symm
theorem I_le {a b : Nat} (ha : a < 2147483648) (hb : b < 2147483648) : (I a ≤ I b) = (a ≤ b) := propext (Int32.ofNat_le_iff_le ha hb)
theorem I_lt {a b : Nat} (ha : a < 2147483648) (hb : b < 2147483648) : (I a < I b) = (a < b) := propext (Int32.ofNat_lt_iff_lt ha hb)
theorem I_eq {a b : Nat} (ha : a < 2147483648) (hb : b < 2147483648) : (I a = I b) = (a = b) := propext ⟨fun h => by have := congrArg Int32.toInt h; rw [ti_I ha, ti_I hb] at this; omega, fun h => by rw [h]⟩
theorem ti_NO : NO.toInt = -1 := by decide
theorem negI1 : -(I 1) = NO := rfl
theorem I_no {a : Nat} (ha : a < 2147483648) : (I a = NO) = False := propext ⟨fun h => by have := congrArg Int32.toInt h; rw [ti_I ha, ti_NO] at this; omega, False.elim⟩
theorem no_I {a : Nat} (ha : a < 2147483648) : (NO = I a) = False := propext ⟨fun h => by have := congrArg Int32.toInt h; rw [ti_I ha, ti_NO] at this; omega, False.elim⟩
theorem vp_I {i n : Nat} (h : i < 2147483648) : vp_in (I i) n = (i < n) := by
  unfold vp_in
  rw [tn_I h, show ((0 : Int32)) = I 0 from rfl, I_lt h (by decide)]
  apply propext; constructor <;> intro g <;> omega
/-- a number from 0 below n -/
abbrev isN (p : Int32) (n : Nat) : Prop := 0 ≤ p.toInt ∧ p.toInt < n
theorem isN_el {p : Int32} {n : Nat} (h : isN p n) : ∃ i, i < n ∧ p = I i := by
  refine ⟨p.toNatClampNeg, ?_, ?_⟩
  · have := Int32.toInt_eq_toNatClampNeg (Int32.le_iff_toInt_le.mpr (show (0 : Int32).toInt ≤ p.toInt from h.1))
    have := h.2; omega
  · exact (Int32.ofNat_toNatClampNeg p (Int32.le_iff_toInt_le.mpr h.1)).symm
theorem isN_I {i n : Nat} (h : i < 2147483648) : isN (I i) n = (i < n) := by
  unfold isN; rw [ti_I h]; apply propext; constructor <;> intro g <;> omega
theorem le_ti (x y : Int32) : (x ≤ y) = (x.toInt ≤ y.toInt) := propext Int32.le_iff_toInt_le
theorem lt_ti (x y : Int32) : (x < y) = (x.toInt < y.toInt) := propext Int32.lt_iff_toInt_lt
/-- the k-th bit -/
def bt (s k : Nat) : Nat := (s.testBit k).toNat
theorem bt_lt (s k : Nat) : bt s k < 2 := by unfold bt; cases s.testBit k <;> decide
theorem bt_div (s k : Nat) : s / 2 ^ k % 2 = bt s k := (Nat.toNat_testBit s k).symm
theorem bt_1 {s k : Nat} : (bt s k = 1) = (s.testBit k = true) := by unfold bt; cases s.testBit k <;> simp
theorem bt_0 {s k : Nat} : (bt s k = 0) = (s.testBit k = false) := by unfold bt; cases s.testBit k <;> simp
theorem I_bt1 (s k : Nat) : (I (bt s k) = I 1) = (s.testBit k = true) := by unfold bt; cases s.testBit k <;> decide
theorem I_bt0 (s k : Nat) : (I (bt s k) = I 0) = (s.testBit k = false) := by unfold bt; cases s.testBit k <;> decide
theorem sh_k {k : Nat} (hk : k < 31) : (BitVec.ofNat 32 k &&& BitVec.ofNat 32 31).smod 32 = BitVec.ofNat 32 k := by
  have : ∀ k : Fin 31, (BitVec.ofNat 32 k.val &&& BitVec.ofNat 32 31).smod 32 = BitVec.ofNat 32 k.val := by decide +kernel
  exact this ⟨k, hk⟩
theorem I_shr {s k : Nat} (hs : s < 2147483648) (hk : k < 31) : I s >>> (I k &&& I 31) = I (s / 2 ^ k) := by
  apply Int32.toInt_inj.mp
  have h9 : s / 2 ^ k ≤ s := Nat.div_le_self _ _
  rw [ti_I (by omega)]
  show ((BitVec.ofNat 32 s).sshiftRight' ((BitVec.ofNat 32 k &&& BitVec.ofNat 32 31).smod 32)).toInt = _
  rw [sh_k hk, BitVec.sshiftRight_eq', BitVec.toInt_sshiftRight]
  show (I s).toInt >>> _ = _
  rw [ti_I hs, BitVec.toNat_ofNat, Nat.mod_eq_of_lt (by omega), Int.shiftRight_eq_div_pow]
  norm_cast
theorem I_and (a b : Nat) : I a &&& I b = I (a &&& b) := by
  apply Int32.toBitVec_inj.mp
  exact BitVec.ofNat_and.symm
theorem I_or (a b : Nat) : I a ||| I b = I (a ||| b) := by
  apply Int32.toBitVec_inj.mp
  exact BitVec.ofNat_or.symm
theorem I_bit {s k : Nat} (hs : s < 2147483648) (hk : k < 31) : (I s >>> (I k &&& I 31)) &&& I 1 = I (bt s k) := by
  rw [I_shr hs hk, I_and, Nat.and_one_is_mod, bt_div]
theorem I_shl {k : Nat} (hk : k < 31) : I 1 <<< (I k &&& I 31) = I (2 ^ k) := by
  have : ∀ k : Fin 31, I 1 <<< (I k.val &&& I 31) = I (2 ^ k.val) := by decide +kernel
  exact this ⟨k, hk⟩
/-- a sum over the numbers below n -/
def sm (f : Nat → Nat) : Nat → Nat
  | 0 => 0
  | n + 1 => sm f n + f n
theorem sm_le {f : Nat → Nat} {c : Nat} (h : ∀ k, f k ≤ c) : ∀ n, sm f n ≤ c * n
  | 0 => by simp [sm]
  | n + 1 => by have := sm_le h n; have := h n; unfold sm; rw [Nat.mul_succ]; omega
theorem sm_cg {f g : Nat → Nat} : ∀ {n : Nat}, (∀ k, k < n → f k = g k) → sm f n = sm g n
  | 0, _ => rfl
  | n + 1, h => by unfold sm; rw [sm_cg (fun k hk => h k (by omega)), h n (by omega)]
/-- a number, or none -/
def oN : Option Nat → Int32
  | none => NO
  | some k => I k
def bI (b : Bool) : Int32 := I b.toNat
theorem bI_t : bI true = I 1 := rfl
theorem bI_f : bI false = I 0 := rfl
theorem oN_s (k : Nat) : oN (some k) = I k := rfl
theorem oN_n : oN none = NO := rfl
/-! the model's memory: its row of numbers a, its fields f -/
def mm (M : Mem) (a : Nat → Nat) (f : Nat → Int32) : Mem := (fun i => if i = 1583 then (fun k => I (a k)) else if i = 1582 then f else M.1 i, M.2)
def updN (a : Nat → Nat) (k x : Nat) : Nat → Nat := fun j => if j = k then x else a j
def updI (f : Nat → Int32) (k : Nat) (v : Int32) : Nat → Int32 := fun j => if j = k then v else f j
section MMs
variable {M : Mem} {a : Nat → Nat} {f : Nat → Int32}
theorem mm_s : (mm M a f).1 1583 = fun k => I (a k) := rfl
theorem mm_sa (k : Nat) : (mm M a f).1 1583 k = I (a k) := rfl
theorem mm_f : (mm M a f).1 1582 = f := rfl
theorem mm_fa (k : Nat) : (mm M a f).1 1582 k = f k := rfl
theorem mm_o {i : Nat} (h1 : i ≠ 1582) (h2 : i ≠ 1583) : (mm M a f).1 i = M.1 i := by show (if i = 1583 then _ else if i = 1582 then f else M.1 i) = _; rw [if_neg h2, if_neg h1]
theorem mem_ext {A B : Mem} (h : ∀ i, A.1 i = B.1 i) (h2 : A.2 = B.2) : A = B := Prod.ext (funext h) h2
theorem mm_ms (k x : Nat) : mset (mm M a f) 1583 k (I x) = mm M (updN a k x) f := by
  refine mem_ext (fun i => ?_) rfl
  by_cases q : i = 1583
  · subst q
    rw [mset_at, mm_s, mm_s]
    funext j
    unfold updN
    by_cases e : j = k
    · subst e; rw [pk_us, if_pos rfl]
    · rw [pk_un e, if_neg e]
  · rw [mset_ne q]
    by_cases q2 : i = 1582
    · subst q2; rfl
    · rw [mm_o q2 q, mm_o q2 q]
theorem mm_mf (k : Nat) (v : Int32) : mset (mm M a f) 1582 k v = mm M a (updI f k v) := by
  refine mem_ext (fun i => ?_) rfl
  by_cases q : i = 1582
  · subst q
    rw [mset_at, mm_f, mm_f]
    funext j
    unfold updI
    by_cases e : j = k
    · subst e; rw [pk_us, if_pos rfl]
    · rw [pk_un e, if_neg e]
  · rw [mset_ne q]
    by_cases q2 : i = 1583
    · subst q2; rfl
    · rw [mm_o q q2, mm_o q q2]
theorem mm_self (h : M.1 1583 = fun k => I (a k)) : mm M a (M.1 1582) = M := by
  refine mem_ext (fun i => ?_) rfl
  by_cases q : i = 1583
  · subst q; exact h.symm
  · by_cases q2 : i = 1582
    · subst q2; rfl
    · exact mm_o q2 q
end MMs
theorem kd7 : (kd 1582 = 7) = True := by decide
theorem kdS : (kd 1583 = 9) = True := by decide
theorem rf71 : rf 1582 1 = 1583 := by decide
theorem lnS : ln 1583 = 552 := by decide

