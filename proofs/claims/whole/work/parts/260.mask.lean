/-! ===== SETS OF VISITS AS LONGS ===== -/
def bq (x : Int64) (v : Nat) : Bool := x.toBitVec.getLsbD v
theorem bq_ext {x y : Int64} (h : ∀ v, v < 64 → bq x v = bq y v) : x = y := Int64.toBitVec_inj.mp (BitVec.eq_of_getLsbD_eq h)
theorem sh1 {v : Nat} (h : v < 64) : ((1 : Int64) <<< (Int32.toInt64 (I v) &&& 63)).toBitVec = BitVec.twoPow 64 v := by
  have : ∀ v : Fin 64, ((1 : Int64) <<< (Int32.toInt64 (I v.val) &&& 63)).toBitVec = BitVec.twoPow 64 v.val := by decide +kernel
  exact this ⟨v, h⟩
theorem bq_0 {v : Nat} : bq 0 v = false := by
  show (BitVec.ofNat 64 0).getLsbD v = false
  simp
theorem bq_or {x : Int64} {v u : Nat} (h : v < 64) (hu : u < 64) : bq (x ||| (1 <<< (Int32.toInt64 (I v) &&& 63))) u = (bq x u || decide (u = v)) := by
  unfold bq
  rw [Int64.toBitVec_or, BitVec.getLsbD_or, sh1 h, BitVec.getLsbD_twoPow]
  congr 1
  by_cases q : u = v
  · subst q; simp [hu]
  · simp [q, show ¬ v = u from fun z => q z.symm]
theorem bq_del {x : Int64} {v u : Nat} (h : v < 64) (hu : u < 64) : bq (x &&& ((1 <<< (Int32.toInt64 (I v) &&& 63)) ^^^ (-1))) u = (bq x u && !decide (u = v)) := by
  unfold bq
  rw [Int64.toBitVec_and, BitVec.getLsbD_and, Int64.toBitVec_xor, BitVec.getLsbD_xor, sh1 h, BitVec.getLsbD_twoPow]
  have e : (-1 : Int64).toBitVec.getLsbD u = true := by
    have : ∀ u : Fin 64, (-1 : Int64).toBitVec.getLsbD u.val = true := by decide +kernel
    exact this ⟨u, hu⟩
  rw [e]
  congr 1
  by_cases q : u = v
  · subst q; simp [hu]
  · simp [q, show ¬ v = u from fun z => q z.symm]
theorem lg_0 {x : Int64} : (lg_cmp x 0 = 0) = (x = 0) := by
  apply propext
  unfold lg_cmp
  constructor
  · intro h
    by_cases c : x > 0
    · rw [if_pos c] at h; exact absurd h (by decide)
    · rw [if_neg c] at h
      by_cases c2 : x = 0
      · exact c2
      · rw [if_neg c2] at h; exact absurd h (by decide)
  · rintro rfl
    decide
theorem lg_nil {x : Int64} : (x = 0) = (∀ v, v < 64 → bq x v = false) := by
  apply propext
  constructor
  · rintro rfl v _; exact bq_0
  · intro h; exact bq_ext (fun v hv => by rw [h v hv, bq_0])
theorem bq_test {x : Int64} {v : Nat} (h : v < 64) : (lg_cmp (((Int64.toUInt64 x >>> ((Int32.toInt64 (I v)).toUInt64 &&& Int64.toUInt64 63)).toInt64) &&& 1) 0 = 0) = (bq x v = false) := by
  rw [lg_0]
  have e1 : ((Int32.toInt64 (I v)).toUInt64 &&& Int64.toUInt64 63).toBitVec.toNat = v := by
    have : ∀ v : Fin 64, ((Int32.toInt64 (I v.val)).toUInt64 &&& Int64.toUInt64 63).toBitVec.toNat = v.val := by decide +kernel
    exact this ⟨v, h⟩
  have e2 : ∀ u, u < 64 → (1 : Int64).toBitVec.getLsbD u = decide (u = 0) := by
    intro u hu
    have : ∀ u : Fin 64, (1 : Int64).toBitVec.getLsbD u.val = decide (u.val = 0) := by decide +kernel
    exact this ⟨u, hu⟩
  have e3 : ∀ u, u < 64 → bq ((((Int64.toUInt64 x >>> ((Int32.toInt64 (I v)).toUInt64 &&& Int64.toUInt64 63)).toInt64) &&& 1)) u = (decide (u = 0) && bq x v) := by
    intro u hu
    unfold bq
    rw [Int64.toBitVec_and, BitVec.getLsbD_and, e2 u hu]
    by_cases q : u = 0
    · subst q
      simp only [decide_true, Bool.and_true, Bool.true_and]
      rw [show (Int64.toUInt64 x >>> ((Int32.toInt64 (I v)).toUInt64 &&& Int64.toUInt64 63)).toInt64.toBitVec = (Int64.toUInt64 x >>> ((Int32.toInt64 (I v)).toUInt64 &&& Int64.toUInt64 63)).toBitVec from rfl, UInt64.toBitVec_shiftRight, BitVec.ushiftRight_eq', BitVec.getLsbD_ushiftRight, BitVec.toNat_umod, e1, Nat.add_zero]
      rw [show (64 : BitVec 64).toNat = 64 by decide, Nat.mod_eq_of_lt h]
      rfl
    · simp [q]
  rw [lg_nil]
  apply propext
  constructor
  · intro g
    have := g 0 (by decide)
    rw [e3 0 (by decide)] at this
    simpa using this
  · intro g u hu
    rw [e3 u hu, g]
    simp

