/-! ===== THE NUMBER OF BITS OF A LONG: the machine's ===== -/
section Bc2
theorem n64_and (x y : Int64) : (x &&& y).toBitVec.toNat = x.toBitVec.toNat &&& y.toBitVec.toNat := BitVec.toNat_and ..
theorem n64_sh {x : Int64} {k : Nat} (hk : k < 64) : ((Int64.toUInt64 x >>> ((Int32.toInt64 (I k)).toUInt64 &&& Int64.toUInt64 63)).toInt64).toBitVec.toNat = x.toBitVec.toNat / 2 ^ k := by
  have e : ((Int32.toInt64 (I k)).toBitVec &&& (63 : BitVec 64)) % 64 = BitVec.ofNat 64 k := by
    have : ∀ k : Fin 64, ((Int32.toInt64 (I k.val)).toBitVec &&& (63 : BitVec 64)) % 64 = BitVec.ofNat 64 k.val := by decide +kernel
    exact this ⟨k, hk⟩
  show (x.toBitVec >>> (((Int32.toInt64 (I k)).toBitVec &&& (63 : BitVec 64)) % 64)).toNat = _
  rw [e, BitVec.ushiftRight_eq', BitVec.toNat_ushiftRight, BitVec.toNat_ofNat, Nat.mod_eq_of_lt (by omega), Nat.shiftRight_eq_div_pow]
theorem n64_add {x y : Int64} (h : x.toBitVec.toNat + y.toBitVec.toNat < 2 ^ 64) : (x + y).toBitVec.toNat = x.toBitVec.toNat + y.toBitVec.toNat := by
  show (x.toBitVec + y.toBitVec).toNat = _
  rw [BitVec.toNat_add, Nat.mod_eq_of_lt h]
theorem n64_sub {x y : Int64} (h : y.toBitVec.toNat ≤ x.toBitVec.toNat) : (x - y).toBitVec.toNat = x.toBitVec.toNat - y.toBitVec.toNat := by
  show (x.toBitVec - y.toBitVec).toNat = _
  have h1 := x.toBitVec.isLt
  have h2 := y.toBitVec.isLt
  rw [BitVec.toNat_sub_of_le h]
theorem mk85 : (6148914691236517205 : Int64).toBitVec.toNat = mk8 85 8 := by decide
theorem mk51 : (3689348814741910323 : Int64).toBitVec.toNat = mk8 51 8 := by decide
theorem mk15 : (1085102592571150095 : Int64).toBitVec.toNat = mk8 15 8 := by decide
theorem bq_bt {l : Int64} {u : Nat} : (if bq l u = true then 1 else 0) = bt l.toBitVec.toNat u := by
  show (if l.toBitVec.getLsbD u = true then 1 else 0) = bt l.toBitVec.toNat u
  unfold bt
  rw [show l.toBitVec.getLsbD u = l.toBitVec.toNat.testBit u from rfl]
  cases l.toBitVec.toNat.testBit u <;> rfl
theorem lb_l4 {x p0 p1 p2 p3 p4 p5 p6 p7 : Nat} (h : x = p0 + 256 * (p1 + 256 * (p2 + 256 * (p3 + 256 * (p4 + 256 * (p5 + 256 * (p6 + 256 * p7))))))) (q0 : p0 ≤ 8) (q1 : p1 ≤ 8) (q2 : p2 ≤ 8) (q3 : p3 ≤ 8) (q4 : p4 ≤ 8) (q5 : p5 ≤ 8) (q6 : p6 ≤ 8) (q7 : p7 ≤ 8) :
    x + x / 256 = (p0 + p1) + 256 * ((p1 + p2) + 256 * ((p2 + p3) + 256 * ((p3 + p4) + 256 * ((p4 + p5) + 256 * ((p5 + p6) + 256 * ((p6 + p7) + 256 * p7)))))) ∧ x + x / 256 < 2 ^ 64 := by omega
theorem lb_l5 {x r0 r1 r2 r3 r4 r5 r6 r7 : Nat} (h : x = r0 + 256 * (r1 + 256 * (r2 + 256 * (r3 + 256 * (r4 + 256 * (r5 + 256 * (r6 + 256 * r7))))))) (q0 : r0 ≤ 16) (q1 : r1 ≤ 16) (q2 : r2 ≤ 16) (q3 : r3 ≤ 16) (q4 : r4 ≤ 16) (q5 : r5 ≤ 16) (q6 : r6 ≤ 16) (q7 : r7 ≤ 16) :
    x + x / 65536 = (r0 + r2) + 256 * ((r1 + r3) + 256 * ((r2 + r4) + 256 * ((r3 + r5) + 256 * ((r4 + r6) + 256 * ((r5 + r7) + 256 * (r6 + 256 * r7)))))) ∧ x + x / 65536 < 2 ^ 64 := by omega
theorem lb_l6 {x r0 r1 r2 r3 r4 r5 r6 r7 : Nat} (h : x = r0 + 256 * (r1 + 256 * (r2 + 256 * (r3 + 256 * (r4 + 256 * (r5 + 256 * (r6 + 256 * r7))))))) (q0 : r0 ≤ 32) (q1 : r1 ≤ 32) (q2 : r2 ≤ 32) (q3 : r3 ≤ 32) (q4 : r4 ≤ 32) (q5 : r5 ≤ 32) (q6 : r6 ≤ 32) (q7 : r7 ≤ 32) :
    (x + x / 4294967296) % 128 = r0 + r4 ∧ x + x / 4294967296 < 2 ^ 64 := by
  have e : x / 4294967296 = r4 + 256 * (r5 + 256 * (r6 + 256 * r7)) := by omega
  refine ⟨?_, by omega⟩
  rw [e, h]
  generalize r1 + 256 * (r2 + 256 * (r3 + 256 * (r4 + 256 * (r5 + 256 * (r6 + 256 * r7))))) = A
  generalize r5 + 256 * (r6 + 256 * r7) = B
  omega
theorem lb_fin {l6 : Int64} : (Int64.toInt32 l6 &&& 127 : Int32) = I (l6.toBitVec.toNat % 128) := by
  apply Int32.toBitVec_inj.mp
  show (l6.toBitVec.signExtend 32) &&& (127 : BitVec 32) = BitVec.ofNat 32 _
  rw [BitVec.signExtend_eq_setWidth_of_le _ (by decide)]
  apply BitVec.eq_of_toNat_eq
  rw [BitVec.toNat_and, BitVec.toNat_setWidth, BitVec.toNat_ofNat, show ((127 : BitVec 32).toNat) = 2 ^ 7 - 1 from rfl, Nat.and_two_pow_sub_one_eq_mod]
  generalize l6.toBitVec.toNat = x
  omega
theorem lb_s4 {x y : Int64} {p0 p1 p2 p3 p4 p5 p6 p7 : Nat} (h : x.toBitVec.toNat = p0 + 256 * (p1 + 256 * (p2 + 256 * (p3 + 256 * (p4 + 256 * (p5 + 256 * (p6 + 256 * p7))))))) (q0 : p0 ≤ 8) (q1 : p1 ≤ 8) (q2 : p2 ≤ 8) (q3 : p3 ≤ 8) (q4 : p4 ≤ 8) (q5 : p5 ≤ 8) (q6 : p6 ≤ 8) (q7 : p7 ≤ 8)
    (hy : y = x + ((Int64.toUInt64 x >>> ((Int32.toInt64 (I 8)).toUInt64 &&& Int64.toUInt64 63)).toInt64)) : y.toBitVec.toNat = (p0 + p1) + 256 * ((p1 + p2) + 256 * ((p2 + p3) + 256 * ((p3 + p4) + 256 * ((p4 + p5) + 256 * ((p5 + p6) + 256 * ((p6 + p7) + 256 * p7)))))) := by
  have e := n64_sh (x := x) (k := 8) (by decide)
  have g := lb_l4 h q0 q1 q2 q3 q4 q5 q6 q7
  rw [hy, n64_add (by rw [e]; exact g.2), e]
  exact g.1
theorem lb_s5 {x y : Int64} {p0 p1 p2 p3 p4 p5 p6 p7 : Nat} (h : x.toBitVec.toNat = p0 + 256 * (p1 + 256 * (p2 + 256 * (p3 + 256 * (p4 + 256 * (p5 + 256 * (p6 + 256 * p7))))))) (q0 : p0 ≤ 16) (q1 : p1 ≤ 16) (q2 : p2 ≤ 16) (q3 : p3 ≤ 16) (q4 : p4 ≤ 16) (q5 : p5 ≤ 16) (q6 : p6 ≤ 16) (q7 : p7 ≤ 16)
    (hy : y = x + ((Int64.toUInt64 x >>> ((Int32.toInt64 (I 16)).toUInt64 &&& Int64.toUInt64 63)).toInt64)) : y.toBitVec.toNat = (p0 + p2) + 256 * ((p1 + p3) + 256 * ((p2 + p4) + 256 * ((p3 + p5) + 256 * ((p4 + p6) + 256 * ((p5 + p7) + 256 * (p6 + 256 * p7)))))) := by
  have e := n64_sh (x := x) (k := 16) (by decide)
  have g := lb_l5 h q0 q1 q2 q3 q4 q5 q6 q7
  rw [hy, n64_add (by rw [e]; exact g.2), e]
  exact g.1
theorem lb_s6 {x y : Int64} {p0 p1 p2 p3 p4 p5 p6 p7 : Nat} (h : x.toBitVec.toNat = p0 + 256 * (p1 + 256 * (p2 + 256 * (p3 + 256 * (p4 + 256 * (p5 + 256 * (p6 + 256 * p7))))))) (q0 : p0 ≤ 32) (q1 : p1 ≤ 32) (q2 : p2 ≤ 32) (q3 : p3 ≤ 32) (q4 : p4 ≤ 32) (q5 : p5 ≤ 32) (q6 : p6 ≤ 32) (q7 : p7 ≤ 32)
    (hy : y = x + ((Int64.toUInt64 x >>> ((Int32.toInt64 (I 32)).toUInt64 &&& Int64.toUInt64 63)).toInt64)) : y.toBitVec.toNat % 128 = p0 + p4 := by
  have e := n64_sh (x := x) (k := 32) (by decide)
  have g := lb_l6 h q0 q1 q2 q3 q4 q5 q6 q7
  rw [hy, n64_add (by rw [e]; exact g.2), e]
  exact g.1
theorem lb_s1 {x y : Int64} (h : (x.toBitVec.toNat / 2) &&& mk8 85 8 ≤ x.toBitVec.toNat) (hy : y = x - (((Int64.toUInt64 x >>> ((Int32.toInt64 (I 1)).toUInt64 &&& Int64.toUInt64 63)).toInt64) &&& 6148914691236517205)) : y.toBitVec.toNat = x.toBitVec.toNat - ((x.toBitVec.toNat / 2) &&& mk8 85 8) := by
  have e := n64_sh (x := x) (k := 1) (by decide)
  rw [Nat.pow_one] at e
  rw [hy, n64_sub (by rw [n64_and, e, mk85]; exact h), n64_and, e, mk85]
theorem lb_s2 {x y : Int64} (h : ((x.toBitVec.toNat) &&& mk8 51 8) + ((x.toBitVec.toNat / 4) &&& mk8 51 8) < 256 ^ 8) (hy : y = (x &&& 3689348814741910323) + (((Int64.toUInt64 x >>> ((Int32.toInt64 (I 2)).toUInt64 &&& Int64.toUInt64 63)).toInt64) &&& 3689348814741910323)) : y.toBitVec.toNat = ((x.toBitVec.toNat) &&& mk8 51 8) + ((x.toBitVec.toNat / 4) &&& mk8 51 8) := by
  have e := n64_sh (x := x) (k := 2) (by decide)
  rw [show 2 ^ 2 = 4 from rfl] at e
  rw [hy, n64_add (by rw [n64_and, n64_and, e, mk51]; exact h), n64_and, n64_and, e, mk51]
theorem lb_s3 {x y : Int64} (h : x.toBitVec.toNat + x.toBitVec.toNat / 16 < 256 ^ 8) (hy : y = (x + ((Int64.toUInt64 x >>> ((Int32.toInt64 (I 4)).toUInt64 &&& Int64.toUInt64 63)).toInt64)) &&& 1085102592571150095) : y.toBitVec.toNat = (x.toBitVec.toNat + x.toBitVec.toNat / 16) &&& mk8 15 8 := by
  have e := n64_sh (x := x) (k := 4) (by decide)
  rw [show 2 ^ 4 = 16 from rfl] at e
  rw [hy, n64_and, n64_add (by rw [e]; exact h), e, mk15]
theorem lb_all {l l1 l2 l3 l4 l5 l6 : Int64} (hl1 : l1 = l - (((Int64.toUInt64 l >>> ((Int32.toInt64 (I 1)).toUInt64 &&& Int64.toUInt64 63)).toInt64) &&& 6148914691236517205)) (hl2 : l2 = (l1 &&& 3689348814741910323) + (((Int64.toUInt64 l1 >>> ((Int32.toInt64 (I 2)).toUInt64 &&& Int64.toUInt64 63)).toInt64) &&& 3689348814741910323))
    (hl3 : l3 = (l2 + ((Int64.toUInt64 l2 >>> ((Int32.toInt64 (I 4)).toUInt64 &&& Int64.toUInt64 63)).toInt64)) &&& 1085102592571150095) (hl4 : l4 = l3 + ((Int64.toUInt64 l3 >>> ((Int32.toInt64 (I 8)).toUInt64 &&& Int64.toUInt64 63)).toInt64)) (hl5 : l5 = l4 + ((Int64.toUInt64 l4 >>> ((Int32.toInt64 (I 16)).toUInt64 &&& Int64.toUInt64 63)).toInt64)) (hl6 : l6 = l5 + ((Int64.toUInt64 l5 >>> ((Int32.toInt64 (I 32)).toUInt64 &&& Int64.toUInt64 63)).toInt64)) : (Int64.toInt32 l6 &&& 127 : Int32) = I (cb l) := by
  have hx : l.toBitVec.toNat < 256 ^ 8 := l.toBitVec.isLt
  obtain ⟨p0, p1, p2, p3, p4, p5, p6, p7, h1, h2, h3, h4, q0, q1, q2, q3, q4, q5, q6, q7, hs⟩ := lbN hx
  have hcb : cb l = sm (bt l.toBitVec.toNat) 64 := sm_cg (fun u _ => bq_bt)
  have n1 := lb_s1 h2 hl1
  have n2 := lb_s2 (by rw [n1]; exact h1) hl2
  rw [n1] at n2
  have n3 := lb_s3 (by rw [n2]; exact h3) hl3
  rw [n2, h4] at n3
  have n4 := lb_s4 n3 q0 q1 q2 q3 q4 q5 q6 q7 hl4
  have n5 := lb_s5 n4 (Nat.add_le_add q0 q1) (Nat.add_le_add q1 q2) (Nat.add_le_add q2 q3) (Nat.add_le_add q3 q4) (Nat.add_le_add q4 q5) (Nat.add_le_add q5 q6) (Nat.add_le_add q6 q7) (Nat.le_trans q7 (by decide)) hl5
  have n6 := lb_s6 n5 (Nat.add_le_add (Nat.add_le_add q0 q1) (Nat.add_le_add q2 q3)) (Nat.add_le_add (Nat.add_le_add q1 q2) (Nat.add_le_add q3 q4)) (Nat.add_le_add (Nat.add_le_add q2 q3) (Nat.add_le_add q4 q5)) (Nat.add_le_add (Nat.add_le_add q3 q4) (Nat.add_le_add q5 q6)) (Nat.add_le_add (Nat.add_le_add q4 q5) (Nat.add_le_add q6 q7)) (Nat.le_trans (Nat.add_le_add (Nat.add_le_add q5 q6) q7) (by decide)) (Nat.le_trans (Nat.add_le_add q6 q7) (by decide)) (Nat.le_trans q7 (by decide)) hl6
  rw [lb_fin, n6, hcb, ← hs]
  exact congrArg I (by simp only [Nat.add_assoc])
theorem k_lbc {Q : Int32 → Mem → Prop} {M : Mem} {l : Int64} (h : Q (I (cb l)) M) : T_J13_bitCount_95d88 Q l M := by
  unfold T_J13_bitCount_95d88
  intro l1 hl1 l2 hl2 l3 hl3 l4 hl4 l5 hl5 l6 hl6
  rw [lb_all hl1 hl2 hl3 hl4 hl5 hl6]
  exact h
end Bc2

