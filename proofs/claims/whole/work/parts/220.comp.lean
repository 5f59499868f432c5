/-! ===== THE CLASS: its state ===== -/
/-- the state at b holds the desk a -/
def St (b : Nat) (a : Nat → Nat) (M : Mem) : Prop := M.1 b 0 = I (a 0) ∧ (∀ k, k < 4 → M.1 (b + 1) k = I (a (8 + k))) ∧
  (M.1 (b + 2) 2 = I (a 1) ∧ ∀ i, i < a 1 → ∀ c, c < 3 → M.1 (b + 4 + i) c = I (a (12 + 10 * c + i))) ∧
  (M.1 (b + 14) 2 = I (a 2) ∧ ∀ i, i < a 2 → M.1 (b + 16 + i) 0 = I (a (42 + i))) ∧
  (M.1 (b + 28) 2 = I (a 3) ∧ ∀ i, i < a 3 → ∀ c, c < 4 → M.1 (b + 30 + i) c = I (a (54 + 6 * c + i))) ∧
  (M.1 (b + 36) 2 = I (a 4) ∧ ∀ i, i < a 4 → ∀ c, c < 6 → M.1 (b + 38 + i) c = I (a (78 + 6 * i + c))) ∧
  (M.1 (b + 98) 2 = I (a 5) ∧ ∀ i, i < a 5 → ∀ c, c < 5 → M.1 (b + 100 + i) c = I (a (438 + 5 * i + c))) ∧
  (M.1 (b + 110) 2 = I (a 6) ∧ ∀ i, i < a 6 → ∀ c, c < 4 → M.1 (b + 112 + i) c = I (a (488 + 4 * i + c))) ∧
  (M.1 (b + 118) 2 = I (a 7) ∧ ∀ i, i < a 7 → ∀ c, c < 2 → M.1 (b + 120 + i) c = I (a (512 + 2 * i + c)))
/-- the state stays when its objects stay -/
theorem St.fr {b : Nat} {a : Nat → Nat} {M M' : Mem} (h : St b a M) (hM : ∀ i, b ≤ i → i < b + 140 → M'.1 i = M.1 i) (hV : VA a) : St b a M' := by
  obtain ⟨h0, h1, h2, h3, h4, h5, h6, h7, h8⟩ := h
  obtain ⟨-, ⟨-, n1, n2, n3, n4, n5, n6, n7, -⟩, -⟩ := hV
  refine ⟨by rw [hM b (by omega) (by omega)]; exact h0, fun k hk => by rw [hM _ (by omega) (by omega)]; exact h1 k hk, ⟨by rw [hM _ (by omega) (by omega)]; exact h2.1, fun i hi c hc => by rw [hM _ (by omega) (by omega)]; exact h2.2 i hi c hc⟩, ⟨by rw [hM _ (by omega) (by omega)]; exact h3.1, fun i hi => by rw [hM _ (by omega) (by omega)]; exact h3.2 i hi⟩, ⟨by rw [hM _ (by omega) (by omega)]; exact h4.1, fun i hi c hc => by rw [hM _ (by omega) (by omega)]; exact h4.2 i hi c hc⟩, ⟨by rw [hM _ (by omega) (by omega)]; exact h5.1, fun i hi c hc => by rw [hM _ (by omega) (by omega)]; exact h5.2 i hi c hc⟩, ⟨by rw [hM _ (by omega) (by omega)]; exact h6.1, fun i hi c hc => by rw [hM _ (by omega) (by omega)]; exact h6.2 i hi c hc⟩, ⟨by rw [hM _ (by omega) (by omega)]; exact h7.1, fun i hi c hc => by rw [hM _ (by omega) (by omega)]; exact h7.2 i hi c hc⟩, ⟨by rw [hM _ (by omega) (by omega)]; exact h8.1, fun i hi c hc => by rw [hM _ (by omega) (by omega)]; exact h8.2 i hi c hc⟩⟩
theorem kn_0 : kd 0 = 6 := by decide
theorem kn_1 : kd 1 = 3 := by decide
theorem kn_2 : kd 2 = 9 := by decide
theorem kn_3 : kd 3 = 4 := by decide
theorem kn_4 : kd 4 = 11 := by decide
theorem kn_15 : kd 15 = 4 := by decide
theorem kn_16 : kd 16 = 11 := by decide
theorem kn_29 : kd 29 = 4 := by decide
theorem kn_30 : kd 30 = 11 := by decide
theorem kn_37 : kd 37 = 4 := by decide
theorem kn_38 : kd 38 = 11 := by decide
theorem kn_99 : kd 99 = 4 := by decide
theorem kn_100 : kd 100 = 11 := by decide
theorem kn_111 : kd 111 = 4 := by decide
theorem kn_112 : kd 112 = 11 := by decide
theorem kn_119 : kd 119 = 4 := by decide
theorem kn_120 : kd 120 = 11 := by decide
theorem kn_281 : kd 281 = 1 := by decide
theorem kn_282 : kd 282 = 10 := by decide
theorem kn_1543 : kd 1543 = 2 := by decide
theorem kn_1544 : kd 1544 = 9 := by decide
theorem kn_1545 : kd 1545 = 0 := by decide
theorem kn_1546 : kd 1546 = 4 := by decide
theorem kn_1547 : kd 1547 = 11 := by decide
theorem kn_1551 : kd 1551 = 5 := by decide
theorem kn_1552 : kd 1552 = 8 := by decide
theorem kn_1553 : kd 1553 = 4 := by decide
theorem kn_1554 : kd 1554 = 11 := by decide
theorem lnn_2 : ln 2 = 4 := by decide
theorem lnn_4 : ln 4 = 10 := by decide
theorem lnn_16 : ln 16 = 12 := by decide
theorem lnn_30 : ln 30 = 6 := by decide
theorem lnn_38 : ln 38 = 60 := by decide
theorem lnn_100 : ln 100 = 10 := by decide
theorem lnn_112 : ln 112 = 6 := by decide
theorem lnn_120 : ln 120 = 20 := by decide
theorem lnn_282 : ln 282 = 9 := by decide
theorem lnn_1544 : ln 1544 = 10 := by decide
theorem lnn_1547 : ln 1547 = 3 := by decide
theorem lnn_1552 : ln 1552 = 80 := by decide
theorem lnn_1554 : ln 1554 = 27 := by decide
theorem rn_1_1 : rf 1 1 = 2 := by decide
theorem rn_1_2 : rf 1 2 = 3 := by decide
theorem rn_1_3 : rf 1 3 = 15 := by decide
theorem rn_1_4 : rf 1 4 = 29 := by decide
theorem rn_1_5 : rf 1 5 = 37 := by decide
theorem rn_1_6 : rf 1 6 = 99 := by decide
theorem rn_1_7 : rf 1 7 = 111 := by decide
theorem rn_1_8 : rf 1 8 = 119 := by decide
theorem rn_3_0 : rf 3 0 = 4 := by decide
theorem rn_15_0 : rf 15 0 = 16 := by decide
theorem rn_29_0 : rf 29 0 = 30 := by decide
theorem rn_37_0 : rf 37 0 = 38 := by decide
theorem rn_99_0 : rf 99 0 = 100 := by decide
theorem rn_111_0 : rf 111 0 = 112 := by decide
theorem rn_119_0 : rf 119 0 = 120 := by decide
theorem rn_1543_0 : rf 1543 0 = 1 := by decide
theorem rn_1543_1 : rf 1543 1 = 1544 := by decide
theorem rn_1545_0 : rf 1545 0 = 1 := by decide
theorem rn_1545_1 : rf 1545 1 = 1543 := by decide
theorem rn_0_0 : rf 0 0 = 1 := by decide
theorem rn_0_1 : rf 0 1 = 141 := by decide
theorem rn_0_3 : rf 0 3 = 281 := by decide
theorem rn_0_4 : rf 0 4 = 1543 := by decide
theorem rn_0_5 : rf 0 5 = 1545 := by decide
theorem rn_0_6 : rf 0 6 = 1546 := by decide
theorem rn_0_7 : rf 0 7 = 1551 := by decide
theorem rn_1546_0 : rf 1546 0 = 1547 := by decide
theorem rn_1551_0 : rf 1551 0 = 1552 := by decide
theorem rn_1551_3 : rf 1551 3 = 1553 := by decide
theorem rn_1553_0 : rf 1553 0 = 1554 := by decide
theorem rn_281_0 : rf 281 0 = 282 := by decide
theorem rr_4 (k : Nat) : rf 4 k = 5 + k := rf11 kn_4
theorem rr_16 (k : Nat) : rf 16 k = 17 + k := rf11 kn_16
theorem rr_30 (k : Nat) : rf 30 k = 31 + k := rf11 kn_30
theorem rr_38 (k : Nat) : rf 38 k = 39 + k := rf11 kn_38
theorem rr_100 (k : Nat) : rf 100 k = 101 + k := rf11 kn_100
theorem rr_112 (k : Nat) : rf 112 k = 113 + k := rf11 kn_112
theorem rr_120 (k : Nat) : rf 120 k = 121 + k := rf11 kn_120
theorem rr_1547 (k : Nat) : rf 1547 k = 1548 + k := rf11 kn_1547
theorem rr_1554 (k : Nat) : rf 1554 k = 1555 + k := rf11 kn_1554
theorem kr_4 {i : Nat} (h : i < 10) : kd (5 + i) = 9 := by
  have : ∀ i : Fin 10, kd (5 + i.val) = 9 := by decide
  exact this ⟨i, h⟩
theorem kr_16 {i : Nat} (h : i < 12) : kd (17 + i) = 9 := by
  have : ∀ i : Fin 12, kd (17 + i.val) = 9 := by decide
  exact this ⟨i, h⟩
theorem kr_30 {i : Nat} (h : i < 6) : kd (31 + i) = 9 := by
  have : ∀ i : Fin 6, kd (31 + i.val) = 9 := by decide
  exact this ⟨i, h⟩
theorem kr_38 {i : Nat} (h : i < 60) : kd (39 + i) = 9 := by
  have : ∀ i : Fin 60, kd (39 + i.val) = 9 := by decide
  exact this ⟨i, h⟩
theorem kr_100 {i : Nat} (h : i < 10) : kd (101 + i) = 9 := by
  have : ∀ i : Fin 10, kd (101 + i.val) = 9 := by decide
  exact this ⟨i, h⟩
theorem kr_112 {i : Nat} (h : i < 6) : kd (113 + i) = 9 := by
  have : ∀ i : Fin 6, kd (113 + i.val) = 9 := by decide
  exact this ⟨i, h⟩
theorem kr_120 {i : Nat} (h : i < 20) : kd (121 + i) = 9 := by
  have : ∀ i : Fin 20, kd (121 + i.val) = 9 := by decide
  exact this ⟨i, h⟩
theorem kr_1547 {i : Nat} (h : i < 3) : kd (1548 + i) = 9 := by
  have : ∀ i : Fin 3, kd (1548 + i.val) = 9 := by decide
  exact this ⟨i, h⟩
theorem kr_1554 {i : Nat} (h : i < 27) : kd (1555 + i) = 9 := by
  have : ∀ i : Fin 27, kd (1555 + i.val) = 9 := by decide
  exact this ⟨i, h⟩
theorem lr_4 {i : Nat} (h : i < 10) : ln (5 + i) = 3 := by
  have : ∀ i : Fin 10, ln (5 + i.val) = 3 := by decide
  exact this ⟨i, h⟩
theorem lr_16 {i : Nat} (h : i < 12) : ln (17 + i) = 1 := by
  have : ∀ i : Fin 12, ln (17 + i.val) = 1 := by decide
  exact this ⟨i, h⟩
theorem lr_30 {i : Nat} (h : i < 6) : ln (31 + i) = 4 := by
  have : ∀ i : Fin 6, ln (31 + i.val) = 4 := by decide
  exact this ⟨i, h⟩
theorem lr_38 {i : Nat} (h : i < 60) : ln (39 + i) = 6 := by
  have : ∀ i : Fin 60, ln (39 + i.val) = 6 := by decide
  exact this ⟨i, h⟩
theorem lr_100 {i : Nat} (h : i < 10) : ln (101 + i) = 5 := by
  have : ∀ i : Fin 10, ln (101 + i.val) = 5 := by decide
  exact this ⟨i, h⟩
theorem lr_112 {i : Nat} (h : i < 6) : ln (113 + i) = 4 := by
  have : ∀ i : Fin 6, ln (113 + i.val) = 4 := by decide
  exact this ⟨i, h⟩
theorem lr_120 {i : Nat} (h : i < 20) : ln (121 + i) = 2 := by
  have : ∀ i : Fin 20, ln (121 + i.val) = 2 := by decide
  exact this ⟨i, h⟩
theorem lr_1547 {i : Nat} (h : i < 3) : ln (1548 + i) = 2 := by
  have : ∀ i : Fin 3, ln (1548 + i.val) = 2 := by decide
  exact this ⟨i, h⟩
theorem lr_1554 {i : Nat} (h : i < 27) : ln (1555 + i) = 5 := by
  have : ∀ i : Fin 27, ln (1555 + i.val) = 5 := by decide
  exact this ⟨i, h⟩
theorem s_d {a : Nat → Nat} {M : Mem} (hS : St 1 a M) : M.1 1 0 = I (a 0) := hS.1
theorem s_q {a : Nat → Nat} {M : Mem} (hS : St 1 a M) {k : Nat} (h : k < 4) : M.1 2 k = I (a (8 + k)) := hS.2.1 k h
theorem s_ni {a : Nat → Nat} {M : Mem} (hS : St 1 a M) : M.1 3 2 = I (a 1) := hS.2.2.1.1
theorem s_i0 {a : Nat → Nat} {M : Mem} (hS : St 1 a M) {i : Nat} (h : i < a 1) : M.1 (5 + i) 0 = I (a (12 + i)) := by
  have := hS.2.2.1.2 i h 0 (by decide)
  rwa [show 12 + 10 * 0 + i = 12 + i by omega] at this
theorem s_i1 {a : Nat → Nat} {M : Mem} (hS : St 1 a M) {i : Nat} (h : i < a 1) : M.1 (5 + i) 1 = I (a (22 + i)) := by
  have := hS.2.2.1.2 i h 1 (by decide)
  rwa [show 12 + 10 * 1 + i = 22 + i by omega] at this
theorem s_i2 {a : Nat → Nat} {M : Mem} (hS : St 1 a M) {i : Nat} (h : i < a 1) : M.1 (5 + i) 2 = I (a (32 + i)) := by
  have := hS.2.2.1.2 i h 2 (by decide)
  rwa [show 12 + 10 * 2 + i = 32 + i by omega] at this
theorem s_nk {a : Nat → Nat} {M : Mem} (hS : St 1 a M) : M.1 15 2 = I (a 2) := hS.2.2.2.1.1
theorem s_k {a : Nat → Nat} {M : Mem} (hS : St 1 a M) {i : Nat} (h : i < a 2) : M.1 (17 + i) 0 = I (a (42 + i)) := by
  have := hS.2.2.2.1.2 i h
  exact this
theorem s_nr {a : Nat → Nat} {M : Mem} (hS : St 1 a M) : M.1 29 2 = I (a 3) := hS.2.2.2.2.1.1
theorem s_r0 {a : Nat → Nat} {M : Mem} (hS : St 1 a M) {i : Nat} (h : i < a 3) : M.1 (31 + i) 0 = I (a (54 + i)) := by
  have := hS.2.2.2.2.1.2 i h 0 (by decide)
  rwa [show 54 + 6 * 0 + i = 54 + i by omega] at this
theorem s_r1 {a : Nat → Nat} {M : Mem} (hS : St 1 a M) {i : Nat} (h : i < a 3) : M.1 (31 + i) 1 = I (a (60 + i)) := by
  have := hS.2.2.2.2.1.2 i h 1 (by decide)
  rwa [show 54 + 6 * 1 + i = 60 + i by omega] at this
theorem s_r2 {a : Nat → Nat} {M : Mem} (hS : St 1 a M) {i : Nat} (h : i < a 3) : M.1 (31 + i) 2 = I (a (66 + i)) := by
  have := hS.2.2.2.2.1.2 i h 2 (by decide)
  rwa [show 54 + 6 * 2 + i = 66 + i by omega] at this
theorem s_r3 {a : Nat → Nat} {M : Mem} (hS : St 1 a M) {i : Nat} (h : i < a 3) : M.1 (31 + i) 3 = I (a (72 + i)) := by
  have := hS.2.2.2.2.1.2 i h 3 (by decide)
  rwa [show 54 + 6 * 3 + i = 72 + i by omega] at this
theorem s_nv {a : Nat → Nat} {M : Mem} (hS : St 1 a M) : M.1 37 2 = I (a 4) := hS.2.2.2.2.2.1.1
theorem s_v0 {a : Nat → Nat} {M : Mem} (hS : St 1 a M) {i : Nat} (h : i < a 4) : M.1 (39 + i) 0 = I (a (78 + 6 * i)) := by
  have := hS.2.2.2.2.2.1.2 i h 0 (by decide)
  exact this
theorem s_v1 {a : Nat → Nat} {M : Mem} (hS : St 1 a M) {i : Nat} (h : i < a 4) : M.1 (39 + i) 1 = I (a (78 + 6 * i + 1)) := by
  have := hS.2.2.2.2.2.1.2 i h 1 (by decide)
  exact this
theorem s_v2 {a : Nat → Nat} {M : Mem} (hS : St 1 a M) {i : Nat} (h : i < a 4) : M.1 (39 + i) 2 = I (a (78 + 6 * i + 2)) := by
  have := hS.2.2.2.2.2.1.2 i h 2 (by decide)
  exact this
theorem s_v3 {a : Nat → Nat} {M : Mem} (hS : St 1 a M) {i : Nat} (h : i < a 4) : M.1 (39 + i) 3 = I (a (78 + 6 * i + 3)) := by
  have := hS.2.2.2.2.2.1.2 i h 3 (by decide)
  exact this
theorem s_v4 {a : Nat → Nat} {M : Mem} (hS : St 1 a M) {i : Nat} (h : i < a 4) : M.1 (39 + i) 4 = I (a (78 + 6 * i + 4)) := by
  have := hS.2.2.2.2.2.1.2 i h 4 (by decide)
  exact this
theorem s_v5 {a : Nat → Nat} {M : Mem} (hS : St 1 a M) {i : Nat} (h : i < a 4) : M.1 (39 + i) 5 = I (a (78 + 6 * i + 5)) := by
  have := hS.2.2.2.2.2.1.2 i h 5 (by decide)
  exact this
theorem s_nb {a : Nat → Nat} {M : Mem} (hS : St 1 a M) : M.1 99 2 = I (a 5) := hS.2.2.2.2.2.2.1.1
theorem s_b0 {a : Nat → Nat} {M : Mem} (hS : St 1 a M) {i : Nat} (h : i < a 5) : M.1 (101 + i) 0 = I (a (438 + 5 * i)) := by
  have := hS.2.2.2.2.2.2.1.2 i h 0 (by decide)
  exact this
theorem s_b1 {a : Nat → Nat} {M : Mem} (hS : St 1 a M) {i : Nat} (h : i < a 5) : M.1 (101 + i) 1 = I (a (438 + 5 * i + 1)) := by
  have := hS.2.2.2.2.2.2.1.2 i h 1 (by decide)
  exact this
theorem s_b2 {a : Nat → Nat} {M : Mem} (hS : St 1 a M) {i : Nat} (h : i < a 5) : M.1 (101 + i) 2 = I (a (438 + 5 * i + 2)) := by
  have := hS.2.2.2.2.2.2.1.2 i h 2 (by decide)
  exact this
theorem s_b3 {a : Nat → Nat} {M : Mem} (hS : St 1 a M) {i : Nat} (h : i < a 5) : M.1 (101 + i) 3 = I (a (438 + 5 * i + 3)) := by
  have := hS.2.2.2.2.2.2.1.2 i h 3 (by decide)
  exact this
theorem s_b4 {a : Nat → Nat} {M : Mem} (hS : St 1 a M) {i : Nat} (h : i < a 5) : M.1 (101 + i) 4 = I (a (438 + 5 * i + 4)) := by
  have := hS.2.2.2.2.2.2.1.2 i h 4 (by decide)
  exact this
theorem s_nw {a : Nat → Nat} {M : Mem} (hS : St 1 a M) : M.1 111 2 = I (a 6) := hS.2.2.2.2.2.2.2.1.1
theorem s_w0 {a : Nat → Nat} {M : Mem} (hS : St 1 a M) {i : Nat} (h : i < a 6) : M.1 (113 + i) 0 = I (a (488 + 4 * i)) := by
  have := hS.2.2.2.2.2.2.2.1.2 i h 0 (by decide)
  exact this
theorem s_w1 {a : Nat → Nat} {M : Mem} (hS : St 1 a M) {i : Nat} (h : i < a 6) : M.1 (113 + i) 1 = I (a (488 + 4 * i + 1)) := by
  have := hS.2.2.2.2.2.2.2.1.2 i h 1 (by decide)
  exact this
theorem s_w2 {a : Nat → Nat} {M : Mem} (hS : St 1 a M) {i : Nat} (h : i < a 6) : M.1 (113 + i) 2 = I (a (488 + 4 * i + 2)) := by
  have := hS.2.2.2.2.2.2.2.1.2 i h 2 (by decide)
  exact this
theorem s_w3 {a : Nat → Nat} {M : Mem} (hS : St 1 a M) {i : Nat} (h : i < a 6) : M.1 (113 + i) 3 = I (a (488 + 4 * i + 3)) := by
  have := hS.2.2.2.2.2.2.2.1.2 i h 3 (by decide)
  exact this
theorem s_nn {a : Nat → Nat} {M : Mem} (hS : St 1 a M) : M.1 119 2 = I (a 7) := hS.2.2.2.2.2.2.2.2.1
theorem s_n0 {a : Nat → Nat} {M : Mem} (hS : St 1 a M) {i : Nat} (h : i < a 7) : M.1 (121 + i) 0 = I (a (512 + 2 * i)) := by
  have := hS.2.2.2.2.2.2.2.2.2 i h 0 (by decide)
  exact this
theorem s_n1 {a : Nat → Nat} {M : Mem} (hS : St 1 a M) {i : Nat} (h : i < a 7) : M.1 (121 + i) 1 = I (a (512 + 2 * i + 1)) := by
  have := hS.2.2.2.2.2.2.2.2.2 i h 1 (by decide)
  exact this
/-! bits -/
theorem I_dif {s m : Nat} (hs : s < 2147483648) (hm : m < 2147483648) : I s &&& (I m ^^^ NO) = I (s ^^^ (s &&& m)) := by
  apply Int32.toBitVec_inj.mp
  show BitVec.ofNat 32 s &&& (BitVec.ofNat 32 m ^^^ BitVec.allOnes 32) = BitVec.ofNat 32 (s ^^^ (s &&& m))
  rw [BitVec.ofNat_xor, BitVec.ofNat_and, BitVec.xor_allOnes]
  generalize BitVec.ofNat 32 s = x
  generalize BitVec.ofNat 32 m = y
  ext i hi
  simp only [BitVec.getElem_and, BitVec.getElem_not, BitVec.getElem_xor]
  cases x[i] <;> cases y[i] <;> rfl
theorem I_ubit {s k : Nat} (hs : s < 2147483648) (hk : k < 31) : ((Int32.toUInt32 (I s) >>> (Int32.toUInt32 (I k) &&& Int32.toUInt32 (I 31))).toInt32) &&& I 1 = I (bt s k) := by
  rw [← I_bit hs hk]
  congr 1
  rw [I_shr hs hk]
  apply Int32.toBitVec_inj.mp
  show (BitVec.ofNat 32 s) >>> ((BitVec.ofNat 32 k &&& BitVec.ofNat 32 31) % 32#32) = BitVec.ofNat 32 (s / 2 ^ k)
  have e : (BitVec.ofNat 32 k &&& BitVec.ofNat 32 31) % 32#32 = BitVec.ofNat 32 k := by
    have : ∀ k : Fin 31, (BitVec.ofNat 32 k.val &&& BitVec.ofNat 32 31) % 32#32 = BitVec.ofNat 32 k.val := by decide +kernel
    exact this ⟨k, hk⟩
  rw [e]
  apply BitVec.eq_of_toNat_eq
  have h9 : s / 2 ^ k ≤ s := Nat.div_le_self _ _
  rw [BitVec.ushiftRight_eq', BitVec.toNat_ushiftRight, BitVec.toNat_ofNat, BitVec.toNat_ofNat, BitVec.toNat_ofNat, Nat.mod_eq_of_lt (by omega), Nat.mod_eq_of_lt (by omega), Nat.mod_eq_of_lt (by omega), Nat.shiftRight_eq_div_pow]

