/-! ===== THE SHAPE: every object of a run has its number, in the order in which they are made; which object lies where never changes; a memory is what the places hold ===== -/
/-- where the run's objects begin, the classes' numbers and slots, the arrays' classes; the script: its address, its length, its ints -/
abbrev GG : Type := Nat × va_G × (Nat → ClassId) × (Nat × Nat × (Nat → Int32))
abbrev Mem : Type := (Nat → Nat → Int32) × (Nat → Int64) × (Nat → UInt64)
abbrev Out : Type := Option Value ⊕ String
abbrev cls : List vw_C := [(RX0, TX0, 2), (RX1, TX1, 3), (RX2, TX2, 7), (RX3, TX3, 9), (RX4, TX4, 3), (RX5, TX5, 4), (RX6, TX6, 8), (RX7, TX7, 23)]
abbrev tysG (g : GG) : List (ClassId × FieldType) := [(g.2.2.1 0, .char), (g.2.2.1 1, .int), (g.2.2.1 2, .object "VisitBooking$State"), (g.2.2.1 3, .array .int), (g.2.2.1 4, .long), (g.2.2.1 5, .double)]
def AG (g : GG) : Nat → Prop := fun q => g.1 ≤ q
def sOff (k : Nat) : Nat := if k = 1 then 1 else if k = 2 then 2 else if k = 3 then 14 else if k = 4 then 28 else if k = 5 then 36 else if k = 6 then 98 else if k = 7 then 110 else 118
def sKd (o : Nat) : Nat := if o = 0 then 3 else if o = 1 then 9 else if o = 2 ∨ o = 14 ∨ o = 28 ∨ o = 36 ∨ o = 98 ∨ o = 110 ∨ o = 118 then 4 else if o = 3 ∨ o = 15 ∨ o = 29 ∨ o = 37 ∨ o = 99 ∨ o = 111 ∨ o = 119 then 11 else 9
def sLn (o : Nat) : Nat := if o < 2 then 4 else if o < 4 then 10 else if o < 14 then 3 else if o < 16 then 12 else if o < 28 then 1 else if o < 30 then 6 else if o < 36 then 4 else if o < 38 then 60 else if o < 98 then 6 else if o < 100 then 10 else if o < 110 then 5 else if o < 112 then 6 else if o < 118 then 4 else if o < 120 then 20 else 2
/-- the kind of an object: 0 Desk, 1 History, 2 Judge, 3 State, 4 Table, 5 Text, 6 VisitBooking, 7 VisitBookingModel, 8 char[], 9 int[], 10 State[], 11 int[][], 12 long[], 13 double[] -/
def kd (i : Nat) : Nat := if i = 0 then 6 else if i < 281 then sKd ((i - 1) % 140) else if i = 281 then 1 else if i = 282 then 10 else if i < 1543 then sKd ((i - 283) % 140) else if i = 1543 then 2 else if i = 1544 then 9 else if i = 1545 then 0 else if i = 1546 then 4 else if i = 1547 then 11 else if i < 1551 then 9 else if i = 1551 then 5 else if i = 1552 then 8 else if i = 1553 then 4 else if i = 1554 then 11 else if i < 1582 then 9 else if i = 1582 then 7 else if i < 1592 then 9 else if i = 1592 then 12 else if i = 1593 then 13 else 99
def ln (i : Nat) : Nat := if i < 281 then sLn ((i - 1) % 140) else if i = 282 then 9 else if i < 1543 then sLn ((i - 283) % 140) else if i = 1544 then 10 else if i = 1547 then 3 else if i < 1551 then 2 else if i = 1552 then 80 else if i = 1554 then 27 else if i < 1582 then 5 else if i = 1583 then 552 else if i = 1584 then 552 else if i = 1585 then 552 else if i = 1586 then 4416 else if i = 1587 then 80 else if i = 1588 then 3 else if i = 1589 then 3 else if i = 1590 then 42 else if i = 1591 then 168 else 1
def rf (i k : Nat) : Nat :=
  if kd i = 4 then i + 1 else if kd i = 11 then i + 1 + k else if kd i = 3 then i + sOff k else if kd i = 10 then 283 + 140 * k else if kd i = 1 then 282
  else if kd i = 2 then (if k = 0 then 1 else 1544) else if kd i = 0 then (if k = 0 then 1 else 1543) else if kd i = 5 then (if k = 0 then 1552 else 1553)
  else if kd i = 6 then (if k = 0 then 1 else if k = 1 then 141 else if k = 3 then 281 else if k = 4 then 1543 else if k = 5 then 1545 else if k = 6 then 1546 else 1551)
  else (if k = 1 then 1583 else if k = 2 then 1584 else if k = 3 then 1585 else if k = 4 then 1586 else if k = 7 then 1587 else if k = 9 then 1588 else if k = 10 then 1589 else if k = 20 then 1590 else 1591)
def nfC (c : Nat) : Nat := if c = 0 then 2 else if c = 1 then 3 else if c = 2 then 7 else if c = 3 then 9 else if c = 4 then 3 else if c = 5 then 4 else if c = 6 then 8 else 23
/-- whether a field holds a number -/
def isI (c k : Nat) : Bool := if c = 0 then false else if c = 1 then decide (1 ≤ k) else if c = 2 then decide (2 ≤ k) else if c = 3 then k == 0 else if c = 4 then decide (1 ≤ k) else if c = 5 then k == 1 || k == 2 else if c = 6 then k == 2
  else k == 0 || k == 5 || k == 6 || k == 8 || k == 11 || k == 12 || k == 13 || k == 14 || k == 15 || k == 16 || k == 17 || k == 18 || k == 19 || k == 22
def fl (g : GG) (M : Mem) (i c : Nat) : List Value := (List.range (nfC c)).map fun k => if isI c k = true then .int (M.1 i k) else .ref (g.1 + rf i k)
def cellOf (g : GG) (M : Mem) (i : Nat) : va_E :=
  if kd i < 8 then .inr (kd i, fl g M i (kd i)) else if kd i = 8 then .inl (g.2.2.1 0, ln i, .inl (M.1 i)) else if kd i = 9 then .inl (g.2.2.1 1, ln i, .inl (M.1 i))
  else if kd i = 10 then .inl (g.2.2.1 2, ln i, .inr (.inr (.inr (.inr (fun j => some (g.1 + rf i j)))))) else if kd i = 11 then .inl (g.2.2.1 3, ln i, .inr (.inr (.inr (.inr (fun j => some (g.1 + rf i j))))))
  else if kd i = 12 then .inl (g.2.2.1 4, ln i, .inr (.inl M.2.1)) else if kd i = 13 then .inl (g.2.2.1 5, ln i, .inr (.inr (.inr (.inl M.2.2)))) else .inr (0, [])
def adsN (N : Nat) (g : GG) : List Nat := (List.range N).map (fun i => g.1 + i)
def plN (N : Nat) (g : GG) (M : Mem) : va_W := va_pl (adsN N g) (fun a => cellOf g M (a - g.1))
abbrev plM (g : GG) (M : Mem) : va_W := plN 1594 g M
def Rep (g : GG) (M : Mem) (H : Heap) : Prop := va_P g.2.1 cls (plM g M) H
theorem kd_lt {i : Nat} (h : kd i < 99) : i < 1594 := by
  by_cases q : i < 1594
  · exact q
  · exfalso
    unfold kd at h
    iterate 20 rw [if_neg (by omega)] at h
    omega
theorem ads_mem {N : Nat} {g : GG} {i : Nat} (h : i < N) : g.1 + i ∈ adsN N g := List.mem_map.mpr ⟨i, List.mem_range.mpr h, rfl⟩
theorem ads_of {N : Nat} {g : GG} {a : Nat} (h : a ∈ adsN N g) : ∃ i, i < N ∧ a = g.1 + i := by
  obtain ⟨i, h1, h2⟩ := List.mem_map.mp h
  exact ⟨i, List.mem_range.mp h1, h2.symm⟩
theorem plN_D (N : Nat) (g : GG) (M : Mem) : va_D (AG g) (plN N g M) := by
  refine ⟨fun i j p q hi hj he => ?_, fun k q hk => ?_⟩
  · unfold plN va_pl adsN at hi hj
    rw [List.getElem?_map, List.getElem?_map] at hi hj
    by_cases h1 : i < N
    · by_cases h2 : j < N
      · rw [List.getElem?_range h1] at hi
        rw [List.getElem?_range h2] at hj
        simp only [Option.map_some, Option.some.injEq] at hi hj
        rw [← hi, ← hj] at he
        simp only at he
        omega
      · rw [List.getElem?_eq_none (by simpa using h2)] at hj; simp at hj
    · rw [List.getElem?_eq_none (by simpa using h1)] at hi; simp at hi
  · obtain ⟨a, ha, hq⟩ := List.mem_map.mp (List.mem_of_getElem? hk)
    obtain ⟨i, -, he⟩ := ads_of ha
    rw [← hq]
    show g.1 ≤ a
    omega
theorem plN_at (N : Nat) (g : GG) (M : Mem) {i : Nat} (h : i < N) : ∃ k : Nat, (plN N g M)[k]? = some (g.1 + i, cellOf g M i) := by
  obtain ⟨k, hk⟩ := va_pl_get (X := []) (L := adsN N g) (f := fun a => cellOf g M (a - g.1)) (ads_mem (g := g) h)
  refine ⟨k, ?_⟩
  rw [List.nil_append] at hk
  unfold plN
  rw [hk]
  show some (g.1 + i, cellOf g M (g.1 + i - g.1)) = _
  rw [Nat.add_sub_cancel_left]
theorem plN_set (N : Nat) {g : GG} {M M' : Mem} {i k : Nat} {e : va_E} (h : i < N) (hk : (plN N g M)[k]? = some (g.1 + i, cellOf g M i)) (he : cellOf g M' i = e) (ho : ∀ j, j ≠ i → cellOf g M' j = cellOf g M j) : (plN N g M).set k (g.1 + i, e) = plN N g M' := by
  have hk' : ([] ++ va_pl (adsN N g) (fun a => cellOf g M (a - g.1)))[k]? = some (g.1 + i, (fun a => cellOf g M (a - g.1)) (g.1 + i)) := by
    rw [List.nil_append]
    unfold plN at hk
    rw [hk]
    show some (g.1 + i, cellOf g M i) = some (g.1 + i, cellOf g M (g.1 + i - g.1))
    rw [Nat.add_sub_cancel_left]
  have hD := plN_D N g M
  unfold plN at hD
  have h1 := va_pl_set (X := []) (L := adsN N g) (f := fun a => cellOf g M (a - g.1)) (e := e) (by rw [List.nil_append]; exact hD) (ads_mem (g := g) h) hk'
  rw [List.nil_append, List.nil_append] at h1
  unfold plN
  rw [h1]
  unfold va_pl
  apply List.map_congr_left
  intro a ha
  obtain ⟨j, -, rfl⟩ := ads_of ha
  by_cases hj : j = i
  · subst hj
    show (g.1 + j, va_up _ _ e (g.1 + j)) = (g.1 + j, cellOf g M' (g.1 + j - g.1))
    rw [va_up_self, Nat.add_sub_cancel_left, he]
  · show (g.1 + j, va_up (fun a => cellOf g M (a - g.1)) _ e (g.1 + j)) = (g.1 + j, cellOf g M' (g.1 + j - g.1))
    rw [va_up_ne _ _ (by omega), Nat.add_sub_cancel_left, ho j hj]
theorem repD (g : GG) (M : Mem) : va_D (AG g) (plM g M) := plN_D 1594 g M
theorem rep_at (g : GG) (M : Mem) {i : Nat} (h : kd i < 99) : ∃ k : Nat, (plM g M)[k]? = some (g.1 + i, cellOf g M i) := plN_at 1594 g M (kd_lt h)
theorem rep_set {g : GG} {M M' : Mem} {i k : Nat} {e : va_E} (h : kd i < 99) (hk : (plM g M)[k]? = some (g.1 + i, cellOf g M i)) (he : cellOf g M' i = e) (ho : ∀ j, j ≠ i → cellOf g M' j = cellOf g M j) : (plM g M).set k (g.1 + i, e) = plM g M' := plN_set 1594 (kd_lt h) hk he ho
def mset (M : Mem) (i k : Nat) (v : Int32) : Mem := (fun a j => if a = i then (if j = k then v else M.1 a j) else M.1 a j, M.2)
def mcpy (M : Mem) (i j sp dp n : Nat) : Mem := (fun a k => if a = j then va_cpy (M.1 i) (M.1 j) sp dp n k else M.1 a k, M.2)
theorem mset_ne {M : Mem} {i k : Nat} {v : Int32} {j : Nat} (h : j ≠ i) : (mset M i k v).1 j = M.1 j := funext fun _ => if_neg h
theorem mset_at {M : Mem} {i k : Nat} {v : Int32} : (mset M i k v).1 i = upd (M.1 i) k v := by
  funext j
  show (if i = i then (if j = k then v else M.1 i j) else M.1 i j) = upd (M.1 i) k v j
  rw [if_pos rfl]
  by_cases h : j = k
  · subst h; rw [pk_us, if_pos rfl]
  · rw [pk_un h, if_neg h]
theorem mcpy_ne {M : Mem} {i j sp dp n : Nat} {a : Nat} (h : a ≠ j) : (mcpy M i j sp dp n).1 a = M.1 a := funext fun _ => if_neg h
theorem mcpy_at {M : Mem} {i j sp dp n : Nat} : (mcpy M i j sp dp n).1 j = va_cpy (M.1 i) (M.1 j) sp dp n := funext fun _ => if_pos rfl
theorem fl_at (g : GG) (M : Mem) (i c k : Nat) (h : k < nfC c) : (fl g M i c)[k]? = some (if isI c k = true then .int (M.1 i k) else .ref (g.1 + rf i k)) := by
  unfold fl
  rw [List.getElem?_map, List.getElem?_range h]
  rfl
theorem fl_len (g : GG) (M : Mem) (i c : Nat) : (fl g M i c).length = nfC c := by simp [fl]
theorem fl_set (g : GG) (M : Mem) (i c k : Nat) (v : Int32) (hi : isI c k = true) : (fl g M i c).set k (.int v) = fl g (mset M i k v) i c := by
  apply List.ext_getElem?
  intro j
  by_cases hj : j < nfC c
  · rw [List.getElem?_set, fl_at g _ i c j hj, fl_at g _ i c j hj, mset_at, fl_len]
    by_cases e : k = j
    · subst e
      rw [if_pos rfl, if_pos hj, if_pos hi, pk_us]
    · rw [if_neg e, pk_un (fun q => e q.symm)]
  · rw [List.getElem?_eq_none (by rw [List.length_set, fl_len]; omega), List.getElem?_eq_none (by rw [fl_len]; omega)]
theorem fl_ne (g : GG) {M M' : Mem} {i c : Nat} (h : M'.1 i = M.1 i) : fl g M' i c = fl g M i c := by unfold fl; rw [h]
theorem cell_ne (g : GG) {M M' : Mem} {i : Nat} (h : M'.1 i = M.1 i) (h2 : M'.2 = M.2) : cellOf g M' i = cellOf g M i := by
  unfold cellOf
  rw [fl_ne g h, h, h2]
theorem cell_o (g : GG) (M : Mem) {i c : Nat} (h : kd i = c) (hc : c < 8) : cellOf g M i = .inr (c, fl g M i c) := by unfold cellOf; rw [if_pos (by omega), h]
theorem cell_8 (g : GG) (M : Mem) {i : Nat} (h : kd i = 8) : cellOf g M i = .inl (g.2.2.1 0, ln i, .inl (M.1 i)) := by unfold cellOf; rw [if_neg (by omega), if_pos h]
theorem cell_9 (g : GG) (M : Mem) {i : Nat} (h : kd i = 9) : cellOf g M i = .inl (g.2.2.1 1, ln i, .inl (M.1 i)) := by unfold cellOf; rw [if_neg (by omega), if_neg (by omega), if_pos h]
theorem cell_10 (g : GG) (M : Mem) {i : Nat} (h : kd i = 10) : cellOf g M i = .inl (g.2.2.1 2, ln i, .inr (.inr (.inr (.inr (fun j => some (g.1 + rf i j)))))) := by unfold cellOf; rw [if_neg (by omega), if_neg (by omega), if_neg (by omega), if_pos h]
theorem cell_11 (g : GG) (M : Mem) {i : Nat} (h : kd i = 11) : cellOf g M i = .inl (g.2.2.1 3, ln i, .inr (.inr (.inr (.inr (fun j => some (g.1 + rf i j)))))) := by unfold cellOf; rw [if_neg (by omega), if_neg (by omega), if_neg (by omega), if_neg (by omega), if_pos h]
theorem cell_12 (g : GG) (M : Mem) {i : Nat} (h : kd i = 12) : cellOf g M i = .inl (g.2.2.1 4, ln i, .inr (.inl M.2.1)) := by unfold cellOf; rw [if_neg (by omega), if_neg (by omega), if_neg (by omega), if_neg (by omega), if_neg (by omega), if_pos h]
theorem cell_13 (g : GG) (M : Mem) {i : Nat} (h : kd i = 13) : cellOf g M i = .inl (g.2.2.1 5, ln i, .inr (.inr (.inr (.inl M.2.2)))) := by unfold cellOf; rw [if_neg (by omega), if_neg (by omega), if_neg (by omega), if_neg (by omega), if_neg (by omega), if_neg (by omega), if_pos h]
theorem kd12 {i j : Nat} (h1 : kd i = 12) (h2 : kd j = 12) : i = j := by
  have e : ∀ k, kd k = 12 → k = 1592 := by
    intro k h
    unfold kd at h
    by_cases q : k = 1592
    · exact q
    · exfalso
      have s1 : ∀ o, sKd o ≠ 12 := by intro o; unfold sKd; repeat' split
                                      all_goals omega
      have a1 := s1 ((k - 1) % 140)
      have a2 := s1 ((k - 283) % 140)
      by_cases c0 : k = 0
      · rw [if_pos c0] at h; omega
      rw [if_neg c0] at h
      by_cases c1 : k < 281
      · rw [if_pos c1] at h; omega
      rw [if_neg c1] at h
      by_cases c2 : k = 281
      · rw [if_pos c2] at h; omega
      rw [if_neg c2] at h
      by_cases c3 : k = 282
      · rw [if_pos c3] at h; omega
      rw [if_neg c3] at h
      by_cases c4 : k < 1543
      · rw [if_pos c4] at h; omega
      rw [if_neg c4] at h
      by_cases c5 : k = 1543
      · rw [if_pos c5] at h; omega
      rw [if_neg c5] at h
      by_cases c6 : k = 1544
      · rw [if_pos c6] at h; omega
      rw [if_neg c6] at h
      by_cases c7 : k = 1545
      · rw [if_pos c7] at h; omega
      rw [if_neg c7] at h
      by_cases c8 : k = 1546
      · rw [if_pos c8] at h; omega
      rw [if_neg c8] at h
      by_cases c9 : k = 1547
      · rw [if_pos c9] at h; omega
      rw [if_neg c9] at h
      by_cases c10 : k < 1551
      · rw [if_pos c10] at h; omega
      rw [if_neg c10] at h
      by_cases c11 : k = 1551
      · rw [if_pos c11] at h; omega
      rw [if_neg c11] at h
      by_cases c12 : k = 1552
      · rw [if_pos c12] at h; omega
      rw [if_neg c12] at h
      by_cases c13 : k = 1553
      · rw [if_pos c13] at h; omega
      rw [if_neg c13] at h
      by_cases c14 : k = 1554
      · rw [if_pos c14] at h; omega
      rw [if_neg c14] at h
      by_cases c15 : k < 1582
      · rw [if_pos c15] at h; omega
      rw [if_neg c15] at h
      by_cases c16 : k = 1582
      · rw [if_pos c16] at h; omega
      rw [if_neg c16] at h
      by_cases c17 : k < 1592
      · rw [if_pos c17] at h; omega
      rw [if_neg c17] at h
      by_cases c18 : k = 1592
      · rw [if_pos c18] at h; omega
      rw [if_neg c18] at h
      by_cases c19 : k = 1593
      · rw [if_pos c19] at h; omega
      rw [if_neg c19] at h
      omega
  rw [e i h1, e j h2]
theorem kd13 {i j : Nat} (h1 : kd i = 13) (h2 : kd j = 13) : i = j := by
  have e : ∀ k, kd k = 13 → k = 1593 := by
    intro k h
    unfold kd at h
    by_cases q : k = 1593
    · exact q
    · exfalso
      have s1 : ∀ o, sKd o ≠ 13 := by intro o; unfold sKd; repeat' split
                                      all_goals omega
      have a1 := s1 ((k - 1) % 140)
      have a2 := s1 ((k - 283) % 140)
      by_cases c0 : k = 0
      · rw [if_pos c0] at h; omega
      rw [if_neg c0] at h
      by_cases c1 : k < 281
      · rw [if_pos c1] at h; omega
      rw [if_neg c1] at h
      by_cases c2 : k = 281
      · rw [if_pos c2] at h; omega
      rw [if_neg c2] at h
      by_cases c3 : k = 282
      · rw [if_pos c3] at h; omega
      rw [if_neg c3] at h
      by_cases c4 : k < 1543
      · rw [if_pos c4] at h; omega
      rw [if_neg c4] at h
      by_cases c5 : k = 1543
      · rw [if_pos c5] at h; omega
      rw [if_neg c5] at h
      by_cases c6 : k = 1544
      · rw [if_pos c6] at h; omega
      rw [if_neg c6] at h
      by_cases c7 : k = 1545
      · rw [if_pos c7] at h; omega
      rw [if_neg c7] at h
      by_cases c8 : k = 1546
      · rw [if_pos c8] at h; omega
      rw [if_neg c8] at h
      by_cases c9 : k = 1547
      · rw [if_pos c9] at h; omega
      rw [if_neg c9] at h
      by_cases c10 : k < 1551
      · rw [if_pos c10] at h; omega
      rw [if_neg c10] at h
      by_cases c11 : k = 1551
      · rw [if_pos c11] at h; omega
      rw [if_neg c11] at h
      by_cases c12 : k = 1552
      · rw [if_pos c12] at h; omega
      rw [if_neg c12] at h
      by_cases c13 : k = 1553
      · rw [if_pos c13] at h; omega
      rw [if_neg c13] at h
      by_cases c14 : k = 1554
      · rw [if_pos c14] at h; omega
      rw [if_neg c14] at h
      by_cases c15 : k < 1582
      · rw [if_pos c15] at h; omega
      rw [if_neg c15] at h
      by_cases c16 : k = 1582
      · rw [if_pos c16] at h; omega
      rw [if_neg c16] at h
      by_cases c17 : k < 1592
      · rw [if_pos c17] at h; omega
      rw [if_neg c17] at h
      by_cases c18 : k = 1592
      · rw [if_pos c18] at h; omega
      rw [if_neg c18] at h
      by_cases c19 : k = 1593
      · rw [if_pos c19] at h; omega
      rw [if_neg c19] at h
      omega
  rw [e i h1, e j h2]
theorem cell_k12 (g : GG) {M M' : Mem} {i : Nat} (h : M'.1 = M.1) (h2 : M'.2.2 = M.2.2) (hk : ¬ kd i = 12) : cellOf g M' i = cellOf g M i := by
  unfold cellOf fl
  rw [h, h2, if_neg hk, if_neg hk]
theorem cell_k13 (g : GG) {M M' : Mem} {i : Nat} (h : M'.1 = M.1) (h2 : M'.2.1 = M.2.1) (hk : ¬ kd i = 13) : cellOf g M' i = cellOf g M i := by
  unfold cellOf fl
  rw [h, h2, if_neg hk, if_neg hk]
