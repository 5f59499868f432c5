section Mul2
variable {g : GG} {d : Nat} {y : Mth} {pc : Nat} {L L' : List (Option Value)} {st : List Value} {N : Nat} {ν : NU} {M : Mem} {kc ks : Nat} {Q : QC}
theorem mul_plain (c : ClassId) (n h0 : Nat) : ∀ i, (Multi.outerC c n h0 i).monitor = {} ∧ (Multi.outerC c n h0 i).hash = none
  | 0 => ⟨rfl, rfl⟩
  | i + 1 => mul_plain c n h0 i
theorem mul_outer {c : ClassId} {n h0 : Nat} : Multi.outerC c n h0 n = arrV c n (fun j => .ref (h0 + 1 + j)) := by
  obtain ⟨o1, o2, o3⟩ := Multi.outerC_facts c n h0 n
  obtain ⟨o4, o5⟩ := mul_plain c n h0 n
  have o6 := Multi.outerC_slot c n h0 n
  generalize Multi.outerC c n h0 n = C at o1 o2 o3 o4 o5 o6
  obtain ⟨a1, a2, a3, a4, a5⟩ := C
  dsimp only at o1 o2 o3 o4 o5 o6
  subst o1 o2 o4 o5
  unfold arrV
  congr 1
  refine Array.ext (by simp [o3]) (fun i h1 h2 => ?_)
  have := o6 i (by omega)
  rw [if_pos (by omega), Array.getElem?_eq_getElem h1] at this
  rw [Option.some.inj this]
  simp
theorem C_multi9 {own : String} {idx n w : Nat} {n0 w0 : Int32} (hy : y.1.cls = own) (hlink : Cond.classLink own idx "[[I" ∈ AW) (harr : Cond.arrayClass .int ∈ AW) (hk : kd N = 11) (hl : ln N = n) (hrf : ∀ k, rf N k = N + 1 + k) (hk2 : ∀ k, k < n → kd (N + 1 + k) = 9 ∧ ln (N + 1 + k) = w ∧ ∀ j, M.1 (N + 1 + k) j = 0) (h0 : ¬ n0 < 0) (hn : n0.toNatClampNeg = n) (h1 : ¬ w0 < 0) (hw : w0.toNatClampNeg = w) (hb : n ≤ 1000) (hb2 : w ≤ 1000) (hkc : 1 + n ≤ kc) (hks : n + n * w ≤ ks) (hd : decode y.2.1 pc = .ok (.multianewarray idx 2, 4)) (kk : WPc g d y (pc + 4) L (.ref (g.1 + N) :: st) (N + 1 + n) ν M (kc - (1 + n)) (ks - (n + n * w)) Q) : WPc g d y pc L (.int w0 :: .int n0 :: st) N ν M kc ks Q := fun p l e R s m args below meth c0 Z H locs ls cells slots mc ms S => by
  subst hn hw
  have hts := S.1.2.2.2.2.2.1
  have hK := S.1.2.2.2.2.2.2.2.2.2.1.2.1
  have hB := S.2.2.2.2.1
  have hz := S.2.1.2
  have hown : s.vm.findClass own = some m.cls := hy ▸ S.1.2.2.2.2.1
  obtain ⟨kA, hkA, hkindA, hnameA⟩ := S.2.2.2.2.2.2.1.2
  obtain ⟨comp', kC, cc, hcomp', hkC, hkindC⟩ := Cond.arrayClass_spec (hts _ harr)
  have ec : comp' = g.2.2.1 1 := Option.some.inj (hcomp'.symm.trans (hK.2 1 _ rfl).2)
  subst ec
  intro T hT X
  subst hT
  obtain ⟨vm₁, X1, step⟩ := mul_step (g := F0 m pc ls (.int w0 :: .int n0 :: st)) X S.1.1 hown (hts _ hlink) hnameA hkA hkindA hkC hkindC rfl (by rw [S.1.2.1]; exact hd) rfl h0 h1 (by omega) (by omega) (by omega) (by omega)
  have f1 := Multi.fill_facts (T.setVm vm₁) (g.2.2.1 3) (g.2.2.1 1) n0.toNatClampNeg w0.toNatClampNeg (defaultValue .int) n0.toNatClampNeg
  have f2 := fun q (hq : q < (T.setVm vm₁).heap.size) => Multi.fill_old (T.setVm vm₁) (g.2.2.1 3) (g.2.2.1 1) n0.toNatClampNeg w0.toNatClampNeg (defaultValue .int) hq n0.toNatClampNeg
  have f3 := Multi.fill_inner (T.setVm vm₁) (g.2.2.1 3) (g.2.2.1 1) n0.toNatClampNeg w0.toNatClampNeg (defaultValue .int) n0.toNatClampNeg
  generalize Multi.fill (T.setVm vm₁) (g.2.2.1 3) (g.2.2.1 1) n0.toNatClampNeg w0.toNatClampNeg (defaultValue .int) n0.toNatClampNeg = FT at X1 step f1 f2 f3
  have eT : (T.setVm vm₁).heap = T.heap := rfl
  rw [eT] at f1 f2 f3
  have up : ∀ N', va_P g.2.1 cls (plG (cellC g ν M) N' g) FT.heap → va_at g.2.1 cls (g.1 + N', cellC g ν M N') FT.heap → va_P g.2.1 cls (plG (cellC g ν M) (N' + 1) g) FT.heap := fun N' hP e => by
    rw [plG_push]
    refine hP.app (fun k x hx => ?_)
    have hz : k < 1 := (List.getElem?_eq_some_iff.mp hx).1
    rw [show k = 0 by omega] at hx
    cases hx
    exact e
  have p0 : va_P g.2.1 cls (plG (cellC g ν M) N g) FT.heap := S.2.1.1.kept (fun k x hx => f2 x.1 ((S.2.1.1 k x hx).lt))
  have p1 : va_P g.2.1 cls (plG (cellC g ν M) (N + 1) g) FT.heap := up N p0 (by
    rw [cellC_n g ν M (by omega) (by omega), cell_11 g M hk, hl]
    show FT.heap[g.1 + N]? = some (vp_cell _ _)
    rw [← hz, f1.2.1, vp_cell_q, mul_outer, hz]
    refine congrArg some (arrV_cg (fun j hj => ?_))
    rw [hrf j]
    show Value.ref (g.1 + N + 1 + j) = Value.ref (g.1 + (N + 1 + j))
    rw [show g.1 + N + 1 + j = g.1 + (N + 1 + j) by omega])
  have p2 : ∀ j, j ≤ n0.toNatClampNeg → va_P g.2.1 cls (plG (cellC g ν M) (N + 1 + j) g) FT.heap := by
    intro j
    induction j with
    | zero => exact fun _ => p1
    | succ j ih =>
      intro hj
      obtain ⟨k1, k2, k3⟩ := hk2 j hj
      refine up (N + 1 + j) (ih (by omega)) ?_
      rw [cellC_n g ν M (by omega) (by omega), cell_9 g M k1, k2]
      show FT.heap[g.1 + (N + 1 + j)]? = some (vp_cell _ _)
      rw [show g.1 + (N + 1 + j) = T.heap.size + 1 + j by omega, f3 j hj, vp_cell_i]
      refine congrArg some ?_
      rw [show Multi.innerC (g.2.2.1 1) w0.toNatClampNeg (defaultValue .int) = arrV (g.2.2.1 1) w0.toNatClampNeg (fun _ => .int 0) from arrV_new _ _ _]
      exact arrV_cg (fun q _ => by rw [k3 q])
  have hl9 : ∀ q ∈ (locs ++ (List.range n0.toNatClampNeg).map fun j => (⟨T.heap.size, j⟩ : Loc)), AG g q.base := by
    intro q hq
    rcases List.mem_append.mp hq with h | h
    · exact S.2.2.1.2.2 q h
    · obtain ⟨j, -, rfl⟩ := List.mem_map.mp h
      show g.1 ≤ T.heap.size
      omega
  obtain ⟨t, ht, hZ⟩ := kk p l e R s m args below meth c0 Z FT.heap _ ls (cells + 1 + n0.toNatClampNeg) (slots + n0.toNatClampNeg + n0.toNatClampNeg * w0.toNatClampNeg) mc ms ⟨S.1, ⟨p2 _ (Nat.le_refl _), by rw [f1.1, hz]; omega⟩, ⟨Nat.le_trans S.2.2.1.1 (by rw [f1.1]; omega), fun x g1 g2 => (f2 x (by have := S.2.2.1.1; omega)).trans (S.2.2.1.2.1 x g1 g2), hl9⟩, S.2.2.2.1, ⟨by omega, by omega, hB.2.2.1, hB.2.2.2⟩, S.2.2.2.2.2⟩ FT rfl X1
  refine ⟨t, step t ?_, hZ⟩
  rw [hz]
  exact ht
end Mul2
