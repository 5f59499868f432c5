/-! ===== ORDER: the first ones by a key, and places in an order ===== -/
theorem sm_add (f g : Nat → Nat) : ∀ n, sm (fun k => f k + g k) n = sm f n + sm g n
  | 0 => rfl
  | n + 1 => by unfold sm; rw [sm_add f g n]; omega
theorem sm_mono {f g : Nat → Nat} : ∀ {n : Nat}, (∀ k, k < n → f k ≤ g k) → sm f n ≤ sm g n
  | 0, _ => Nat.le_refl _
  | n + 1, h => by unfold sm; have := sm_mono (fun k hk => h k (by omega)) (n := n); have := h n (by omega); omega
theorem sm_z {f : Nat → Nat} : ∀ {n : Nat}, (∀ k, k < n → f k = 0) → sm f n = 0
  | 0, _ => rfl
  | n + 1, h => by unfold sm; rw [sm_z (fun k hk => h k (by omega)), h n (by omega)]
theorem sm_one {e : Nat} : ∀ {n : Nat}, e < n → sm (fun k => if k = e then 1 else 0) n = 1
  | 0, h => by omega
  | n + 1, h => by
    unfold sm
    by_cases q : n = e
    · subst q
      rw [sm_z (fun k hk => by rw [if_neg (by omega)]), if_pos rfl]
    · rw [sm_one (by omega), if_neg q]
theorem sm_c1 : ∀ n, sm (fun _ => 1) n = n
  | 0 => rfl
  | n + 1 => by unfold sm; rw [sm_c1 n]
theorem anyB_t {p : Nat → Bool} : ∀ {n : Nat}, (anyB p n = true) ↔ ∃ k, k < n ∧ p k = true
  | 0 => by simp [anyB]
  | n + 1 => by
    unfold anyB
    rw [Bool.or_eq_true, anyB_t (n := n)]
    constructor
    · rintro (⟨k, h1, h2⟩ | h)
      · exact ⟨k, by omega, h2⟩
      · exact ⟨n, by omega, h⟩
    · rintro ⟨k, h1, h2⟩
      by_cases q : k = n
      · subst q; exact Or.inr h2
      · exact Or.inl ⟨k, by omega, h2⟩
theorem anyB_f {p : Nat → Bool} {n : Nat} : (anyB p n = false) ↔ ∀ k, k < n → p k = false := by
  constructor
  · intro h k hk
    cases q : p k
    · rfl
    · exact absurd (anyB_t.mpr ⟨k, hk, q⟩) (by rw [h]; decide)
  · intro h
    cases q : anyB p n
    · rfl
    · obtain ⟨k, h1, h2⟩ := anyB_t.mp q
      rw [h k h1] at h2; cases h2
theorem fnd_s {p : Nat → Bool} {r : Nat} : ∀ {m k : Nat}, k ≤ r → r < k + m → p r = true → (∀ q, k ≤ q → q < r → p q = false) → fnd p m k = some r
  | 0, k, h1, h2, _, _ => by omega
  | m + 1, k, h1, h2, h3, h4 => by
    unfold fnd
    by_cases q : k = r
    · subst q; rw [if_pos h3]
    · rw [if_neg (by rw [h4 k (by omega) (by omega)]; decide)]
      exact fnd_s (by omega) (by omega) h3 (fun q h5 h6 => h4 q (by omega) h6)
theorem fnd_n {p : Nat → Bool} : ∀ {m k : Nat}, (∀ q, k ≤ q → q < k + m → p q = false) → fnd p m k = none
  | 0, _, _ => rfl
  | m + 1, k, h => by
    unfold fnd
    rw [if_neg (by rw [h k (by omega) (by omega)]; decide)]
    exact fnd_n (fun q h5 h6 => h q (by omega) (by omega))
theorem fnd_sp {p : Nat → Bool} {r : Nat} : ∀ {m k : Nat}, fnd p m k = some r → k ≤ r ∧ r < k + m ∧ p r = true ∧ ∀ q, k ≤ q → q < r → p q = false
  | 0, _, h => by cases h
  | m + 1, k, h => by
    unfold fnd at h
    by_cases c : p k = true
    · rw [if_pos c] at h
      cases h
      exact ⟨Nat.le_refl _, by omega, c, fun q h1 h2 => by omega⟩
    · rw [if_neg c] at h
      obtain ⟨h1, h2, h3, h4⟩ := fnd_sp h
      refine ⟨by omega, by omega, h3, fun q h5 h6 => ?_⟩
      by_cases e : q = k
      · subst e; simpa using c
      · exact h4 q (by omega) h6
theorem fnd_np {p : Nat → Bool} : ∀ {m k : Nat}, fnd p m k = none → ∀ q, k ≤ q → q < k + m → p q = false
  | 0, _, _, q, h1, h2 => by omega
  | m + 1, k, h, q, h1, h2 => by
    unfold fnd at h
    by_cases c : p k = true
    · rw [if_pos c] at h; cases h
    · rw [if_neg c] at h
      by_cases e : q = k
      · subst e; simpa using c
      · exact fnd_np h q (by omega) (by omega)
theorem exF_t {p : Nat → Bool} : ∀ {m k : Nat}, (exF p m k = true) ↔ ∃ q, k ≤ q ∧ q < k + m ∧ p q = true
  | 0, k => by
    simp only [exF]
    constructor
    · intro h; cases h
    · rintro ⟨q, h1, h2, -⟩; omega
  | m + 1, k => by
    unfold exF
    by_cases c : p k = true
    · rw [if_pos c]
      exact ⟨fun _ => ⟨k, Nat.le_refl _, by omega, c⟩, fun _ => rfl⟩
    · rw [if_neg c, exF_t (m := m)]
      constructor
      · rintro ⟨q, h1, h2, h3⟩; exact ⟨q, by omega, by omega, h3⟩
      · rintro ⟨q, h1, h2, h3⟩
        by_cases e : q = k
        · subst e; exact absurd h3 c
        · exact ⟨q, by omega, by omega, h3⟩
/-- the least one of p below n by a key -/
def am (key : Nat → Nat) (p : Nat → Bool) : Nat → Option Nat
  | 0 => none
  | n + 1 => match am key p n with
    | none => if p n = true then some n else none
    | some b => if p n = true ∧ key n < key b then some n else some b
theorem am_s {key : Nat → Nat} {p : Nat → Bool} : ∀ {n b : Nat}, am key p n = some b → b < n ∧ p b = true ∧ ∀ q, q < n → p q = true → key b ≤ key q
  | 0, b, h => by cases h
  | n + 1, b, h => by
    unfold am at h
    cases e : am key p n with
    | none =>
      rw [e] at h
      dsimp only at h
      have hn : ∀ q, q < n → p q = true → False := by
        intro q hq hp
        have : ∀ n, am key p n = none → ∀ q, q < n → p q = true → False := by
          intro n
          induction n with
          | zero => intro _ q hq; omega
          | succ n ih =>
            intro h q hq hp
            unfold am at h
            cases e2 : am key p n with
            | none =>
              rw [e2] at h
              dsimp only at h
              by_cases c : p n = true
              · rw [if_pos c] at h; cases h
              · by_cases q2 : q = n
                · subst q2; exact c hp
                · exact ih e2 q (by omega) hp
            | some b =>
              rw [e2] at h
              dsimp only at h
              split at h <;> cases h
        exact this n e q hq hp
      by_cases c : p n = true
      · rw [if_pos c] at h
        cases h
        exact ⟨by omega, c, fun q hq hp => by
          by_cases q2 : q = n
          · subst q2; exact Nat.le_refl _
          · exact (hn q (by omega) hp).elim⟩
      · rw [if_neg c] at h; cases h
    | some b0 =>
      rw [e] at h
      dsimp only at h
      obtain ⟨h1, h2, h3⟩ := am_s e
      by_cases c : p n = true ∧ key n < key b0
      · rw [if_pos c] at h
        cases h
        refine ⟨by omega, c.1, fun q hq hp => ?_⟩
        by_cases q2 : q = n
        · subst q2; exact Nat.le_refl _
        · have := h3 q (by omega) hp; omega
      · rw [if_neg c] at h
        cases h
        refine ⟨by omega, h2, fun q hq hp => ?_⟩
        by_cases q2 : q = n
        · subst q2
          have : ¬ key q < key b := fun z => c ⟨hp, z⟩
          omega
        · exact h3 q (by omega) hp
theorem am_n {key : Nat → Nat} {p : Nat → Bool} : ∀ {n : Nat}, am key p n = none → ∀ q, q < n → p q = false
  | 0, _, q, hq => by omega
  | n + 1, h, q, hq => by
    unfold am at h
    cases e : am key p n with
    | none =>
      rw [e] at h
      dsimp only at h
      by_cases c : p n = true
      · rw [if_pos c] at h; cases h
      · by_cases q2 : q = n
        · subst q2; simpa using c
        · exact am_n e q (by omega)
    | some b =>
      rw [e] at h
      dsimp only at h
      split at h <;> cases h
theorem am_ex {key : Nat → Nat} {p : Nat → Bool} {n q : Nat} (hq : q < n) (hp : p q = true) : ∃ b, am key p n = some b := by
  cases e : am key p n with
  | none => rw [am_n e q hq] at hp; cases hp
  | some b => exact ⟨b, rfl⟩
/-- the least one is known by what it is -/
theorem am_is {key : Nat → Nat} {p : Nat → Bool} {n b : Nat} (inj : ∀ x y, x < n → y < n → key x = key y → x = y) (h1 : b < n) (h2 : p b = true) (h3 : ∀ q, q < n → p q = true → key b ≤ key q) : am key p n = some b := by
  obtain ⟨c, hc⟩ := am_ex (key := key) h1 h2
  obtain ⟨g1, g2, g3⟩ := am_s hc
  have := g3 b h1 h2
  have := h3 c g1 g2
  rw [hc, inj c b g1 h1 (by omega)]
def rk (key : Nat → Nat) (n r : Nat) : Nat := sm (fun q => if key q < key r then 1 else 0) n
theorem rk_lt {key : Nat → Nat} {n x y : Nat} (hx : x < n) (h : key x < key y) : rk key n x < rk key n y := by
  have h1 := sm_mono (f := fun q => (if key q < key x then 1 else 0) + (if q = x then 1 else 0)) (g := fun q => if key q < key y then 1 else 0) (n := n) (fun k _ => by
    try dsimp only
    by_cases c : k = x
    · subst c; rw [if_neg (by omega), if_pos rfl, if_pos h]; omega
    · rw [if_neg c]
      by_cases c2 : key k < key x
      · rw [if_pos c2, if_pos (by omega)]; omega
      · rw [if_neg c2]; omega)
  rw [sm_add, sm_one hx] at h1
  unfold rk; omega
theorem rk_ex {key : Nat → Nat} {n : Nat} (inj : ∀ x y, x < n → y < n → key x = key y → x = y) : ∀ p, p < n → ∃ r, r < n ∧ rk key n r = p := by
  intro p
  induction p with
  | zero =>
    intro h
    obtain ⟨b, hb⟩ := am_ex (key := key) (p := fun _ => true) (n := n) h rfl
    obtain ⟨h1, -, h3⟩ := am_s hb
    refine ⟨b, h1, sm_z (fun k hk => ?_)⟩
    have := h3 k hk rfl
    show (if _ then 1 else 0) = 0
    rw [if_neg (by omega)]
  | succ p ih =>
    intro h
    obtain ⟨r, hr, hp⟩ := ih (by omega)
    by_cases ex : ∃ q, q < n ∧ key r < key q
    · obtain ⟨q, hq, hq2⟩ := ex
      obtain ⟨b, hb⟩ := am_ex (key := key) (p := fun q => decide (key r < key q)) (n := n) hq (by simpa using hq2)
      obtain ⟨h1, h2, h3⟩ := am_s hb
      have h2 : key r < key b := by simpa using h2
      refine ⟨b, h1, ?_⟩
      have e : rk key n b = sm (fun q => (if key q < key r then 1 else 0) + (if q = r then 1 else 0)) n := sm_cg (fun k hk => by
        try dsimp only
        by_cases c : k = r
        · subst c; rw [if_pos h2, if_neg (by omega), if_pos rfl]
        · rw [if_neg c]
          by_cases c2 : key k < key r
          · rw [if_pos c2, if_pos (by omega)]
          · rw [if_neg c2]
            by_cases c3 : key k < key b
            · exfalso
              have c4 : key r < key k := by
                have : key k ≠ key r := fun z => c (inj k r hk hr z)
                omega
              have := h3 k hk (by simpa using c4)
              omega
            · rw [if_neg c3])
      rw [e, sm_add, sm_one hr]
      unfold rk at hp; omega
    · exfalso
      have h1 := sm_mono (f := fun _ => 1) (g := fun q => (if key q < key r then 1 else 0) + (if q = r then 1 else 0)) (n := n) (fun k hk => by
        try dsimp only
        by_cases c : k = r
        · rw [if_pos c]; omega
        · rw [if_neg c]
          have : ¬ key r < key k := fun z => ex ⟨k, hk, z⟩
          have : key k ≠ key r := fun z => c (inj k r hk hr z)
          rw [if_pos (by omega)]; omega)
      rw [sm_c1, sm_add, sm_one hr] at h1
      unfold rk at hp; omega
theorem rk_inj {key : Nat → Nat} {n x y : Nat} (inj : ∀ x y, x < n → y < n → key x = key y → x = y) (hx : x < n) (hy : y < n) (h : rk key n x = rk key n y) : x = y := by
  by_cases c : key x < key y
  · have := rk_lt hx c; omega
  · by_cases c2 : key y < key x
    · have := rk_lt hy c2; omega
    · exact inj x y hx hy (by omega)
theorem rk_bd {key : Nat → Nat} {n x : Nat} (hx : x < n) : rk key n x < n := by
  have h1 := sm_mono (f := fun q => (if key q < key x then 1 else 0) + (if q = x then 1 else 0)) (g := fun _ => 1) (n := n) (fun k _ => by
    try dsimp only
    by_cases c : k = x
    · subst c; rw [if_neg (by omega), if_pos rfl]; omega
    · rw [if_neg c]; split <;> omega)
  rw [sm_c1, sm_add, sm_one hx] at h1
  unfold rk; omega

