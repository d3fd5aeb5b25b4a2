/-! where the component's cells come to lie, counted from the heap's size; how far its references are set -/
def cA (g : am_g) (z : Nat) : Prop := g.2.2 0 0 < z ∧ (∀ k, 1 ≤ k → k ≤ 8 → g.2.2 k 0 = z + k - 1) ∧ (∀ i, i < 24 → g.2.2 9 i = z + 8 + i) ∧
  (∀ h, h < 16 → g.2.2 10 h = z + 32 + 15 * h ∧ lk_A g h (z + 32 + 15 * h + 1) ∧ lk_A g (16 + h) (z + 32 + 15 * h + 8)) ∧
  (∀ i, i < 16 → lk_A g (32 + i) (z + 272 + 14 * i) ∧ lk_A g (48 + i) (z + 272 + 14 * i + 7)) ∧ (∀ n, n < 8 → nd_A g n (z + 496 + 4 * n))
theorem ck_le {G : am_G} {p : Program} {l : Launch} {e : Env} {R : Room} {s : State} {m : MethodId} {args : Array Value} {below : List Frame} {meth : Method} {c : Code} {cells slots : Nat} {Q : State → Prop} {A : Nat → Prop} {H0 : Heap} {nL pc : Nat} {lv lw : List (Option am_V)} {st : List am_V} {σ : Nat × am_M}
    (h : am_lz lw lv) (k : ck G p l e R s m args below meth c cells slots Q A H0 nL pc lw st σ) : ck G p l e R s m args below meth c cells slots Q A H0 nL pc lv st σ := fun H locs ls hW hS hL => k H locs ls hW hS (am_ll_of G (am_lz_get lw lv h) hL)
theorem cA_lt {g : am_g} {z : Nat} (hA : cA g z) : ∀ k i, i < lc_n k → g.2.2 k i < z + 528 := by
  obtain ⟨h0, h1, h9, h10, h32, h15⟩ := hA
  have hL : ∀ L, L < 64 → ∃ a, a + 7 ≤ z + 528 ∧ lk_A g L a := by
    intro L hL
    by_cases q1 : L < 16
    · exact ⟨_, by omega, (h10 L q1).2.1⟩
    · by_cases q2 : L < 32
      · have := (h10 (L - 16) (by omega)).2.2
        rw [show 16 + (L - 16) = L by omega] at this
        exact ⟨_, by omega, this⟩
      · by_cases q3 : L < 48
        · have := (h32 (L - 32) (by omega)).1
          rw [show 32 + (L - 32) = L by omega] at this
          exact ⟨_, by omega, this⟩
        · have := (h32 (L - 48) (by omega)).2
          rw [show 48 + (L - 48) = L by omega] at this
          exact ⟨_, by omega, this⟩
  intro k i hi
  match k, hi with
  | 0, hi => have : i = 0 := Nat.lt_one_iff.mp hi; subst this; omega
  | 1, hi => have : i = 0 := Nat.lt_one_iff.mp hi; subst this; rw [h1 1 (by omega) (by omega)]; omega
  | 2, hi => have : i = 0 := Nat.lt_one_iff.mp hi; subst this; rw [h1 2 (by omega) (by omega)]; omega
  | 3, hi => have : i = 0 := Nat.lt_one_iff.mp hi; subst this; rw [h1 3 (by omega) (by omega)]; omega
  | 4, hi => have : i = 0 := Nat.lt_one_iff.mp hi; subst this; rw [h1 4 (by omega) (by omega)]; omega
  | 5, hi => have : i = 0 := Nat.lt_one_iff.mp hi; subst this; rw [h1 5 (by omega) (by omega)]; omega
  | 6, hi => have : i = 0 := Nat.lt_one_iff.mp hi; subst this; rw [h1 6 (by omega) (by omega)]; omega
  | 7, hi => have : i = 0 := Nat.lt_one_iff.mp hi; subst this; rw [h1 7 (by omega) (by omega)]; omega
  | 8, hi => have : i = 0 := Nat.lt_one_iff.mp hi; subst this; rw [h1 8 (by omega) (by omega)]; omega
  | 9, hi => have h : i < 24 := hi; rw [h9 i h]; omega
  | 10, hi => have h : i < 16 := hi; rw [(h10 i h).1]; omega
  | 11, hi => obtain ⟨a, q, r⟩ := hL i hi; rw [r.1]; omega
  | 12, hi => obtain ⟨a, q, r⟩ := hL i hi; rw [r.2.1]; omega
  | 13, hi => obtain ⟨a, q, r⟩ := hL i hi; rw [r.2.2.1]; omega
  | 14, hi =>
    have h : i < 256 := hi
    obtain ⟨a, q, r⟩ := hL (i / 4) (by omega)
    have h2 := r.2.2.2 (i % 4) (by omega)
    rw [show 4 * (i / 4) + i % 4 = i by omega] at h2
    omega
  | 15, hi => have h : i < 8 := hi; rw [(h15 i h).1]; omega
  | 16, hi => have h : i < 8 := hi; rw [(h15 i h).2.1]; omega
  | 17, hi => have h : i < 8 := hi; rw [(h15 i h).2.2.1]; omega
  | 18, hi => have h : i < 8 := hi; rw [(h15 i h).2.2.2]; omega
  | k + 19, hi => exact absurd hi (Nat.not_lt_zero _)
theorem cS_full {g : am_g} {z : Nat} {σ : am_M} {H : Heap} (hA : cA g z) (hs : ∀ k x j, cS 24 16 16 4 4 k x j → σ k x j ≠ 0) (hW : cw (gC g) (z + 528, σ) H) : am_wd (gC g) σ H := by
  refine hW.full (fun k i hi => cA_lt hA k i hi) (fun k i hi => ?_)
  have hi2 : i < lc_n k := hi
  have hd := lc_dle i
  show match lc_s k i with
      | .inl q => ∀ j r, q.2[j]? = some (some r) → σ k i j ≠ 0
      | .inr (.inl _) => True
      | .inr (.inr q) => ∀ j, j < q.2.1 → σ k i j ≠ 0
  match k, hi2 with
  | 0, hi2 =>
    have h0 : i = 0 := Nat.lt_one_iff.mp hi2
    intro j r hj
    have hj8 : j < 8 := by
      match j, hj with
      | 0, _ => decide
      | 1, _ => decide
      | 2, _ => decide
      | 3, _ => decide
      | 4, _ => decide
      | 5, _ => decide
      | 6, _ => decide
      | 7, _ => decide
      | 8, hj => cases hj
      | 9, hj => cases hj
      | 10, hj => cases hj
      | 11, hj => cases hj
      | 12, hj => cases hj
      | n + 13, hj => cases hj
    exact hs 0 i j (by simp only [cS]; subst h0; simp <;> omega)
  | 1, hi2 => have h0 : i = 0 := Nat.lt_one_iff.mp hi2; intro j hj; have hj2 : j < 24 := hj; exact hs 1 i j (by simp only [cS]; simp <;> omega)
  | 2, hi2 => have h0 : i = 0 := Nat.lt_one_iff.mp hi2; intro j hj; have hj2 : j < 16 := hj; exact hs 2 i j (by simp only [cS]; simp <;> omega)
  | 3, hi2 => have h0 : i = 0 := Nat.lt_one_iff.mp hi2; intro j hj; have hj2 : j < 64 := hj; exact hs 3 i j (by simp only [cS]; simp <;> omega)
  | 4, hi2 => have h0 : i = 0 := Nat.lt_one_iff.mp hi2; intro j hj; have hj2 : j < 16 := hj; exact hs 4 i j (by simp only [cS]; simp <;> omega)
  | 5, hi2 => have h0 : i = 0 := Nat.lt_one_iff.mp hi2; intro j hj; have hj2 : j < 16 := hj; exact hs 5 i j (by simp only [cS]; simp <;> omega)
  | 6, hi2 => have h0 : i = 0 := Nat.lt_one_iff.mp hi2; intro j hj; have hj2 : j < 4 := hj; exact hs 6 i j (by simp only [cS]; simp <;> omega)
  | 7, hi2 => have h0 : i = 0 := Nat.lt_one_iff.mp hi2; intro j hj; have hj2 : j < 4 := hj; exact hs 7 i j (by simp only [cS]; simp <;> omega)
  | 8, hi2 => exact True.intro
  | 9, hi2 =>
    intro j r hj
    exfalso
    match j, hj with
    | 0, hj => cases hj
    | 1, hj => cases hj
    | 2, hj => cases hj
    | 3, hj => cases hj
    | 4, hj => cases hj
    | 5, hj => cases hj
    | 6, hj => cases hj
    | 7, hj => cases hj
    | 8, hj => cases hj
    | 9, hj => cases hj
    | 10, hj => cases hj
    | 11, hj => cases hj
    | 12, hj => cases hj
    | n + 13, hj => cases hj
  | 10, hi2 =>
    have h0 : i < 16 := hi2
    intro j r hj
    match j, hj with
    | 0, hj => exact hs 10 i 0 (by simp only [cS]; simp <;> omega)
    | 1, hj => exact hs 10 i 1 (by simp only [cS]; simp <;> omega)
    | 2, hj => cases hj
    | 3, hj => cases hj
    | n + 4, hj => cases hj
  | 11, hi2 =>
    have h0 : i < 64 := hi2
    intro j r hj
    match j, hj with
    | 0, hj => exact hs 11 i 0 (by simp only [cS]; simp <;> omega)
    | 1, hj => exact hs 11 i 1 (by simp only [cS]; simp <;> omega)
    | 2, hj => cases hj
    | 3, hj => cases hj
    | 4, hj => cases hj
    | 5, hj => cases hj
    | 6, hj => cases hj
    | n + 7, hj => cases hj
  | 12, hi2 => have h0 : i < 64 := hi2; intro j hj; have hj2 : j < 4 := hj; exact hs 12 i j (by simp only [cS]; simp <;> omega)
  | 13, hi2 => exact True.intro
  | 14, hi2 =>
    intro j r hj
    exfalso
    match j, hj with
    | 0, hj => cases hj
    | 1, hj => cases hj
    | 2, hj => cases hj
    | 3, hj => cases hj
    | n + 4, hj => cases hj
  | 15, hi2 =>
    have h0 : i < 8 := hi2
    intro j r hj
    match j, hj with
    | 0, hj => exact hs 15 i 0 (by simp only [cS]; simp <;> omega)
    | 1, hj => exact hs 15 i 1 (by simp only [cS]; simp <;> omega)
    | 2, hj => exact hs 15 i 2 (by simp only [cS]; simp <;> omega)
    | n + 3, hj => cases hj
  | 16, hi2 => have h0 : i < 8 := hi2; intro j hj; have hj2 : j < lc_d i := hj; unfold lc_d at hj2; exact hs 16 i j (by simp only [cS]; split at hj2 <;> simp <;> omega)
  | 17, hi2 => have h0 : i < 8 := hi2; intro j hj; have hj2 : j < lc_d i := hj; unfold lc_d at hj2; exact hs 17 i j (by simp only [cS]; split at hj2 <;> simp <;> omega)
  | 18, hi2 => exact True.intro
  | k + 19, hi2 => exact absurd hi2 (Nat.not_lt_zero _)
