/-! the invariant under the steps of a tick -/
theorem am_sum_cg {f g : Nat → Int} : ∀ {n : Nat}, (∀ d, d < n → f d = g d) → am_sum f n = am_sum g n
  | 0, _ => rfl
  | n + 1, h => by rw [am_sum, am_sum, am_sum_cg (fun d hd => h d (by omega)), h n (by omega)]
theorem am_sum_up {f g : Nat → Int} {x : Int} {d0 : Nat} : ∀ {n : Nat}, d0 < n → (∀ d, d < n → g d = if d = d0 then f d + x else f d) → am_sum g n = am_sum f n + x
  | 0, h, _ => absurd h (Nat.not_lt_zero _)
  | n + 1, h, e => by
    rw [am_sum, am_sum, e n (by omega)]
    by_cases q : n = d0
    · rw [if_pos q, am_sum_cg (f := g) (g := f) (fun d hd => by rw [e d (by omega), if_neg (by omega)])]
      omega
    · rw [if_neg q, am_sum_up (x := x) (f := f) (show d0 < n by omega) (fun d hd => e d (by omega))]
      omega
theorem ab_rs_cg {S T : ab_S} (hc : T 19 3 = S 19 3) {L : Nat} (h : ∀ t, T 24 (64 * t + L) = S 24 (64 * t + L)) : ab_rs T L = ab_rs S L := by
  simp only [ab_rs, hc]
  exact am_sum_cg (fun d _ => h _)
theorem ab_rs_pos {S : ab_S} {L : Nat} (h : ∀ t, 0 ≤ S 24 (64 * t + L)) : 0 ≤ ab_rs S L := by
  simp only [ab_rs, am_sum]
  have := h ((S 19 3).toNat + 0); have := h ((S 19 3).toNat + 1); have := h ((S 19 3).toNat + 2); have := h ((S 19 3).toNat + 3); have := h ((S 19 3).toNat + 4); have := h ((S 19 3).toNat + 5); have := h ((S 19 3).toNat + 6)
  omega
theorem ab_I.s4 {S : ab_S} {b : Int} (h : ab_I S b) {L : Nat} (hL : L < 64) : 0 ≤ S 14 L ∧ S 14 L ≤ 4 ∧ 0 ≤ S 13 L ∧ S 13 L ≤ 4 ∧ S 13 L + S 14 L ≤ 4 := by
  obtain ⟨a1, a2, a3, -⟩ := h.2.2.2.1 L hL
  have := ab_rs_pos (fun t => (h.2.2.2.2.1 L t hL).1)
  omega
theorem ab_far_cg {S T : ab_S} {f : Nat} (h0 : T 0 f = S 0 f) (h1 : T 1 f = S 1 f) : ab_far T f = ab_far S f := by simp only [ab_far, h0, h1]
theorem ab_If_cg {S T : ab_S} {b b' : Int} {f : Nat} (hb : b ≤ b') (h : ∀ j, j < 13 → T j f = S j f) (i : ab_If S b f) : ab_If T b' f := by
  unfold ab_If at i ⊢
  rw [ab_far_cg (h 0 (by omega)) (h 1 (by omega)), h 0 (by omega), h 1 (by omega), h 2 (by omega), h 3 (by omega), h 4 (by omega), h 5 (by omega), h 6 (by omega), h 7 (by omega), h 8 (by omega), h 9 (by omega), h 10 (by omega), h 11 (by omega), h 12 (by omega)]
  obtain ⟨i0, i1, i2, i3, i4, i5, i6, i7, i8, i9, i10, i11, i12, i13, i14⟩ := i
  exact ⟨i0, i1, i2, i3, by omega, by omega, by omega, by omega, by omega, i9, by omega, i11, i12, i13, i14⟩
/-- a queue's entry, where the fields that it speaks of are the same at a place of the new state -/
theorem ab_Iq_cg {S T : ab_S} {b b' : Int} {L j j' : Nat} (hb : b ≤ b') (hn : T 19 4 = S 19 4) (h0 : ∀ f : Nat, (f : Int) < S 19 4 → T 0 f = S 0 f ∧ T 1 f = S 1 f)
    (hx : ∀ x, x < 4 → T (20 + x) (4 * L + j') = S (20 + x) (4 * L + j)) (i : ab_Iq S b L j) : ab_Iq T b' L j' := by
  unfold ab_Iq at i ⊢
  obtain ⟨i0, i1, i2, i3, i4, i5, i6⟩ := i
  have x0 := hx 0 (by omega)
  have x1 := hx 1 (by omega)
  have x2 := hx 2 (by omega)
  have x3 := hx 3 (by omega)
  simp only [Nat.add_zero, Nat.reduceAdd] at x0 x1 x2 x3
  obtain ⟨e0, e1⟩ := h0 (S 20 (4 * L + j)).toNat (by omega)
  rw [x0, x1, x2, x3, hn, ab_far_cg e0 e1, e0, e1]
  exact ⟨i0, by omega, by omega, i3, i4, i5, i6⟩
theorem ab_I_mono {S : ab_S} {b b' : Int} (hb : b ≤ b') (hb' : b' ≤ 100000000) (h : ab_I S b) : ab_I S b' := by
  obtain ⟨h1, h2, h3, h4, h5, h6, h7, h8⟩ := h
  refine ⟨by omega, h2, fun f hf => ab_If_cg hb (fun _ _ => rfl) (h3 f hf), h4, h5, fun k hk => ?_, h7, fun L j hL hj => ab_Iq_cg hb rfl (fun _ _ => ⟨rfl, rfl⟩) (fun _ _ => rfl) (h8 L j hL hj)⟩
  have := h6 k hk
  omega
theorem ab_T_lt {S : ab_S} {b : Int} (h : ab_I S b) : (S 19 3).toNat < ab_T S ∧ ab_T S < (S 19 3).toNat + 7 := by
  have := h.2.1.1
  unfold ab_T
  omega
theorem ab_drop14 (S : ab_S) (L i : Nat) : ab_drop S L 14 i = if i = L then S 14 L - 1 else S 14 i := by simp [ab_drop]
theorem ab_drop24 (S : ab_S) (L i : Nat) : ab_drop S L 24 i = if i = 64 * ab_T S + L then S 24 i + 1 else S 24 i := by
  simp only [ab_drop]
  rw [if_neg (by omega), if_neg (by omega)]
  by_cases q : i = 64 * ab_T S + L
  · rw [if_pos ⟨trivial, q⟩, if_pos q, q]
  · rw [if_neg (fun z => q z.2), if_neg q]
theorem ab_drop_o (S : ab_S) (L g i : Nat) (q : ¬ (g = 14 ∨ (20 ≤ g ∧ g ≤ 24))) : ab_drop S L g i = S g i := by
  simp only [ab_drop]; rw [if_neg (by omega), if_neg (by omega), if_neg (by omega)]
theorem ab_dropq (S : ab_S) (L i x : Nat) (hx : x < 4) : ab_drop S L (20 + x) i = if i / 4 = L ∧ i % 4 < 3 then S (20 + x) (i + 1) else S (20 + x) i := by
  simp only [ab_drop]
  rw [if_neg (by omega)]
  by_cases q : i / 4 = L ∧ i % 4 < 3
  · rw [if_pos ⟨by omega, by omega, q.1, q.2⟩, if_pos q]
  · rw [if_neg (by omega), if_neg q, if_neg (by omega)]
theorem I_drop {S : ab_S} {b : Int} (h : ab_I S b) {L : Nat} (hL : L < 64) (hn : 0 < S 14 L) : ab_I (ab_drop S L) b := by
  have hT := ab_T_lt h
  have h0 := h
  obtain ⟨h1, h2, h3, h4, h5, h6, h7, h8⟩ := h
  have eo := ab_drop_o S L
  refine ⟨h1, ?_, ?_, ?_, ?_, ?_, ?_, ?_⟩
  · simp only [eo 19 _ (by omega)]; exact h2
  · intro f hf; rw [eo 19 _ (by omega)] at hf
    exact ab_If_cg (Int.le_refl _) (fun j hj => eo j _ (by omega)) (h3 f hf)
  · intro L' hL'
    obtain ⟨a1, a2, a3, a4⟩ := h4 L' hL'
    rw [eo 13 _ (by omega), eo 15 _ (by omega), ab_drop14]
    by_cases q : L' = L
    · subst q
      rw [if_pos rfl]
      have : ab_rs (ab_drop S L') L' = ab_rs S L' + 1 := by
        simp only [ab_rs, eo 19 _ (by omega)]
        refine am_sum_up (d0 := ab_T S - (S 19 3).toNat) (by omega) (fun d hd => ?_)
        rw [ab_drop24]
        by_cases q : d = ab_T S - (S 19 3).toNat
        · rw [if_pos q, if_pos (by omega)]
        · rw [if_neg q, if_neg (by omega)]
      rw [this]
      refine ⟨a1, by omega, by omega, a4⟩
    · rw [if_neg q, ab_rs_cg (S := S) (eo 19 _ (by omega)) (fun t => by rw [ab_drop24, if_neg (by omega)])]
      exact ⟨a1, a2, a3, a4⟩
  · intro L' t hL'
    obtain ⟨a1, a2⟩ := h5 L' t hL'
    rw [ab_drop24, eo 19 _ (by omega)]
    split
    · refine ⟨by omega, fun z => ?_⟩
      exfalso; omega
    · exact ⟨a1, a2⟩
  · intro k hk; rw [eo 16 _ (by omega), eo 17 _ (by omega)]; exact h6 k hk
  · intro q hq; rw [eo 18 _ (by omega)]; exact h7 q hq
  · intro L' j hL' hj
    have := h0.s4 hL'
    rw [ab_drop14] at hj
    by_cases q : L' = L
    · subst q
      rw [if_pos rfl] at hj
      refine ab_Iq_cg (S := S) (j := j + 1) (Int.le_refl _) (eo 19 _ (by omega)) (fun f _ => ⟨eo 0 _ (by omega), eo 1 _ (by omega)⟩) (fun x hx => ?_) (h8 L' (j + 1) hL' (by omega))
      rw [ab_dropq _ _ _ _ hx, if_pos (by omega)]
      rfl
    · rw [if_neg q] at hj
      refine ab_Iq_cg (S := S) (j := j) (Int.le_refl _) (eo 19 _ (by omega)) (fun f _ => ⟨eo 0 _ (by omega), eo 1 _ (by omega)⟩) (fun x hx => ?_) (h8 L' j hL' hj)
      rw [ab_dropq _ _ _ _ hx, if_neg (by omega)]
/-- fields that no queue and no link speaks of -/
theorem I_flow {S T : ab_S} {b b' : Int} (h : ab_I S b) (hb : b ≤ b') (hb' : b' ≤ 100000000) (e : ∀ g i, 13 ≤ g → ¬ g = 16 → T g i = S g i) (e0 : ∀ f : Nat, (f : Int) < S 19 4 → T 0 f = S 0 f ∧ T 1 f = S 1 f) (h6 : ∀ k : Nat, k < 16 → -b' ≤ T 16 k ∧ T 16 k ≤ b') (h3 : ∀ f : Nat, (f : Int) < S 19 4 → ab_If T b' f) : ab_I T b' := by
  obtain ⟨h1, h2, -, h4, h5, h6', h7, h8⟩ := h
  refine ⟨by omega, ?_, ?_, ?_, ?_, ?_, ?_, ?_⟩
  · simp only [e 19 _ (by omega) (by omega)]; exact h2
  · intro f hf; rw [e 19 _ (by omega) (by omega)] at hf; exact h3 f hf
  · intro L hL
    rw [e 13 _ (by omega) (by omega), e 14 _ (by omega) (by omega), e 15 _ (by omega) (by omega), ab_rs_cg (S := S) (e 19 _ (by omega) (by omega)) (fun t => e 24 _ (by omega) (by omega))]
    exact h4 L hL
  · intro L t hL; rw [e 24 _ (by omega) (by omega), e 19 _ (by omega) (by omega)]; exact h5 L t hL
  · intro k hk
    rw [e 17 _ (by omega) (by omega)]
    exact ⟨h6 k hk, (h6' k hk).2⟩
  · intro q hq; rw [e 18 _ (by omega) (by omega)]; exact h7 q hq
  · intro L j hL hj
    rw [e 14 _ (by omega) (by omega)] at hj
    exact ab_Iq_cg (S := S) (j := j) hb (e 19 _ (by omega) (by omega)) e0 (fun x hx => e _ _ (by omega) (by omega)) (h8 L j hL hj)
theorem ab_got_o (S : ab_S) (f : Nat) (x : Int) (g i : Nat) (q : ¬ ((g = 5 ∨ g = 7 ∨ g = 8 ∨ g = 9) ∧ i = f)) : ab_got S f x g i = S g i := by
  simp only [ab_got]; rw [if_neg (by omega), if_neg (by omega), if_neg (by omega), if_neg (by omega)]
theorem ab_got5 (S : ab_S) (f : Nat) (x : Int) : ab_got S f x 5 f = S 5 f + 1 := by simp [ab_got]
theorem ab_got7 (S : ab_S) (f : Nat) (x : Int) : ab_got S f x 7 f = S 7 f + (if x < S 8 f then 1 else 0) := by simp [ab_got]
theorem ab_got8 (S : ab_S) (f : Nat) (x : Int) : ab_got S f x 8 f = (if x < S 8 f then S 8 f else x) := by simp [ab_got]
theorem ab_got9 (S : ab_S) (f : Nat) (x : Int) : ab_got S f x 9 f = (if S 5 f + 1 = S 2 f then S 19 3 else S 9 f) := by simp [ab_got]
theorem I_got {S : ab_S} {b : Int} (h : ab_I S b) {f h' : Nat} {x : Int} (hb : b + 1 ≤ 100000000) (hf : (f : Int) < S 19 4) (hx : 0 ≤ x ∧ x ≤ b) : ab_I (ab_u (ab_got S f x) 16 h' (S 16 h' - 1)) (b + 1) := by
  have hc := h.2.1.2.2.2.1
  refine I_flow h (by omega) hb (fun g i hg hn => ?_) (fun f' hf' => ?_) (fun k hk => ?_) (fun f' hf' => ?_)
  · rw [ab_u_app, if_neg (by omega), ab_got_o _ _ _ _ _ (by omega)]
  · rw [ab_u_app, ab_u_app, if_neg (by omega), if_neg (by omega), ab_got_o _ _ _ _ _ (by omega), ab_got_o _ _ _ _ _ (by omega)]; exact ⟨rfl, rfl⟩
  · have := (h.2.2.2.2.2.1 k hk).1
    rw [ab_u_app]
    split
    · rename_i z
      obtain ⟨-, rfl⟩ := z
      omega
    · rw [ab_got_o _ _ _ _ _ (by omega)]; omega
  · have e : ∀ g, g < 13 → ab_u (ab_got S f x) 16 h' (S 16 h' - 1) g f' = ab_got S f x g f' := fun g hg => by rw [ab_u_app, if_neg (by omega)]
    refine ab_If_cg (S := ab_got S f x) (Int.le_refl _) e ?_
    by_cases q : f' = f
    · subst q
      have i := h.2.2.1 f' hf'
      unfold ab_If at i ⊢
      rw [ab_far_cg (S := S) (ab_got_o _ _ _ _ _ (by omega)) (ab_got_o _ _ _ _ _ (by omega)), ab_got5, ab_got7, ab_got8, ab_got9, ab_got_o _ _ _ 0 _ (by omega), ab_got_o _ _ _ 1 _ (by omega), ab_got_o _ _ _ 2 _ (by omega), ab_got_o _ _ _ 3 _ (by omega), ab_got_o _ _ _ 4 _ (by omega), ab_got_o _ _ _ 6 _ (by omega), ab_got_o _ _ _ 10 _ (by omega), ab_got_o _ _ _ 11 _ (by omega), ab_got_o _ _ _ 12 _ (by omega)]
      obtain ⟨i0, i1, i2, i3, i4, i5, i6, i7, i8, i9, i10, i11, i12, i13, i14⟩ := i
      refine ⟨i0, i1, i2, i3, by omega, by omega, by omega, ?_, ?_, ?_, by omega, i11, i12, i13, i14⟩
      · split <;> omega
      · split <;> omega
      · split <;> omega
    · exact ab_If_cg (by omega) (fun j hj => ab_got_o _ _ _ _ _ (by omega)) (h.2.2.1 f' hf')
theorem I_dlv {S : ab_S} {b : Int} (h : ab_I S b) {k : Nat} (hk : k < 16) (hb : b + 1 ≤ 100000000) : ab_I (ab_dlv S k) (b + 1) := by
  unfold ab_dlv
  split
  · rename_i hn
    have i := h.2.2.2.2.2.2.2 (16 + k) 0 (by omega) (by simpa using hn)
    obtain ⟨i0, i1, -⟩ := i
    simp only [Nat.add_zero] at i0 i1
    refine I_drop (I_got h hb (by unfold ab_fl; omega) i1) (by omega) ?_
    rw [ab_u_app, if_neg (by omega), ab_got_o _ _ _ _ _ (by omega)]
    exact hn
  · exact ab_I_mono (by omega) hb h
theorem I_dlvN {S : ab_S} {b : Int} (h : ab_I S b) (hb : b + 16 ≤ 100000000) : ∀ k : Nat, k ≤ 16 → ab_I (ab_dlvN S k) (b + k)
  | 0, _ => by simpa [ab_dlvN] using h
  | k + 1, hk => by
    have := I_dlv (I_dlvN h hb k (by omega)) (k := k) (by omega) (by omega)
    rw [ab_dlvN, show b + ((k + 1 : Nat) : Int) = b + (k : Int) + 1 by omega]
    exact this
