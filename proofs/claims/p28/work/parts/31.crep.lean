/-! Fabricsim's representation under the single writes -/
theorem ab_mask_cg {S T : ab_S} (h : ∀ q, S 18 q = T 18 q) (a : Nat) : ab_mask S a = ab_mask T a := by simp only [ab_mask, h]
theorem ab_C_eq {S T : ab_S} {σ : am_M} (e : ab_eq S T) (h : ab_C S σ) : ab_C T σ := by
  obtain ⟨h1, h2, h3, h4, h5, h6, h7⟩ := h
  have e0 : ∀ f i : Nat, (f < 20 ∨ 23 < f) → T f i = S f i := fun f i q => (e.1 f i q).symm
  refine ⟨?_, ?_, ?_, ?_, ?_, ?_, ?_⟩
  · simp only [e0 19 _ (by omega)]; exact h1
  · intro f j hf hj; rw [e0 19 _ (by omega)] at hf; rw [e0 j _ (by omega)]; exact h2 f j hf hj
  · intro k hk; simp only [e0 16 _ (by omega), e0 17 _ (by omega)]; exact h3 k hk
  · intro L hL; simp only [e0 13 _ (by omega), e0 14 _ (by omega), e0 15 _ (by omega)]; exact h4 L hL
  · intro L j x hL hj hx
    rw [e0 14 _ (by omega)] at hj
    rw [← e.2 L j x hL hj hx]
    exact h5 L j x hL hj hx
  · intro L t hL ha hb
    rw [e0 19 _ (by omega)] at ha hb
    rw [e0 24 _ (by omega)]
    exact h6 L t hL ha hb
  · intro a ha
    rw [ab_mask_cg (S := T) (T := S) (fun q => e0 18 q (by omega))]
    exact h7 a ha
theorem C_fl {S : ab_S} {σ : am_M} (h : ab_C S σ) {f j : Nat} (hj : j < 13) (x : Int) : ab_C (ab_u S j f x) (am_up σ 9 f j x) := by
  obtain ⟨h1, h2, h3, h4, h5, h6, h7⟩ := h
  have e0 : ∀ g i : Nat, 13 ≤ g → ab_u S j f x g i = S g i := fun g i q => by rw [ab_u_app, if_neg (by omega)]
  have e1 : ∀ k i n : Nat, ¬ k = 9 → am_up σ 9 f j x k i n = σ k i n := fun k i n q => by rw [am_up_app, if_neg (by omega)]
  refine ⟨?_, ?_, ?_, ?_, ?_, ?_, ?_⟩
  · simp only [e0 19 _ (by omega), e1 0 _ _ (by omega)]; exact h1
  · intro f' j' hf hj'
    rw [e0 19 _ (by omega)] at hf
    rw [am_up_app, ab_u_app]
    by_cases q : f' = f ∧ j' = j
    · obtain ⟨rfl, rfl⟩ := q; simp
    · rw [if_neg (by omega), if_neg (by omega)]; exact h2 f' j' hf hj'
  · intro k hk; simp only [e0 16 _ (by omega), e0 17 _ (by omega), e1 10 _ _ (by omega)]; exact h3 k hk
  · intro L hL; simp only [e0 13 _ (by omega), e0 14 _ (by omega), e0 15 _ (by omega), e1 11 _ _ (by omega)]; exact h4 L hL
  · intro L j' x' hL hj' hx
    rw [e0 14 _ (by omega)] at hj'
    rw [e0 _ _ (by omega), e1 14 _ _ (by omega), e1 11 _ _ (by omega)]
    exact h5 L j' x' hL hj' hx
  · intro L t hL ha hb
    rw [e0 19 _ (by omega)] at ha hb
    rw [e0 24 _ (by omega), e1 13 _ _ (by omega)]
    exact h6 L t hL ha hb
  · intro a ha
    rw [ab_mask_cg (S := ab_u S j f x) (T := S) (fun q => e0 18 q (by omega)), e1 8 _ _ (by omega)]
    exact h7 a ha
/-- a write to a slot that the state has under a name of its own, for hosts (16, 17) -/
theorem C_host {S : ab_S} {σ : am_M} (h : ab_C S σ) {k j : Nat} (hj : j = 2 ∨ j = 3) (x : Int) : ab_C (ab_u S (14 + j) k x) (am_up σ 10 k j x) := by
  obtain ⟨h1, h2, h3, h4, h5, h6, h7⟩ := h
  have e0 : ∀ g i : Nat, ¬ (g = 16 ∨ g = 17) → ab_u S (14 + j) k x g i = S g i := fun g i q => by rw [ab_u_app, if_neg (by omega)]
  have e1 : ∀ k' i n : Nat, ¬ k' = 10 → am_up σ 10 k j x k' i n = σ k' i n := fun k' i n q => by rw [am_up_app, if_neg (by omega)]
  refine ⟨?_, ?_, ?_, ?_, ?_, ?_, ?_⟩
  · simp only [e0 19 _ (by omega), e1 0 _ _ (by omega)]; exact h1
  · intro f' j' hf hj'
    rw [e0 19 _ (by omega)] at hf
    rw [e0 j' _ (by omega), e1 9 _ _ (by omega)]
    exact h2 f' j' hf hj'
  · intro k' hk
    obtain ⟨a1, a2⟩ := h3 k' hk
    simp only [am_up_app, ab_u_app]
    rcases hj with rfl | rfl
    · by_cases q : k' = k
      · subst q; simp; exact a2
      · simp [q]; exact ⟨a1, a2⟩
    · by_cases q : k' = k
      · subst q; simp; exact a1
      · simp [q]; exact ⟨a1, a2⟩
  · intro L hL; simp only [e0 13 _ (by omega), e0 14 _ (by omega), e0 15 _ (by omega), e1 11 _ _ (by omega)]; exact h4 L hL
  · intro L j' x' hL hj' hx
    rw [e0 14 _ (by omega)] at hj'
    rw [e0 _ _ (by omega), e1 14 _ _ (by omega), e1 11 _ _ (by omega)]
    exact h5 L j' x' hL hj' hx
  · intro L t hL ha hb
    rw [e0 19 _ (by omega)] at ha hb
    rw [e0 24 _ (by omega), e1 13 _ _ (by omega)]
    exact h6 L t hL ha hb
  · intro a ha
    rw [ab_mask_cg (S := ab_u S (14 + j) k x) (T := S) (fun q => e0 18 q (by omega)), e1 8 _ _ (by omega)]
    exact h7 a ha
/-- what the state has no word for: what a link picked, what a node's queues want -/
theorem C_tmp {S : ab_S} {σ σ' : am_M} (h : ab_C S σ) (hs : ∀ k i j : Nat, ¬ (k = 18 ∨ (k = 11 ∧ j = 6)) → σ' k i j = σ k i j) : ab_C S σ' := by
  obtain ⟨h1, h2, h3, h4, h5, h6, h7⟩ := h
  refine ⟨?_, ?_, ?_, ?_, ?_, ?_, ?_⟩
  · rw [hs 0 0 8 (by omega), hs 0 0 9 (by omega), hs 0 0 10 (by omega), hs 0 0 11 (by omega), hs 0 0 12 (by omega)]; exact h1
  · intro f' j' hf hj'; rw [hs 9 _ _ (by omega)]; exact h2 f' j' hf hj'
  · intro k hk; rw [hs 10 k 2 (by omega), hs 10 k 3 (by omega)]; exact h3 k hk
  · intro L hL; rw [hs 11 L 3 (by omega), hs 11 L 4 (by omega), hs 11 L 2 (by omega), hs 11 L 5 (by omega)]; exact h4 L hL
  · intro L j' x' hL hj' hx; rw [hs 14 _ _ (by omega), hs 11 _ 2 (by omega)]; exact h5 L j' x' hL hj' hx
  · intro L t hL ha hb; rw [hs 13 _ _ (by omega)]; exact h6 L t hL ha hb
  · intro a ha; rw [hs 8 _ _ (by omega)]; exact h7 a ha
theorem C_lastQ {S : ab_S} {σ : am_M} (h : ab_C S σ) {L : Nat} (x : Int) : ab_C (ab_u S 15 L x) (am_up σ 11 L 5 x) := by
  obtain ⟨h1, h2, h3, h4, h5, h6, h7⟩ := h
  have e0 : ∀ g i : Nat, ¬ g = 15 → ab_u S 15 L x g i = S g i := fun g i q => by rw [ab_u_app, if_neg (by omega)]
  have e1 : ∀ k' i n : Nat, ¬ (k' = 11 ∧ n = 5) → am_up σ 11 L 5 x k' i n = σ k' i n := fun k' i n q => by rw [am_up_app, if_neg (by omega)]
  refine ⟨?_, ?_, ?_, ?_, ?_, ?_, ?_⟩
  · simp only [e0 19 _ (by omega), e1 0 _ _ (by omega)]; exact h1
  · intro f' j' hf hj'; rw [e0 19 _ (by omega)] at hf; rw [e0 j' _ (by omega), e1 9 _ _ (by omega)]; exact h2 f' j' hf hj'
  · intro k hk; simp only [e0 16 _ (by omega), e0 17 _ (by omega), e1 10 _ _ (by omega)]; exact h3 k hk
  · intro L' hL'
    obtain ⟨a1, a2, a3, a4⟩ := h4 L' hL'
    simp only [e0 13 _ (by omega), e0 14 _ (by omega), e1 11 _ 3 (by omega), e1 11 _ 4 (by omega), e1 11 _ 2 (by omega)]
    refine ⟨a1, a2, a3, ?_⟩
    rw [am_up_app, ab_u_app]
    by_cases q : L' = L
    · subst q; simp
    · simp [q]; exact a4
  · intro L' j' x' hL hj' hx
    rw [e0 14 _ (by omega)] at hj'
    rw [e0 _ _ (by omega), e1 14 _ _ (by omega), e1 11 _ 2 (by omega)]
    exact h5 L' j' x' hL hj' hx
  · intro L' t hL ha hb
    rw [e0 19 _ (by omega)] at ha hb
    rw [e0 24 _ (by omega), e1 13 _ _ (by omega)]
    exact h6 L' t hL ha hb
  · intro a ha
    rw [ab_mask_cg (S := ab_u S 15 L x) (T := S) (fun q => e0 18 q (by omega)), e1 8 _ _ (by omega)]
    exact h7 a ha
theorem C_spine {S : ab_S} {σ : am_M} (h : ab_C S σ) {L : Nat} (hL : L < 64) (hn : 0 < S 14 L) (h4n : ∀ L', L' < 64 → S 14 L' ≤ 4) (x : Int) : ab_C (ab_u S 23 (4 * L) x) (am_up σ 14 (4 * L + (σ 11 L 2).toNat) 3 x) := by
  obtain ⟨h1, h2, h3, h4, h5, h6, h7⟩ := h
  have e0 : ∀ g i : Nat, ¬ g = 23 → ab_u S 23 (4 * L) x g i = S g i := fun g i q => by rw [ab_u_app, if_neg (by omega)]
  have e1 : ∀ k' i n : Nat, ¬ k' = 14 → am_up σ 14 (4 * L + (σ 11 L 2).toNat) 3 x k' i n = σ k' i n := fun k' i n q => by rw [am_up_app, if_neg (by omega)]
  refine ⟨?_, ?_, ?_, ?_, ?_, ?_, ?_⟩
  · simp only [e0 19 _ (by omega), e1 0 _ _ (by omega)]; exact h1
  · intro f' j' hf hj'; rw [e0 19 _ (by omega)] at hf; rw [e0 j' _ (by omega), e1 9 _ _ (by omega)]; exact h2 f' j' hf hj'
  · intro k hk; simp only [e0 16 _ (by omega), e0 17 _ (by omega), e1 10 _ _ (by omega)]; exact h3 k hk
  · intro L' hL'; simp only [e0 13 _ (by omega), e0 14 _ (by omega), e0 15 _ (by omega), e1 11 _ _ (by omega)]; exact h4 L' hL'
  · intro L' j' x' hL' hj' hx
    rw [e0 14 _ (by omega)] at hj'
    have hr := (h4 L' hL').2.2.1
    have hrL := (h4 L hL).2.2.1
    have h44 := h4n L' hL'
    rw [am_up_app, ab_u_app, e1 11 _ 2 (by omega)]
    by_cases q : L' = L ∧ j' = 0 ∧ x' = 3
    · obtain ⟨rfl, rfl, rfl⟩ := q
      rw [if_pos (by omega), if_pos (by omega)]
    · rw [if_neg, if_neg (by omega)]
      · exact h5 L' j' x' hL' hj' hx
      · intro z
        apply q
        have : L' = L := by omega
        subst this
        refine ⟨rfl, ?_, z.2.2⟩
        have := z.2.1
        omega
  · intro L' t hL' ha hb
    rw [e0 19 _ (by omega)] at ha hb
    rw [e0 24 _ (by omega), e1 13 _ _ (by omega)]
    exact h6 L' t hL' ha hb
  · intro a ha
    rw [ab_mask_cg (S := ab_u S 23 (4 * L) x) (T := S) (fun q => e0 18 q (by omega)), e1 8 _ _ (by omega)]
    exact h7 a ha
theorem C_drop {S : ab_S} {σ : am_M} (h : ab_C S σ) {L sl : Nat} (hL : L < 64) (hn : 0 < S 14 L) (h4n : ∀ L', L' < 64 → S 14 L' ≤ 4) (hc : 0 ≤ S 19 3) (hd : 0 ≤ S 19 0 ∧ S 19 0 ≤ 5) (hsl : sl = ab_T S % 7) : ab_C (ab_drop S L) (lk_drop σ L sl) := by
  obtain ⟨h1, h2, h3, h4, h5, h6, h7⟩ := h
  have e0 : ∀ g i : Nat, ¬ (g = 14 ∨ (20 ≤ g ∧ g ≤ 23) ∨ g = 24) → ab_drop S L g i = S g i := fun g i q => by
    simp only [ab_drop]; rw [if_neg (by omega), if_neg (by omega), if_neg (by omega)]
  have e1 : ∀ k' i n : Nat, ¬ (k' = 11 ∧ (n = 2 ∨ n = 3) ∨ k' = 13) → lk_drop σ L sl k' i n = σ k' i n := fun k' i n q => by
    simp only [lk_drop, am_up_app]; rw [if_neg (by omega), if_neg (by omega), if_neg (by omega)]
  have e14 : ∀ i, ab_drop S L 14 i = if i = L then S 14 L - 1 else S 14 i := fun i => by simp [ab_drop]
  have x2 : ∀ i, lk_drop σ L sl 11 i 2 = if i = L then (σ 11 L 2 + 1) % 4 else σ 11 i 2 := fun i => by simp [lk_drop, am_up_app]
  have x3 : ∀ i, lk_drop σ L sl 11 i 3 = if i = L then σ 11 L 3 - 1 else σ 11 i 3 := fun i => by simp [lk_drop, am_up_app]
  have x13 : ∀ i n, lk_drop σ L sl 13 i n = if i = L ∧ n = sl then σ 13 L sl + 1 else σ 13 i n := fun i n => by simp [lk_drop, am_up_app]
  refine ⟨?_, ?_, ?_, ?_, ?_, ?_, ?_⟩
  · simp only [e0 19 _ (by omega), e1 0 _ _ (by omega)]; exact h1
  · intro f' j' hf hj'; rw [e0 19 _ (by omega)] at hf; rw [e0 j' _ (by omega), e1 9 _ _ (by omega)]; exact h2 f' j' hf hj'
  · intro k hk; simp only [e0 16 _ (by omega), e0 17 _ (by omega), e1 10 _ _ (by omega)]; exact h3 k hk
  · intro L' hL'
    obtain ⟨a1, a2, a3, a4⟩ := h4 L' hL'
    rw [x3, x2, e14, e1 11 _ 4 (by omega), e1 11 _ 5 (by omega), e0 13 _ (by omega), e0 15 _ (by omega)]
    by_cases q : L' = L
    · subst q; simp only [if_true]; exact ⟨by rw [a1], a2, by omega, a4⟩
    · simp only [if_neg q]; exact ⟨a1, a2, a3, a4⟩
  · intro L' j' x' hL' hj' hx
    have h44 := h4n L' hL'
    have hr := (h4 L' hL').2.2.1
    rw [e14] at hj'
    rw [x2, e1 14 _ _ (by omega)]
    by_cases q : L' = L
    · subst q
      rw [if_pos rfl] at hj' ⊢
      have hk := h5 L' (j' + 1) x' hL' (by omega) hx
      have ea : ((σ 11 L' 2 + 1) % 4 + (j' : Int)) % 4 = (σ 11 L' 2 + ((j' + 1 : Nat) : Int)) % 4 := by omega
      rw [ea, hk]
      simp only [ab_drop]
      rw [if_neg (by omega), if_pos (by omega)]
      rfl
    · rw [if_neg q] at hj' ⊢
      rw [h5 L' j' x' hL' hj' hx]
      simp only [ab_drop]
      rw [if_neg (by omega), if_neg (by omega), if_neg (by omega)]
  · intro L' t hL' ha hb
    rw [e0 19 _ (by omega)] at ha hb
    rw [x13]
    have hT : ab_T S = (S 19 3).toNat + 1 + (S 19 0).toNat := rfl
    have h6' := h6 L' t hL' ha hb
    have eD : ab_drop S L 24 (64 * t + L') = if L' = L ∧ t = ab_T S then S 24 (64 * t + L') + 1 else S 24 (64 * t + L') := by
      simp only [ab_drop]
      rw [if_neg (show ¬ (24 = 14 ∧ _) by omega), if_neg (show ¬ (20 ≤ 24 ∧ 24 ≤ 23 ∧ _) by omega)]
      by_cases q : L' = L ∧ t = ab_T S
      · rw [if_pos q, if_pos ⟨trivial, by omega⟩]
      · rw [if_neg q, if_neg (by omega)]
    rw [eD]
    by_cases q : L' = L ∧ t = ab_T S
    · obtain ⟨rfl, rfl⟩ := q
      rw [if_pos ⟨rfl, hsl.symm⟩, if_pos ⟨rfl, rfl⟩, hsl, h6']
    · rw [if_neg, if_neg q, h6']
      rintro ⟨rfl, z⟩
      apply q
      refine ⟨rfl, ?_⟩
      rw [hsl] at z
      omega
  · intro a ha
    rw [ab_mask_cg (S := ab_drop S L) (T := S) (fun q => e0 18 q (by omega)), e1 8 _ _ (by omega)]
    exact h7 a ha
theorem C_put {S : ab_S} {σ : am_M} (h : ab_C S σ) {L : Nat} (hL : L < 64) (hn : 0 ≤ S 14 L ∧ S 14 L < 4) (h4n : ∀ L', L' < 64 → S 14 L' ≤ 4) (a b c d : Int) : ab_C (ab_put (ab_u S 13 L (S 13 L - 1)) L a b c d) (lk_put σ L a b c d) := by
  obtain ⟨h1, h2, h3, h4, h5, h6, h7⟩ := h
  have e0 : ∀ g i : Nat, ¬ (g = 13 ∨ g = 14 ∨ (20 ≤ g ∧ g ≤ 23)) → ab_put (ab_u S 13 L (S 13 L - 1)) L a b c d g i = S g i := fun g i q => by
    simp only [ab_put, ab_u_app]
    rw [if_neg (by omega), if_neg (by omega), if_neg (by omega), if_neg (by omega), if_neg (by omega), if_neg (by omega)]
  have e13 : ∀ i, ab_put (ab_u S 13 L (S 13 L - 1)) L a b c d 13 i = if i = L then S 13 L - 1 else S 13 i := fun i => by simp [ab_put, ab_u_app]
  have e14 : ∀ i, ab_put (ab_u S 13 L (S 13 L - 1)) L a b c d 14 i = if i = L then S 14 L + 1 else S 14 i := fun i => by simp [ab_put, ab_u_app]
  have e1 : ∀ k' i n : Nat, ¬ (k' = 11 ∧ (n = 3 ∨ n = 4) ∨ k' = 14) → lk_put σ L a b c d k' i n = σ k' i n := fun k' i n q => by
    simp only [lk_put, am_up_app]; rw [if_neg (by omega), if_neg (by omega), if_neg (by omega), if_neg (by omega), if_neg (by omega), if_neg (by omega)]
  have x3 : ∀ i, lk_put σ L a b c d 11 i 3 = if i = L then σ 11 L 3 + 1 else σ 11 i 3 := fun i => by simp [lk_put, am_up_app]
  have x4 : ∀ i, lk_put σ L a b c d 11 i 4 = if i = L then σ 11 L 4 - 1 else σ 11 i 4 := fun i => by simp [lk_put, am_up_app]
  refine ⟨?_, ?_, ?_, ?_, ?_, ?_, ?_⟩
  · simp only [e0 19 _ (by omega), e1 0 _ _ (by omega)]; exact h1
  · intro f' j' hf hj'; rw [e0 19 _ (by omega)] at hf; rw [e0 j' _ (by omega), e1 9 _ _ (by omega)]; exact h2 f' j' hf hj'
  · intro k hk; simp only [e0 16 _ (by omega), e0 17 _ (by omega), e1 10 _ _ (by omega)]; exact h3 k hk
  · intro L' hL'
    obtain ⟨a1, a2, a3, a4⟩ := h4 L' hL'
    rw [x3, x4, e13, e14, e1 11 _ 2 (by omega), e1 11 _ 5 (by omega), e0 15 _ (by omega)]
    by_cases q : L' = L
    · subst q; simp only [if_true]; exact ⟨by rw [a1], by rw [a2], a3, a4⟩
    · simp only [if_neg q]; exact ⟨a1, a2, a3, a4⟩
  · intro L' j' x' hL' hj' hx
    have h44 := h4n L' hL'
    have hr := (h4 L' hL').2.2.1
    have hrL := (h4 L hL).2.2.1
    have hsz := (h4 L hL).1
    rw [e14] at hj'
    rw [e1 11 _ 2 (by omega)]
    by_cases q : L' = L ∧ (j' : Int) = S 14 L
    · obtain ⟨rfl, q2⟩ := q
      have ep : ((σ 11 L' 2 + (j' : Int)) % 4).toNat = ((σ 11 L' 2 + σ 11 L' 3) % 4).toNat := by rw [hsz, q2]
      have ej : j' = (S 14 L').toNat := by omega
      rw [ep]
      simp only [lk_put, am_up_app, ab_put, ab_u_app]
      match x', hx with
      | 0, _ => simp [ej]
      | 1, _ => simp [ej]
      | 2, _ => simp [ej]
      | 3, _ => simp [ej]
    · have hj2 : (j' : Int) < S 14 L' := by
        by_cases q3 : L' = L
        · subst q3; rw [if_pos rfl] at hj'; have : ¬ (j' : Int) = S 14 L' := fun z => q ⟨rfl, z⟩; omega
        · rw [if_neg q3] at hj'; exact hj'
      have h5' := h5 L' j' x' hL' hj2 hx
      have hne : ¬ (4 * L' + ((σ 11 L' 2 + (j' : Int)) % 4).toNat = 4 * L + ((σ 11 L 2 + σ 11 L 3) % 4).toNat) := by
        intro z
        have z1 : L' = L := by omega
        subst z1
        rw [hsz] at z
        omega
      have hne2 : ¬ (4 * L' + j' = 4 * L + (S 14 L).toNat) := by
        intro z
        have z1 : L' = L := by omega
        subst z1
        apply q
        exact ⟨rfl, by omega⟩
      simp only [lk_put, am_up_app, ab_put, ab_u_app, if_neg (show ¬ (14 = 11 ∧ L' = L ∧ x' = 3) by omega), hne, false_and, and_false, if_false, show ¬ (14 = 13) by decide]
      rw [if_neg (by omega), if_neg (by omega), if_neg (by omega), if_neg (by omega), if_neg (by omega), if_neg (by omega), if_neg (by omega), if_neg (by omega)]
      exact h5'
  · intro L' t hL' ha hb
    rw [e0 19 _ (by omega)] at ha hb
    rw [e0 24 _ (by omega), e1 13 _ _ (by omega)]
    exact h6 L' t hL' ha hb
  · intro a' ha
    rw [ab_mask_cg (S := ab_put (ab_u S 13 L (S 13 L - 1)) L a b c d) (T := S) (fun q => e0 18 q (by omega)), e1 8 _ _ (by omega)]
    exact h7 a' ha
theorem ab_back13 (S : ab_S) (k i : Nat) : ab_back S k 13 i = if i < k then S 13 i + S 24 (64 * (S 19 3).toNat + i) else S 13 i := by simp [ab_back]
theorem ab_back24 (S : ab_S) (k i : Nat) : ab_back S k 24 i = if i / 64 = (S 19 3).toNat ∧ i % 64 < k then 0 else S 24 i := by simp [ab_back]
theorem ab_back_o (S : ab_S) (n g i : Nat) (q : ¬ (g = 13 ∨ g = 24)) : ab_back S n g i = S g i := by
  simp only [ab_back]; rw [if_neg (by omega), if_neg (by omega)]
theorem C_back {S : ab_S} {σ : am_M} {k sl : Nat} (h : ab_C (ab_back S k) σ) (hk : k < 64) (hc : 0 ≤ S 19 3) (hsl : sl = (S 19 3).toNat % 7) : ab_C (ab_back S (k + 1)) (am_up (am_up σ 11 k 4 (σ 11 k 4 + σ 13 k sl)) 13 k sl 0) := by
  obtain ⟨h1, h2, h3, h4, h5, h6, h7⟩ := h
  have e0 := ab_back_o S
  have e1 : ∀ k' i n : Nat, ¬ (k' = 11 ∧ n = 4 ∨ k' = 13) → am_up (am_up σ 11 k 4 (σ 11 k 4 + σ 13 k sl)) 13 k sl 0 k' i n = σ k' i n := fun k' i n q => by
    simp only [am_up_app]; rw [if_neg (by omega), if_neg (by omega)]
  have x4 : ∀ i, am_up (am_up σ 11 k 4 (σ 11 k 4 + σ 13 k sl)) 13 k sl 0 11 i 4 = if i = k then σ 11 k 4 + σ 13 k sl else σ 11 i 4 := fun i => by simp [am_up_app]
  have x13 : ∀ i n, am_up (am_up σ 11 k 4 (σ 11 k 4 + σ 13 k sl)) 13 k sl 0 13 i n = if i = k ∧ n = sl then 0 else σ 13 i n := fun i n => by simp [am_up_app]
  have hsk : σ 13 k sl = S 24 (64 * (S 19 3).toNat + k) := by
    have := h6 k (S 19 3).toNat hk (by rw [e0 _ 19 _ (by omega)]; omega) (by rw [e0 _ 19 _ (by omega)]; omega)
    rw [hsl, this, ab_back24, if_neg (by omega)]
  refine ⟨?_, ?_, ?_, ?_, ?_, ?_, ?_⟩
  · rw [e0 _ 19 _ (by omega), e0 _ 19 _ (by omega), e0 _ 19 _ (by omega), e0 _ 19 _ (by omega), e0 _ 19 _ (by omega)] at h1 ⊢
    rw [e1 0 0 8 (by omega), e1 0 0 9 (by omega), e1 0 0 10 (by omega), e1 0 0 11 (by omega), e1 0 0 12 (by omega)]
    exact h1
  · intro f' j' hf hj'; rw [e0 _ 19 _ (by omega)] at hf; rw [e1 9 _ _ (by omega)]
    have := h2 f' j' (by rw [e0 _ 19 _ (by omega)]; exact hf) hj'
    rw [e0 _ j' _ (by omega)] at this ⊢
    exact this
  · intro i hi
    have := h3 i hi
    rw [e0 _ 16 _ (by omega), e0 _ 17 _ (by omega)] at this ⊢
    rw [e1 10 _ _ (by omega), e1 10 _ _ (by omega)]
    exact this
  · intro L' hL'
    obtain ⟨a1, a2, a3, a4⟩ := h4 L' hL'
    rw [e0 _ 14 _ (by omega)] at a1 ⊢
    rw [e0 _ 15 _ (by omega)] at a4 ⊢
    rw [e1 11 _ 3 (by omega), e1 11 _ 2 (by omega), e1 11 _ 5 (by omega)]
    refine ⟨a1, ?_, a3, a4⟩
    rw [ab_back13] at a2
    rw [x4, ab_back13]
    by_cases q : L' = k
    · subst q
      rw [if_neg (by omega)] at a2
      rw [if_pos rfl, if_pos (by omega), a2, hsk]
    · rw [if_neg q, a2]
      by_cases q2 : L' < k
      · rw [if_pos q2, if_pos (by omega)]
      · rw [if_neg q2, if_neg (by omega)]
  · intro L' j' x' hL' hj' hx
    rw [e0 _ 14 _ (by omega)] at hj'
    have := h5 L' j' x' hL' (by rw [e0 _ 14 _ (by omega)]; exact hj') hx
    rw [e0 _ _ _ (by omega)] at this ⊢
    rw [e1 14 _ _ (by omega), e1 11 _ 2 (by omega)]
    exact this
  · intro L' t hL' ha hb
    rw [e0 _ 19 _ (by omega)] at ha hb
    have h6' := h6 L' t hL' (by rw [e0 _ 19 _ (by omega)]; exact ha) (by rw [e0 _ 19 _ (by omega)]; exact hb)
    rw [ab_back24, show (64 * t + L') / 64 = t by omega, show (64 * t + L') % 64 = L' by omega] at h6'
    rw [x13, ab_back24, show (64 * t + L') / 64 = t by omega, show (64 * t + L') % 64 = L' by omega]
    by_cases q : L' = k ∧ t = (S 19 3).toNat
    · obtain ⟨rfl, rfl⟩ := q
      rw [if_pos ⟨rfl, hsl.symm⟩, if_pos ⟨rfl, by omega⟩]
    · rw [if_neg (show ¬ (L' = k ∧ t % 7 = sl) by
        rintro ⟨rfl, z⟩
        apply q
        refine ⟨rfl, ?_⟩
        rw [hsl] at z
        omega), h6']
      by_cases q2 : t = (S 19 3).toNat ∧ L' < k
      · rw [if_pos q2, if_pos (by omega)]
      · rw [if_neg q2, if_neg (by omega)]
  · intro a ha
    have := h7 a ha
    rw [ab_mask_cg (S := ab_back S k) (T := S) (fun q => e0 _ 18 q (by omega))] at this
    rw [ab_mask_cg (S := ab_back S (k + 1)) (T := S) (fun q => e0 _ 18 q (by omega)), e1 8 _ _ (by omega)]
    exact this
theorem C_tick {S : ab_S} {σ : am_M} (h : ab_C S σ) (hc : 0 ≤ S 19 3) (h0 : ∀ L, L < 64 → S 24 (64 * (S 19 3).toNat + L) = 0) (h7 : ∀ L, L < 64 → S 24 (64 * ((S 19 3).toNat + 7) + L) = 0) : ab_C (ab_u S 19 3 (S 19 3 + 1)) (am_up σ 0 0 9 (S 19 3 + 1)) := by
  obtain ⟨h1, h2, h3, h4, h5, h6, h8⟩ := h
  have e0 : ∀ g i : Nat, ¬ (g = 19 ∧ i = 3) → ab_u S 19 3 (S 19 3 + 1) g i = S g i := fun g i q => by rw [ab_u_app, if_neg q]
  have e1 : ∀ k' i n : Nat, ¬ k' = 0 → am_up σ 0 0 9 (S 19 3 + 1) k' i n = σ k' i n := fun k' i n q => by rw [am_up_app, if_neg (by omega)]
  have e3 : ab_u S 19 3 (S 19 3 + 1) 19 3 = S 19 3 + 1 := by simp [ab_u_app]
  refine ⟨?_, ?_, ?_, ?_, ?_, ?_, ?_⟩
  · rw [e0 19 4 (by omega), e3, e0 19 0 (by omega), e0 19 1 (by omega), e0 19 2 (by omega)]
    obtain ⟨a1, a2, a3, a4, a5⟩ := h1
    exact ⟨by simpa [am_up_app] using a1, by simp [am_up_app], by simpa [am_up_app] using a3, by simpa [am_up_app] using a4, by simpa [am_up_app] using a5⟩
  · intro f' j' hf hj'; rw [e0 19 4 (by omega)] at hf; rw [e0 j' _ (by omega), e1 9 _ _ (by omega)]; exact h2 f' j' hf hj'
  · intro k hk; simp only [e0 16 k (by omega), e0 17 k (by omega), e1 10 _ _ (by omega)]; exact h3 k hk
  · intro L' hL'; simp only [e0 13 L' (by omega), e0 14 L' (by omega), e0 15 L' (by omega), e1 11 _ _ (by omega)]; exact h4 L' hL'
  · intro L' j' x' hL hj' hx
    rw [e0 14 _ (by omega)] at hj'
    rw [e0 _ _ (by omega), e1 14 _ _ (by omega), e1 11 _ 2 (by omega)]
    exact h5 L' j' x' hL hj' hx
  · intro L' t hL ha hb
    rw [e3] at ha hb
    rw [e0 24 _ (by omega), e1 13 _ _ (by omega)]
    by_cases q : (t : Int) < S 19 3 + 7
    · exact h6 L' t hL (by omega) q
    · have et : t = (S 19 3).toNat + 7 := by omega
      have := h6 L' (S 19 3).toNat hL (by omega) (by omega)
      rw [et, h7 L' hL, show ((S 19 3).toNat + 7) % 7 = (S 19 3).toNat % 7 by omega, this, h0 L' hL]
  · intro a ha
    rw [ab_mask_cg (S := ab_u S 19 3 (S 19 3 + 1)) (T := S) (fun q => e0 18 q (by omega)), e1 8 _ _ (by omega)]
    exact h8 a ha
