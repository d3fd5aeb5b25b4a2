theorem ab_Yk_succ {L i : Nat} (hL : 16 ≤ L ∧ L < 64) (hi : 16 ≤ i) : ab_Yk (ab_ord L + 1) i = (ab_Yk (ab_ord L) i || decide (i = L)) := by
  have hl : ab_ord L < 48 := by
    rcases (by omega : 48 ≤ L ∨ (32 ≤ L ∧ L < 48) ∨ L < 32) with a | a | a
    · rw [ab_ord48 a]; omega
    · rw [ab_ord32 a.1 a.2]; omega
    · rw [ab_ord16 hL.1 a]; omega
  unfold ab_Yk
  by_cases h : i < 64
  · by_cases e : i = L
    · subst e; simp
    · have : ¬ ab_ord i = ab_ord L := fun z => e (ab_ord_inj ⟨hi, h⟩ hL z)
      by_cases z : ab_ord i < ab_ord L
      · simp [z, e]; omega
      · simp [z, e]; omega
  · have : ab_ord i = i - 16 := ab_ord48 (by omega)
    have e : ¬ i = L := by omega
    have z : ¬ ab_ord i < ab_ord L := by omega
    have z2 : ¬ ab_ord i < ab_ord L + 1 := by omega
    simp [z, e, z2]
theorem ab_Q15 (S : ab_S) (Y : Nat → Bool) (i : Nat) : ab_Q S Y 15 i = if 16 ≤ i ∧ Y i = true ∧ ¬ ab_pick S i = -1 then ab_pick S i else S 15 i := by
  simp only [ab_Q]
  by_cases h : 16 ≤ i ∧ Y i = true ∧ ¬ ab_pick S i = -1
  · rw [if_pos ⟨trivial, h⟩, if_pos h]
  · rw [if_neg (fun z => h z.2), if_neg h]
theorem ab_Qo (S : ab_S) (Y : Nat → Bool) (f i : Nat) (h : ¬ f = 15) : ab_Q S Y f i = S f i := by
  simp only [ab_Q]; rw [if_neg (fun z => h z.1)]
theorem C_pick {S : ab_S} {σ : am_M} {b : Int} (h : ab_I S b) (W : ab_WN S σ) {n i : Nat} (hn : n < 8) (hi : i < lc_d n) (hC : ab_C (ab_Q S (ab_Yk (ab_bs n + i))) σ) :
    ab_C (ab_Q S (ab_Yk (ab_bs n + i + 1))) (lk_pick σ (lc_out n i) n (lc_d n) (i : Int)) ∧ lk_pick σ (lc_out n i) n (lc_d n) (i : Int) 11 (lc_out n i) 6 = ab_pick S (lc_out n i) ∧ ∀ k x j : Nat, ¬ (k = 11 ∧ x = lc_out n i ∧ (j = 5 ∨ j = 6)) → lk_pick σ (lc_out n i) n (lc_d n) (i : Int) k x j = σ k x j := by
  have ho := ab_ord_out hn hi
  have h4 := hC.2.2.2.1 (lc_out n i) ho.2.2
  have hf := pk_find h W hn hi (by rw [h4.2.1, ab_Qo _ _ _ _ (by omega)]) (by
    rw [h4.2.2.2, ab_Q15, if_neg]
    rintro ⟨-, z, -⟩
    simp only [ab_Yk, decide_eq_true_eq] at z
    omega)
  have hsucc : ∀ x, 16 ≤ x → ab_Yk (ab_bs n + i + 1) x = (ab_Yk (ab_bs n + i) x || decide (x = lc_out n i)) := fun x hx => by
    rw [← ho.1]
    exact ab_Yk_succ ho.2 hx
  generalize lc_out n i = L at ho h4 hf hsucc ⊢
  unfold lk_pick
  rw [hf]
  by_cases hp : ab_pick S L = -1
  · rw [if_pos hp]
    simp only
    refine ⟨?_, by rw [am_up_app, if_pos ⟨rfl, rfl, rfl⟩, hp], fun k x j z => by rw [am_up_app, if_neg (by omega)]⟩
    refine C_tmp (C_ext (fun g x => ?_) hC) (fun k x j z => by rw [am_up_app, if_neg (by omega)])
    by_cases hg : g = 15
    · subst hg
      rw [ab_Q15, ab_Q15]
      by_cases h16 : 16 ≤ x
      · rw [hsucc x h16]
        by_cases e : x = L
        · subst e; simp [hp]
        · simp [e]
      · rw [if_neg (by omega), if_neg (by omega)]
    · rw [ab_Qo _ _ _ _ hg, ab_Qo _ _ _ _ hg]
  · rw [if_neg hp]
    simp only
    have hpn : (((ab_pick S L).toNat : Nat) : Int) = ab_pick S L := by
      refine Int.toNat_of_nonneg ?_
      unfold ab_pick at hp ⊢
      split
      · rename_i q
        rw [if_pos q] at hp
        split
        · rename_i r
          rw [r] at hp
          exact absurd rfl hp
        · omega
      · rename_i q
        rw [if_neg q] at hp
        exact absurd rfl hp
    rw [hpn]
    refine ⟨?_, by rw [am_up_app, if_pos ⟨rfl, rfl, rfl⟩], fun k x j z => by rw [am_up_app, if_neg (by omega), am_up_app, if_neg (by omega), am_up_app, if_neg (by omega)]⟩
    have c1 : ab_C (ab_Q S (ab_Yk (ab_bs n + i))) (am_up σ 11 L 6 (-1)) := C_tmp hC (fun k x j z => by rw [am_up_app, if_neg (by omega)])
    have c2 := C_lastQ c1 (L := L) (ab_pick S L)
    refine C_tmp (C_ext (fun g x => ?_) c2) (fun k x j z => by rw [am_up_app, if_neg (by omega)])
    rw [ab_u_app]
    by_cases hg : g = 15
    · subst hg
      rw [ab_Q15, ab_Q15]
      by_cases e : x = L
      · subst e
        rw [if_pos ⟨rfl, rfl⟩, if_pos ⟨ho.2.1, by rw [hsucc x ho.2.1]; simp, hp⟩]
      · rw [if_neg (by omega)]
        by_cases h16 : 16 ≤ x
        · rw [hsucc x h16]; simp [e]
        · rw [if_neg (by omega), if_neg (by omega)]
    · rw [ab_Qo _ _ _ _ hg, if_neg (by omega), ab_Qo _ _ _ _ hg]
