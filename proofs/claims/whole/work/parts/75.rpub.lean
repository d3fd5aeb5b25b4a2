/-! the model: its beginning, added flows, sums -/
def rb0 (σ0 σ : am_M) : Prop := σ 20 0 3 = 0 ∧ σ 20 0 4 = 0 ∧ σ 20 0 0 = σ0 20 0 0 ∧ σ 20 0 1 = σ0 20 0 1 ∧ σ 20 0 2 = σ0 20 0 2 ∧ σ 20 0 35 = σ0 20 0 35
def rb1 (σ0 : am_M) (k : Nat) (σ : am_M) : Prop := rb0 σ0 σ ∧ ∀ L, L < k → σ 38 0 L = 4 ∧ σ 39 0 L = 0 ∧ σ 40 0 L = -1
def rb2 (σ0 : am_M) (k : Nat) (σ : am_M) : Prop := rb1 σ0 64 σ ∧ ∀ q, q < k → σ 42 0 q = 0
def rb3 (σ0 : am_M) (k : Nat) (σ : am_M) : Prop := rb2 σ0 512 σ ∧ ∀ h, h < k → σ 47 0 h = 0 ∧ σ 48 0 h = -1 ∧ σ 50 0 h = 0
theorem rb0_o {σ0 σ σ' : am_M} (h : rb0 σ0 σ) (o : ∀ j, σ' 20 0 j = σ 20 0 j) : rb0 σ0 σ' := by
  unfold rb0 at h ⊢
  rw [o, o, o, o, o, o]; exact h
theorem rb1_S {σ0 σ : am_M} {k : Nat} (h : rb1 σ0 k σ) : rb1 σ0 (k + 1) (am_up (am_up (am_up σ 38 0 k 4) 39 0 k 0) 40 0 k (-1)) := by
  refine ⟨rb0_o h.1 (fun j => by rw [am_up_app, if_neg (by omega), am_up_app, if_neg (by omega), am_up_app, if_neg (by omega)]), fun L hL => ?_⟩
  by_cases e : L = k
  · subst e; simp [am_up_app]
  · have := h.2 L (by omega)
    simp only [am_up_app, e, and_false, if_false]
    exact this
theorem rb2_S {σ0 σ : am_M} {k : Nat} (h : rb2 σ0 k σ) : rb2 σ0 (k + 1) (am_up σ 42 0 k 0) := by
  have o : ∀ k' j : Nat, ¬ k' = 42 → am_up σ 42 0 k 0 k' 0 j = σ k' 0 j := fun k' j z => by rw [am_up_app, if_neg (by omega)]
  refine ⟨⟨rb0_o h.1.1 (fun j => o _ _ (by omega)), fun L hL => by rw [o _ _ (by omega), o _ _ (by omega), o _ _ (by omega)]; exact h.1.2 L hL⟩, fun q hq => ?_⟩
  rw [am_up_app]
  by_cases e : q = k
  · rw [if_pos ⟨rfl, rfl, e⟩]
  · rw [if_neg (by omega)]; exact h.2 q (by omega)
theorem rb3_S {σ0 σ : am_M} {k : Nat} (h : rb3 σ0 k σ) : rb3 σ0 (k + 1) (am_up (am_up (am_up σ 47 0 k 0) 48 0 k (-1)) 50 0 k 0) := by
  have o : ∀ k' j : Nat, ¬ (k' = 47 ∨ k' = 48 ∨ k' = 50) → am_up (am_up (am_up σ 47 0 k 0) 48 0 k (-1)) 50 0 k 0 k' 0 j = σ k' 0 j := fun k' j z => by
    rw [am_up_app, if_neg (by omega), am_up_app, if_neg (by omega), am_up_app, if_neg (by omega)]
  refine ⟨⟨⟨rb0_o h.1.1.1 (fun j => o _ _ (by omega)), fun L hL => by rw [o _ _ (by omega), o _ _ (by omega), o _ _ (by omega)]; exact h.1.1.2 L hL⟩, fun q hq => by rw [o _ _ (by omega)]; exact h.1.2 q hq⟩, fun h' hh => ?_⟩
  by_cases e : h' = k
  · subst e; simp [am_up_app]
  · have := h.2 h' (by omega)
    simp only [am_up_app, e, and_false, if_false]
    exact this
theorem R_new0 {σ0 σ : am_M} (h : rb3 σ0 16 σ) (h35 : σ0 20 0 35 = 0) : ab_R (ab_new0 (σ0 20 0 0) (σ0 20 0 1) (σ0 20 0 2)) σ := by
  obtain ⟨⟨⟨h0, h1⟩, h2⟩, h3⟩ := h
  have v := new0_v (σ0 20 0 0) (σ0 20 0 1) (σ0 20 0 2)
  refine ⟨?_, ?_, ?_, ?_, ?_, ?_, ?_⟩
  · rw [(v 0).2.2.2.1, (v 0).2.2.2.2.1, (v 0).2.2.2.2.2.1, (v 0).2.2.2.2.2.2.1, (v 0).2.2.2.2.2.2.2]
    exact ⟨h0.2.1, h0.1, h0.2.2.1, h0.2.2.2.1, h0.2.2.2.2.1, by rw [h0.2.2.2.2.2, h35]; simp [ab_new0]⟩
  · intro f j hf; rw [(v 0).2.2.2.2.2.2.2] at hf; omega
  · intro k hk; rw [(v k).2.2.1, new0_o _ _ _ _ (by omega)]; exact ⟨(h3 k hk).2.2, (h3 k hk).2.1⟩
  · intro L hL
    have := h1 L hL
    rw [(v L).1, (v L).2.1, new0_o _ _ _ (f := 14) L (by omega)]
    exact ⟨this.2.1, this.1, this.2.2⟩
  · intro L j hL hj; rw [new0_o _ _ _ _ (by omega)] at hj; omega
  · intro L t hL _ _; rw [new0_o _ _ _ _ (by omega)]; exact h2 _ (by omega)
  · intro q hq; rw [new0_o _ _ _ _ (by omega)]; exact (h3 q hq).1
theorem R_add {S : ab_S} {σ σ' : am_M} (h : ab_R S σ) (hn : 0 ≤ S 19 4) {s t p l : Int} (hf : ∀ j, j < 13 → σ' (25 + j) 0 (S 19 4).toNat = ab_nf13 S s t p l j) (h8 : σ' 20 0 4 = S 19 4 + 1)
    (ho : ∀ k j : Nat, ¬ (25 ≤ k ∧ k ≤ 37 ∧ j = (S 19 4).toNat) → ¬ (k = 20 ∧ j = 4) → σ' k 0 j = σ k 0 j) : ab_R (ab_add S s t p l) σ' := by
  obtain ⟨h1, h2, h3, h4, h5, h6, h7⟩ := h
  have e : ∀ g i, 13 ≤ g → ¬ (g = 19 ∧ i = 4) → ab_add S s t p l g i = S g i := fun g i z z2 => add_o _ _ _ _ _ _ (by omega) z2
  refine ⟨?_, ?_, ?_, ?_, ?_, ?_, ?_⟩
  · rw [add_c, e 19 3 (by omega) (by omega), e 19 0 (by omega) (by omega), e 19 1 (by omega) (by omega), e 19 2 (by omega) (by omega), e 19 5 (by omega) (by omega), h8, ho 20 35 (by omega) (by omega), ho 20 3 (by omega) (by omega), ho 20 0 (by omega) (by omega), ho 20 1 (by omega) (by omega), ho 20 2 (by omega) (by omega)]
    exact ⟨rfl, h1.2⟩
  · intro f j hfl hj
    rw [add_c] at hfl
    by_cases q : f = (S 19 4).toNat
    · rw [add_n _ _ _ _ _ hj q, q]; exact hf j hj
    · rw [add_o _ _ _ _ _ _ (by omega) (by omega), ho (25 + j) f (by omega) (by omega)]; exact h2 f j (by omega) hj
  · intro k hk; rw [e 16 _ (by omega) (by omega), e 17 _ (by omega) (by omega), ho 50 _ (by omega) (by omega), ho 48 _ (by omega) (by omega)]; exact h3 k hk
  · intro L hL; rw [e 13 _ (by omega) (by omega), e 14 _ (by omega) (by omega), e 15 _ (by omega) (by omega), ho 39 _ (by omega) (by omega), ho 38 _ (by omega) (by omega), ho 40 _ (by omega) (by omega)]; exact h4 L hL
  · intro L j hL hj
    rw [e 14 _ (by omega) (by omega)] at hj
    rw [e 20 _ (by omega) (by omega), e 21 _ (by omega) (by omega), e 22 _ (by omega) (by omega), e 23 _ (by omega) (by omega), ho 43 _ (by omega) (by omega), ho 44 _ (by omega) (by omega), ho 45 _ (by omega) (by omega), ho 46 _ (by omega) (by omega)]; exact h5 L j hL hj
  · intro L t' hL ha hb
    rw [e 19 3 (by omega) (by omega)] at ha hb
    rw [e 24 _ (by omega) (by omega), ho 42 _ (by omega) (by omega)]; exact h6 L t' hL ha hb
  · intro q hq
    rw [e 18 _ (by omega) (by omega), ho 47 _ (by omega) (by omega)]; exact h7 q hq
theorem R_th {S : ab_S} {σ : am_M} (h : ab_R S σ) (x : Int) : ab_R (ab_u S 19 5 x) (am_up σ 20 0 35 x) := by
  obtain ⟨h1, h2, h3, h4, h5, h6, h7⟩ := h
  have e0 : ∀ g i : Nat, ¬ (g = 19 ∧ i = 5) → ab_u S 19 5 x g i = S g i := fun g i q => by rw [ab_u_app, if_neg q]
  have e1 : ∀ k j : Nat, ¬ (k = 20 ∧ j = 35) → am_up σ 20 0 35 x k 0 j = σ k 0 j := fun k j q => by rw [am_up_app, if_neg (by omega)]
  refine ⟨?_, ?_, ?_, ?_, ?_, ?_, ?_⟩
  · rw [e0 19 0 (by omega), e0 19 1 (by omega), e0 19 2 (by omega), e0 19 3 (by omega), e0 19 4 (by omega), e1 20 0 (by omega), e1 20 1 (by omega), e1 20 2 (by omega), e1 20 3 (by omega), e1 20 4 (by omega), am_up_app, if_pos ⟨rfl, rfl, rfl⟩, ab_u_app, if_pos ⟨rfl, rfl⟩]
    exact ⟨h1.1, h1.2.1, h1.2.2.1, h1.2.2.2.1, h1.2.2.2.2.1, rfl⟩
  · intro f j hf hj; rw [e0 19 _ (by omega)] at hf; rw [e0 j _ (by omega), e1 _ _ (by omega)]; exact h2 f j hf hj
  · intro k hk; rw [e0 16 _ (by omega), e0 17 _ (by omega), e1 50 _ (by omega), e1 48 _ (by omega)]; exact h3 k hk
  · intro L hL; rw [e0 13 _ (by omega), e0 14 _ (by omega), e0 15 _ (by omega), e1 39 _ (by omega), e1 38 _ (by omega), e1 40 _ (by omega)]; exact h4 L hL
  · intro L j hL hj
    rw [e0 14 _ (by omega)] at hj
    rw [e0 20 _ (by omega), e0 21 _ (by omega), e0 22 _ (by omega), e0 23 _ (by omega), e1 43 _ (by omega), e1 44 _ (by omega), e1 45 _ (by omega), e1 46 _ (by omega)]
    exact h5 L j hL hj
  · intro L t hL ha hb
    rw [e0 19 _ (by omega)] at ha hb
    rw [e0 24 _ (by omega), e1 42 _ (by omega)]
    exact h6 L t hL ha hb
  · intro q hq; rw [e0 18 _ (by omega), e1 47 _ (by omega)]; exact h7 q hq
theorem C_th {S : ab_S} {σ : am_M} (h : ab_C S σ) (x : Int) : ab_C (ab_u S 19 5 x) σ := by
  obtain ⟨h1, h2, h3, h4, h5, h6, h7⟩ := h
  have e0 : ∀ g i : Nat, ¬ (g = 19 ∧ i = 5) → ab_u S 19 5 x g i = S g i := fun g i q => by rw [ab_u_app, if_neg q]
  refine ⟨?_, ?_, ?_, ?_, ?_, ?_, ?_⟩
  · rw [e0 19 0 (by omega), e0 19 1 (by omega), e0 19 2 (by omega), e0 19 3 (by omega), e0 19 4 (by omega)]; exact h1
  · intro f j hf hj; rw [e0 19 _ (by omega)] at hf; rw [e0 j _ (by omega)]; exact h2 f j hf hj
  · intro k hk; rw [e0 16 _ (by omega), e0 17 _ (by omega)]; exact h3 k hk
  · intro L hL; rw [e0 13 _ (by omega), e0 14 _ (by omega), e0 15 _ (by omega)]; exact h4 L hL
  · intro L j y hL hj hy
    rw [e0 14 _ (by omega)] at hj
    rw [e0 _ _ (by omega)]; exact h5 L j y hL hj hy
  · intro L t hL ha hb
    rw [e0 19 _ (by omega)] at ha hb
    rw [e0 24 _ (by omega)]; exact h6 L t hL ha hb
  · intro a ha
    rw [ab_mask_cg (S := ab_u S 19 5 x) (T := S) (fun q => e0 18 q (by omega))]; exact h7 a ha
theorem I_th {S : ab_S} {b : Int} (h : ab_I S b) (x : Int) : ab_I (ab_u S 19 5 x) b := by
  obtain ⟨h1, h2, h3, h4, h5, h6, h7, h8⟩ := h
  have e : ∀ g i, ¬ (g = 19 ∧ i = 5) → ab_u S 19 5 x g i = S g i := fun g i z => by rw [ab_u_app, if_neg z]
  refine ⟨h1, ?_, ?_, ?_, ?_, ?_, ?_, ?_⟩
  · rw [e 19 0 (by omega), e 19 1 (by omega), e 19 2 (by omega), e 19 3 (by omega), e 19 4 (by omega)]; exact h2
  · intro f hf; rw [e 19 _ (by omega)] at hf; exact ab_If_cg (Int.le_refl _) (fun j hj => e j _ (by omega)) (h3 f hf)
  · intro L hL
    rw [e 13 _ (by omega), e 14 _ (by omega), e 15 _ (by omega), ab_rs_cg (S := S) (e 19 _ (by omega)) (fun t => e 24 _ (by omega))]
    exact h4 L hL
  · intro L t hL; rw [e 24 _ (by omega), e 19 _ (by omega)]; exact h5 L t hL
  · intro k hk; rw [e 16 _ (by omega), e 17 _ (by omega)]; exact h6 k hk
  · intro q hq; rw [e 18 _ (by omega)]; exact h7 q hq
  · intro L j hL hj
    rw [e 14 _ (by omega)] at hj
    exact ab_Iq_cg (S := S) (j := j) (Int.le_refl _) (e 19 _ (by omega)) (fun f _ => ⟨e 0 _ (by omega), e 1 _ (by omega)⟩) (fun x hx => e _ _ (by omega)) (h8 L j hL hj)
theorem J_th {S : ab_S} (h : ab_J S) (x : Int) : ab_J (ab_u S 19 5 x) := fun f hf => by
  rw [ab_u_app, if_neg (by omega)] at hf
  rw [ab_u_app, if_neg (by omega), ab_u_app, if_neg (by omega), ab_u_app, if_neg (by omega)]
  exact h f hf
theorem th_o (S : ab_S) (x : Int) {g i : Nat} (h : ¬ (g = 19 ∧ i = 5)) : ab_u S 19 5 x g i = S g i := by rw [ab_u_app, if_neg h]
theorem rot8 (g : Nat → Int) (c : Nat) : am_sum (fun d => g ((c + d) % 8)) 8 = am_sum g 8 := by
  simp only [am_sum]
  have h : c % 8 = 0 ∨ c % 8 = 1 ∨ c % 8 = 2 ∨ c % 8 = 3 ∨ c % 8 = 4 ∨ c % 8 = 5 ∨ c % 8 = 6 ∨ c % 8 = 7 := by omega
  have e : ∀ d x, (c % 8 + d) % 8 = x → (c + d) % 8 = x := fun d x z => by omega
  rcases h with h | h | h | h | h | h | h | h
  · rw [e 0 0 (by omega), e 1 1 (by omega), e 2 2 (by omega), e 3 3 (by omega), e 4 4 (by omega), e 5 5 (by omega), e 6 6 (by omega), e 7 7 (by omega)]
  · rw [e 0 1 (by omega), e 1 2 (by omega), e 2 3 (by omega), e 3 4 (by omega), e 4 5 (by omega), e 5 6 (by omega), e 6 7 (by omega), e 7 0 (by omega)]; omega
  · rw [e 0 2 (by omega), e 1 3 (by omega), e 2 4 (by omega), e 3 5 (by omega), e 4 6 (by omega), e 5 7 (by omega), e 6 0 (by omega), e 7 1 (by omega)]; omega
  · rw [e 0 3 (by omega), e 1 4 (by omega), e 2 5 (by omega), e 3 6 (by omega), e 4 7 (by omega), e 5 0 (by omega), e 6 1 (by omega), e 7 2 (by omega)]; omega
  · rw [e 0 4 (by omega), e 1 5 (by omega), e 2 6 (by omega), e 3 7 (by omega), e 4 0 (by omega), e 5 1 (by omega), e 6 2 (by omega), e 7 3 (by omega)]; omega
  · rw [e 0 5 (by omega), e 1 6 (by omega), e 2 7 (by omega), e 3 0 (by omega), e 4 1 (by omega), e 5 2 (by omega), e 6 3 (by omega), e 7 4 (by omega)]; omega
  · rw [e 0 6 (by omega), e 1 7 (by omega), e 2 0 (by omega), e 3 1 (by omega), e 4 2 (by omega), e 5 3 (by omega), e 6 4 (by omega), e 7 5 (by omega)]; omega
  · rw [e 0 7 (by omega), e 1 0 (by omega), e 2 1 (by omega), e 3 2 (by omega), e 4 3 (by omega), e 5 4 (by omega), e 6 5 (by omega), e 7 6 (by omega)]; omega
theorem sum8 (f : Nat → Int) : ∀ n : Nat, am_sum f (8 * n) = am_sum (fun L => am_sum (fun j => f (8 * L + j)) 8) n
  | 0 => rfl
  | n + 1 => by
    rw [am_sum, ← sum8 f n, show 8 * (n + 1) = 8 * n + 1 + 1 + 1 + 1 + 1 + 1 + 1 + 1 by omega]
    simp only [am_sum, Nat.add_assoc, Nat.reduceAdd, Nat.add_zero]
    omega
theorem R_ret {S : ab_S} {b : Int} {σ : am_M} (h : ab_R S σ) (hI : ab_I S b) : am_sum (σ 42 0) 512 = ab_ret S := by
  have hc := hI.2.1.2.2.2.1.1
  rw [show 512 = 8 * 64 by omega, sum8]
  unfold ab_ret
  refine am_sum_cg (fun L hL => ?_)
  rw [← rot8 (fun j => σ 42 0 (8 * L + j)) (S 19 3).toNat]
  rw [am_sum_cg (g := fun d => S 24 (64 * ((S 19 3).toNat + d) + L)) (fun d hd => h.2.2.2.2.2.1 L _ hL (by omega) (by omega))]
  rw [am_sum, (hI.2.2.2.2.1 L ((S 19 3).toNat + 7) hL).2 (by omega)]
  unfold ab_rs
  omega
/-! leastTicks, in the model's order -/
def ab_M1 (S : ab_S) (k : Nat) : Int := if k % 2 = 0 then ab_L1 S (k / 2) else ab_max (ab_L1 S (k / 2)) (ab_ts S 0 (k / 2) (ab_n S))
theorem M1_S (S : ab_S) (k : Nat) : ab_max (ab_M1 S k) (ab_ts S (k % 2) (k / 2) (ab_n S)) = ab_M1 S (k + 1) := by
  unfold ab_M1
  by_cases q : k % 2 = 0
  · rw [if_pos q, if_neg (by omega), q, show (k + 1) / 2 = k / 2 by omega]
  · rw [if_neg q, if_pos (by omega), show k % 2 = 1 by omega, show (k + 1) / 2 = k / 2 + 1 by omega, ab_L1]
    unfold ab_max
    (repeat' split) <;> omega
def ab_tk (m w : Int) : Int := if w = 0 then 0 else (m + w - 1) / w
def ab_M2 (S : ab_S) (k : Nat) : Int := if k % 2 = 0 then ab_L2 S (k / 2) else ab_max (ab_L2 S (k / 2)) (ab_tk (ab_ts S 2 (k / 2) (ab_n S)) (ab_many S (k / 2) (k / 2)))
def ab_N2 (S : ab_S) (k : Nat) : Bool := if k % 2 = 0 then ab_nn S (k / 2) else ab_nn S (k / 2) || (decide (0 < ab_ts S 2 (k / 2) (ab_n S)) && decide (ab_many S (k / 2) (k / 2) = 0))
theorem tk_max {o i w : Int} (ho : 0 ≤ o) (hi : 0 ≤ i) (hw : 0 < w ∧ w ≤ 4) : ab_max ((o + w - 1) / w) ((i + w - 1) / w) = (ab_max o i + w - 1) / w := by
  have h : w = 1 ∨ w = 2 ∨ w = 3 ∨ w = 4 := by omega
  unfold ab_max
  rcases h with rfl | rfl | rfl | rfl <;> ((repeat' split) <;> omega)
theorem max_as (x y z : Int) : ab_max (ab_max x y) z = ab_max x (ab_max y z) := by
  unfold ab_max
  (repeat' split) <;> omega
theorem M2_S {S : ab_S} {b : Int} (h : ab_I S b) (hJ : ab_J S) (hb : b ≤ 10000000) (k : Nat) : ab_max (ab_M2 S k) (ab_tk (ab_ts S (2 + k % 2) (k / 2) (ab_n S)) (ab_many S (k / 2) (k / 2))) = ab_M2 S (k + 1) := by
  have hw := ab_many_rng S (k / 2) (k / 2)
  have h2 := ts_R h hJ hb 2 (k / 2)
  have h3 := ts_R h hJ hb 3 (k / 2)
  have hl := L2_R h hJ hb (k / 2)
  unfold ab_M2
  by_cases q : k % 2 = 0
  · rw [if_pos q, if_neg (by omega), q, show (k + 1) / 2 = k / 2 by omega]
  · rw [if_neg q, if_pos (by omega), show k % 2 = 1 by omega, show (k + 1) / 2 = k / 2 + 1 by omega, ab_L2, max_as]
    unfold ab_tk
    by_cases w : ab_many S (k / 2) (k / 2) = 0
    · rw [if_pos w, if_pos w, if_neg (by omega)]
      unfold ab_max
      (repeat' split) <;> omega
    · rw [if_neg w, if_neg w, if_pos (by omega), tk_max h2.1 h3.1 (by omega)]
      rfl
theorem N2_S {S : ab_S} {b : Int} (h : ab_I S b) (hJ : ab_J S) (hb : b ≤ 10000000) (k : Nat) : (ab_N2 S k || (decide (0 < ab_ts S (2 + k % 2) (k / 2) (ab_n S)) && decide (ab_many S (k / 2) (k / 2) = 0))) = ab_N2 S (k + 1) := by
  unfold ab_N2
  by_cases q : k % 2 = 0
  · rw [if_pos q, if_neg (by omega), q, show (k + 1) / 2 = k / 2 by omega]
  · rw [if_neg q, if_pos (by omega), show k % 2 = 1 by omega, show (k + 1) / 2 = k / 2 + 1 by omega, ab_nn, Bool.or_assoc, show (2 + 1 : Nat) = 3 from rfl]
    congr 1
    by_cases w : ab_many S (k / 2) (k / 2) = 0
    · rw [decide_eq_true w, Bool.and_true, Bool.and_true, Bool.and_true]
      unfold ab_mo ab_max
      by_cases c2 : 0 < ab_ts S 2 (k / 2) (ab_n S)
      · rw [decide_eq_true c2, Bool.true_or]
        split
        · rw [decide_eq_true (by omega)]
        · rw [decide_eq_true (by omega)]
      · rw [decide_eq_false c2, Bool.false_or]
        split
        · rfl
        · rw [decide_eq_false (by omega), decide_eq_false (by omega)]
    · rw [decide_eq_false w, Bool.and_false, Bool.and_false, Bool.and_false]; rfl
section WKZ
variable {G : am_G} {p : Program} {l : Launch} {e : Env} {R : Room} {s : State} {m : MethodId} {args : Array Value} {below : List Frame} {meth : Method} {c : Code} {cells slots : Nat} {Q : State → Prop}
variable {A : Nat → Prop} {H0 : Heap} {nL pc : Nat} {lv : List (Option am_V)} {st : List am_V} {σ : am_M} {cc : ByteArray} {own : String} {Ts : List Cond}
theorem wk_zast (C : wk_C G p s m args c cc nL own Ts A) {k i n : Nat} {a x : Int} (hsh : G.2.2.2.2 k i = .inr (.inl (1, n))) (hi : i < G.2.2.2.1 k) (hn : n < 2147483648) (j : Nat) (ha : a = (j : Int)) (hj : j < n) (hx : x = 0 ∨ x = 1) (hdg : decode cc pc = .ok (.bastore, 1)) (kk : wk G p l e R s m args below meth c cells slots Q A H0 nL (pc + 1) lv st (am_up σ k i j x)) : wk G p l e R s m args below meth c cells slots Q A H0 nL pc lv (.inl x :: .inl a :: .inr (k, i) :: st) σ := by
  intro H locs ls hW hS hL
  subst ha
  have hnar : narrow .boolean (.int (Int32.ofInt x)) = .int (Int32.ofInt x) := by rcases hx with rfl | rfl <;> decide
  have hP := am_one hW hi (E := .inl (G.2.1 1, n, .inl (fun j => Int32.ofInt (σ k i j)))) (by rw [hsh]; rfl)
  refine W.zast C.1 C.2.1 (hP 0 _ rfl) ((C.2.2.2.2.2.1.1.2 1 _ rfl).1 n (fun j => .int (Int32.ofInt (σ k i j)))) (fun q => by cases q) (by show ¬ (_ < 0 ∨ (arrV _ _ _).slots.size ≤ _); rw [arrV_size]; exact am_in (x := (j : Int)) (n := n) (by omega) (by omega) hn) rfl rfl hdg fun H1 e z oq => ?_
  refine kk H1 _ ls (hW.put C.2.2.2.2.2.2.1 hi ?_ oq) (hS.put z oq (C.2.2.2.2.2.2.2 _ ⟨k, i, hi, rfl⟩)) hL
  rw [hsh]
  show H1[_]? = some (vp_cell _ _)
  rw [e, am_cl (by omega) (by omega), Int.toNat_natCast, hnar]
  show _ = some (vp_cell (G.2.1 1) (n, .inl (fun j' => Int32.ofInt (am_u1 (σ k i) j x j'))))
  rw [← am_updI, vp_cell_i, vp_cell_i, arrV_store]
  congr 2
  funext q
  by_cases hq : q = j
  · subst hq
    simp [updV, upd]
  · simp [updV, upd, hq]
end WKZ
