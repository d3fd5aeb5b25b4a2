/-! FabricsimModel's representation under the single writes -/
def rk_p (g k : Nat) : Prop := (g < 13 ∧ k = 25 + g) ∨ (g = 13 ∧ k = 38) ∨ (g = 15 ∧ k = 40) ∨ (g = 16 ∧ k = 50) ∨ (g = 17 ∧ k = 48) ∨ (g = 18 ∧ k = 47)
def rq (x : Nat) : Nat := if x = 2 then 46 else if x = 3 then 45 else 43 + x
theorem rq_rng (x : Nat) (hx : x < 4) : 43 ≤ rq x ∧ rq x ≤ 46 := by
  match x, hx with
  | 0, _ => decide
  | 1, _ => decide
  | 2, _ => decide
  | 3, _ => decide
theorem R5of {S : ab_S} {ρ : am_M} {L j : Nat} (h : ∀ x, x < 4 → ρ (rq x) 0 (4 * L + j) = S (20 + x) (4 * L + j)) : ρ 43 0 (4 * L + j) = S 20 (4 * L + j) ∧ ρ 44 0 (4 * L + j) = S 21 (4 * L + j) ∧ ρ 46 0 (4 * L + j) = S 22 (4 * L + j) ∧ ρ 45 0 (4 * L + j) = S 23 (4 * L + j) :=
  ⟨h 0 (by omega), h 1 (by omega), h 2 (by omega), h 3 (by omega)⟩
theorem R5to {S : ab_S} {ρ : am_M} (h : ab_R S ρ) {L j : Nat} (hL : L < 64) (hj : (j : Int) < S 14 L) : ∀ x, x < 4 → ρ (rq x) 0 (4 * L + j) = S (20 + x) (4 * L + j) := fun x hx => by
  obtain ⟨a, b, c, d⟩ := h.2.2.2.2.1 L j hL hj
  match x, hx with
  | 0, _ => exact a
  | 1, _ => exact b
  | 2, _ => exact c
  | 3, _ => exact d
theorem R_ext {S T : ab_S} {ρ : am_M} (h : ∀ g i, S g i = T g i) (c : ab_R S ρ) : ab_R T ρ := by
  have : S = T := funext fun g => funext fun i => h g i
  rw [← this]; exact c
theorem R_eq {S T : ab_S} {ρ : am_M} (e : ab_eq S T) (h : ab_R S ρ) : ab_R T ρ := by
  have h0 := h
  obtain ⟨h1, h2, h3, h4, h5, h6, h7⟩ := h
  have e0 : ∀ f i : Nat, (f < 20 ∨ 23 < f) → T f i = S f i := fun f i q => (e.1 f i q).symm
  refine ⟨?_, ?_, ?_, ?_, ?_, ?_, ?_⟩
  · simp only [e0 19 _ (by omega)]; exact h1
  · intro f j hf hj; rw [e0 19 _ (by omega)] at hf; rw [e0 j _ (by omega)]; exact h2 f j hf hj
  · intro k hk; simp only [e0 16 _ (by omega), e0 17 _ (by omega)]; exact h3 k hk
  · intro L hL; simp only [e0 13 _ (by omega), e0 14 _ (by omega), e0 15 _ (by omega)]; exact h4 L hL
  · intro L j hL hj
    rw [e0 14 _ (by omega)] at hj
    refine R5of (fun x hx => ?_)
    rw [← e.2 L j x hL hj hx]
    exact R5to h0 hL hj x hx
  · intro L t hL ha hb
    rw [e0 19 _ (by omega)] at ha hb
    rw [e0 24 _ (by omega)]
    exact h6 L t hL ha hb
  · intro q hq
    rw [e0 18 _ (by omega)]
    exact h7 q hq
/-- the arrays that the state doesn't speak of -/
def rk_t (k : Nat) : Prop := k = 41 ∨ k = 49 ∨ (51 ≤ k ∧ k ≤ 54)
theorem R_tmp {S : ab_S} {ρ ρ' : am_M} (h : ab_R S ρ) (e : ∀ k i j : Nat, ¬ rk_t k → ρ' k i j = ρ k i j) : ab_R S ρ' := by
  have h0 := h
  unfold rk_t at e
  obtain ⟨h1, h2, h3, h4, h5, h6, h7⟩ := h
  refine ⟨?_, ?_, ?_, ?_, ?_, ?_, ?_⟩
  · rw [e 20 0 4 (by omega), e 20 0 3 (by omega), e 20 0 0 (by omega), e 20 0 1 (by omega), e 20 0 2 (by omega), e 20 0 35 (by omega)]; exact h1
  · intro f j hf hj; rw [e _ _ _ (by omega)]; exact h2 f j hf hj
  · intro k hk; rw [e 50 _ _ (by omega), e 48 _ _ (by omega)]; exact h3 k hk
  · intro L hL; rw [e 39 _ _ (by omega), e 38 _ _ (by omega), e 40 _ _ (by omega)]; exact h4 L hL
  · intro L j hL hj; rw [e 43 _ _ (by omega), e 44 _ _ (by omega), e 46 _ _ (by omega), e 45 _ _ (by omega)]; exact h5 L j hL hj
  · intro L t hL ha hb; rw [e 42 _ _ (by omega)]; exact h6 L t hL ha hb
  · intro q hq; rw [e 47 _ _ (by omega)]; exact h7 q hq
theorem R_u {S : ab_S} {ρ : am_M} (h : ab_R S ρ) {g k i : Nat} (hg : rk_p g k) (x : Int) : ab_R (ab_u S g i x) (am_up ρ k 0 i x) := by
  obtain ⟨h1, h2, h3, h4, h5, h6, h7⟩ := h
  unfold rk_p at hg
  have e0 : ∀ g' i' : Nat, ¬ (g' = g ∧ i' = i) → ab_u S g i x g' i' = S g' i' := fun g' i' q => by rw [ab_u_app, if_neg q]
  have e1 : ∀ k' n : Nat, ¬ (k' = k ∧ n = i) → am_up ρ k 0 i x k' 0 n = ρ k' 0 n := fun k' n q => by rw [am_up_app, if_neg (by omega)]
  have key : ∀ g' k' i' : Nat, rk_p g' k' → ρ k' 0 i' = S g' i' → am_up ρ k 0 i x k' 0 i' = ab_u S g i x g' i' := fun g' k' i' hp he => by
    unfold rk_p at hp
    by_cases q : g' = g ∧ i' = i
    · obtain ⟨rfl, rfl⟩ := q
      rw [am_up_app, if_pos (by omega), ab_u_app, if_pos ⟨rfl, rfl⟩]
    · rw [e0 _ _ q, e1 _ _ (by omega)]; exact he
  have kp : ∀ g' k', ((g' < 13 ∧ k' = 25 + g') ∨ (g' = 13 ∧ k' = 38) ∨ (g' = 15 ∧ k' = 40) ∨ (g' = 16 ∧ k' = 50) ∨ (g' = 17 ∧ k' = 48) ∨ (g' = 18 ∧ k' = 47)) → rk_p g' k' := fun _ _ z => z
  refine ⟨?_, ?_, ?_, ?_, ?_, ?_, ?_⟩
  · rw [e0 19 0 (by omega), e0 19 1 (by omega), e0 19 2 (by omega), e0 19 3 (by omega), e0 19 4 (by omega), e0 19 5 (by omega), e1 20 35 (by omega), e1 20 0 (by omega), e1 20 1 (by omega), e1 20 2 (by omega), e1 20 3 (by omega), e1 20 4 (by omega)]; exact h1
  · intro f j hf hj
    rw [e0 19 _ (by omega)] at hf
    exact key j (25 + j) f (kp _ _ (by omega)) (h2 f j hf hj)
  · intro k' hk
    exact ⟨key 16 50 k' (kp _ _ (by omega)) (h3 k' hk).1, key 17 48 k' (kp _ _ (by omega)) (h3 k' hk).2⟩
  · intro L hL
    obtain ⟨a1, a2, a3⟩ := h4 L hL
    exact ⟨by rw [e0 14 _ (by omega), e1 39 _ (by omega)]; exact a1, key 13 38 L (kp _ _ (by omega)) a2, key 15 40 L (kp _ _ (by omega)) a3⟩
  · intro L j hL hj
    rw [e0 14 _ (by omega)] at hj
    rw [e0 20 _ (by omega), e0 21 _ (by omega), e0 22 _ (by omega), e0 23 _ (by omega), e1 43 _ (by omega), e1 44 _ (by omega), e1 45 _ (by omega), e1 46 _ (by omega)]
    exact h5 L j hL hj
  · intro L t hL ha hb
    rw [e0 19 _ (by omega)] at ha hb
    rw [e0 24 _ (by omega), e1 42 _ (by omega)]
    exact h6 L t hL ha hb
  · intro q hq
    exact key 18 47 q (kp _ _ (by omega)) (h7 q hq)
theorem R_sp {S : ab_S} {ρ : am_M} (h : ab_R S ρ) {i : Nat} (x : Int) : ab_R (ab_u S 23 i x) (am_up ρ 45 0 i x) := by
  obtain ⟨h1, h2, h3, h4, h5, h6, h7⟩ := h
  have e0 : ∀ g' i' : Nat, ¬ g' = 23 → ab_u S 23 i x g' i' = S g' i' := fun g' i' q => by rw [ab_u_app, if_neg (by omega)]
  have e1 : ∀ k' n : Nat, ¬ k' = 45 → am_up ρ 45 0 i x k' 0 n = ρ k' 0 n := fun k' n q => by rw [am_up_app, if_neg (by omega)]
  refine ⟨?_, ?_, ?_, ?_, ?_, ?_, ?_⟩
  · simp only [e0 19 _ (by omega), e1 20 _ (by omega)]; exact h1
  · intro f j hf hj; rw [e0 19 _ (by omega)] at hf; rw [e0 j _ (by omega), e1 _ _ (by omega)]; exact h2 f j hf hj
  · intro k hk; simp only [e0 16 _ (by omega), e0 17 _ (by omega), e1 50 _ (by omega), e1 48 _ (by omega)]; exact h3 k hk
  · intro L hL; simp only [e0 13 _ (by omega), e0 14 _ (by omega), e0 15 _ (by omega), e1 39 _ (by omega), e1 38 _ (by omega), e1 40 _ (by omega)]; exact h4 L hL
  · intro L j hL hj
    rw [e0 14 _ (by omega)] at hj
    obtain ⟨a, b, c, d⟩ := h5 L j hL hj
    refine ⟨?_, ?_, ?_, ?_⟩
    · rw [e0 20 _ (by omega), e1 43 _ (by omega)]; exact a
    · rw [e0 21 _ (by omega), e1 44 _ (by omega)]; exact b
    · rw [e0 22 _ (by omega), e1 46 _ (by omega)]; exact c
    · rw [ab_u_app, am_up_app]
      by_cases q : 4 * L + j = i
      · rw [if_pos ⟨rfl, rfl, q⟩, if_pos ⟨rfl, q⟩]
      · rw [if_neg (by omega), if_neg (by omega)]; exact d
  · intro L t hL ha hb
    rw [e0 19 _ (by omega)] at ha hb
    rw [e0 24 _ (by omega), e1 42 _ (by omega)]
    exact h6 L t hL ha hb
  · intro q hq; rw [e0 18 _ (by omega), e1 47 _ (by omega)]; exact h7 q hq
/-- leaves: n places of the queue q have moved up, its size is v -/
def rl_sh (ρ : am_M) (q : Nat) (v : Int) (n : Nat) : am_M := fun k i p =>
  if k = 39 ∧ i = 0 ∧ p = q then v
  else if (43 ≤ k ∧ k ≤ 46) ∧ i = 0 ∧ 4 * q ≤ p ∧ p < 4 * q + n then ρ k 0 (p + 1) else ρ k i p
theorem rl_sh0 (ρ : am_M) (q : Nat) (v : Int) : rl_sh ρ q v 0 = am_up ρ 39 0 q v := by
  funext k i p
  rw [am_up_app]
  unfold rl_sh
  by_cases c : k = 39 ∧ i = 0 ∧ p = q
  · rw [if_pos c, if_pos c]
  · rw [if_neg c, if_neg c, if_neg (by omega)]
theorem rl_shS (ρ : am_M) (q : Nat) (v : Int) (n : Nat) : rl_sh ρ q v (n + 1) = am_up (am_up (am_up (am_up (rl_sh ρ q v n) 43 0 (4 * q + n) (ρ 43 0 (4 * q + n + 1))) 44 0 (4 * q + n) (ρ 44 0 (4 * q + n + 1))) 45 0 (4 * q + n) (ρ 45 0 (4 * q + n + 1))) 46 0 (4 * q + n) (ρ 46 0 (4 * q + n + 1)) := by
  funext k i p
  simp only [am_up_app]
  unfold rl_sh
  by_cases c : k = 39 ∧ i = 0 ∧ p = q
  · rw [if_pos c, if_neg (by omega), if_neg (by omega), if_neg (by omega), if_neg (by omega), if_pos c]
  · rw [if_neg c, if_neg c]
    by_cases d : p = 4 * q + n ∧ i = 0
    · obtain ⟨rfl, rfl⟩ := d
      by_cases kr : 43 ≤ k ∧ k ≤ 46
      · rw [if_pos (by omega)]
        rcases (show k = 43 ∨ k = 44 ∨ k = 45 ∨ k = 46 by omega) with rfl | rfl | rfl | rfl
        · simp
        · simp
        · simp
        · simp
      · rw [if_neg (by omega), if_neg (by omega), if_neg (by omega), if_neg (by omega), if_neg (by omega), if_neg (by omega)]
    · rw [if_neg (by omega : ¬ (k = 46 ∧ i = 0 ∧ p = 4 * q + n)), if_neg (by omega : ¬ (k = 45 ∧ i = 0 ∧ p = 4 * q + n)), if_neg (by omega : ¬ (k = 44 ∧ i = 0 ∧ p = 4 * q + n)), if_neg (by omega : ¬ (k = 43 ∧ i = 0 ∧ p = 4 * q + n))]
      by_cases e : (43 ≤ k ∧ k ≤ 46) ∧ i = 0 ∧ 4 * q ≤ p ∧ p < 4 * q + n
      · rw [if_pos (by omega), if_pos e]
      · rw [if_neg (by omega), if_neg e]
def rl_drop (ρ : am_M) (q sl : Nat) : am_M := am_up (rl_sh ρ q (ρ 39 0 q - 1) (ρ 39 0 q - 1).toNat) 42 0 (8 * q + sl) (ρ 42 0 (8 * q + sl) + 1)
theorem rl_drop_o (ρ : am_M) (q sl : Nat) {k : Nat} (i j : Nat) (h : ¬ (k = 39 ∨ k = 42 ∨ (43 ≤ k ∧ k ≤ 46))) : rl_drop ρ q sl k i j = ρ k i j := by
  unfold rl_drop
  rw [am_up_app, if_neg (by omega)]
  unfold rl_sh
  rw [if_neg (by omega), if_neg (by omega)]
theorem R_drop {S : ab_S} {ρ : am_M} (h : ab_R S ρ) {q sl : Nat} (hq : q < 64) (hn : 0 < S 14 q) (h4n : ∀ L', L' < 64 → S 14 L' ≤ 4) (hc : 0 ≤ S 19 3) (hd : 0 ≤ S 19 0 ∧ S 19 0 ≤ 5) (hsl : sl = ab_T S % 8) : ab_R (ab_drop S q) (rl_drop ρ q sl) := by
  have h0 := h
  obtain ⟨h1, h2, h3, h4, h5, h6, h7⟩ := h
  have eo := ab_drop_o S q
  have r : ∀ k i j : Nat, ¬ (k = 39 ∨ k = 42 ∨ (43 ≤ k ∧ k ≤ 46)) → rl_drop ρ q sl k i j = ρ k i j := fun k i j z => rl_drop_o ρ q sl i j z
  have hT : ab_T S = (S 19 3).toNat + 1 + (S 19 0).toNat := rfl
  refine ⟨?_, ?_, ?_, ?_, ?_, ?_, ?_⟩
  · simp only [eo 19 _ (by omega)]
    rw [r 20 0 4 (by omega), r 20 0 3 (by omega), r 20 0 0 (by omega), r 20 0 1 (by omega), r 20 0 2 (by omega), r 20 0 35 (by omega)]; exact h1
  · intro f j hf hj
    rw [eo 19 _ (by omega)] at hf
    rw [eo j _ (by omega), r _ _ _ (by omega)]; exact h2 f j hf hj
  · intro k hk
    rw [eo 16 _ (by omega), eo 17 _ (by omega), r _ _ _ (by omega), r _ _ _ (by omega)]; exact h3 k hk
  · intro L hL
    obtain ⟨a1, a2, a3⟩ := h4 L hL
    rw [eo 13 _ (by omega), eo 15 _ (by omega), r 38 _ _ (by omega), r 40 _ _ (by omega), ab_drop14]
    refine ⟨?_, a2, a3⟩
    unfold rl_drop
    rw [am_up_app, if_neg (by omega)]
    unfold rl_sh
    by_cases c : L = q
    · rw [if_pos ⟨rfl, rfl, c⟩, if_pos c, (h4 q hq).1]
    · rw [if_neg (by omega), if_neg (by omega), if_neg c]; exact a1
  · intro L j hL hj
    have h4L := h4n L hL
    have h4q := h4n q hq
    rw [ab_drop14] at hj
    refine R5of (fun x hx => ?_)
    have hr := rq_rng x hx
    rw [ab_dropq _ _ _ _ hx]
    unfold rl_drop
    rw [am_up_app, if_neg (by omega)]
    unfold rl_sh
    rw [if_neg (by omega), (h4 q hq).1]
    by_cases c : L = q
    · subst c
      rw [if_pos rfl] at hj
      rw [if_pos (by omega), if_pos (by omega)]
      exact R5to h0 hL (j := j + 1) (by omega) x hx
    · rw [if_neg c] at hj
      rw [if_neg (by omega), if_neg (by omega)]
      exact R5to h0 hL hj x hx
  · intro L t hL ha hb
    rw [eo 19 _ (by omega)] at ha hb
    rw [ab_drop24]
    unfold rl_drop
    rw [am_up_app]
    by_cases c : t = ab_T S ∧ L = q
    · obtain ⟨c1, rfl⟩ := c
      rw [if_pos (by omega), if_pos (by omega), ← h6 L t hL ha hb, hsl, c1]
    · rw [if_neg (by omega), if_neg (by omega)]
      unfold rl_sh
      rw [if_neg (by omega), if_neg (by omega)]
      exact h6 L t hL ha hb
  · intro p hp
    rw [eo 18 _ (by omega), r _ _ _ (by omega)]; exact h7 p hp
/-- arrives: the packet (a, b, c, d) behind the end of the queue L -/
def rl_put (ρ : am_M) (L : Nat) (a b c d : Int) : am_M :=
  am_up (am_up (am_up (am_up (am_up ρ 43 0 (4 * L + (ρ 39 0 L).toNat) a) 44 0 (4 * L + (ρ 39 0 L).toNat) b) 45 0 (4 * L + (ρ 39 0 L).toNat) d) 46 0 (4 * L + (ρ 39 0 L).toNat) c) 39 0 L (ρ 39 0 L + 1)
theorem rl_put_o (ρ : am_M) (L : Nat) (a b c d : Int) {k : Nat} (i j : Nat) (h : ¬ (k = 39 ∨ (43 ≤ k ∧ k ≤ 46))) : rl_put ρ L a b c d k i j = ρ k i j := by
  simp only [rl_put, am_up_app]
  rw [if_neg (by omega), if_neg (by omega), if_neg (by omega), if_neg (by omega), if_neg (by omega)]
theorem R_put {S : ab_S} {ρ : am_M} (h : ab_R S ρ) {L : Nat} (hL : L < 64) (hn : 0 ≤ S 14 L ∧ S 14 L < 4) (h4n : ∀ L', L' < 64 → S 14 L' ≤ 4) (a b c d : Int) : ab_R (ab_put S L a b c d) (rl_put ρ L a b c d) := by
  have h0 := h
  obtain ⟨h1, h2, h3, h4, h5, h6, h7⟩ := h
  have eo : ∀ f i, ¬ f = 14 → ¬ (20 ≤ f ∧ f ≤ 23) → ab_put S L a b c d f i = S f i := fun f i q q2 => ab_put_o _ _ _ _ _ _ q q2 i
  have r : ∀ k i j : Nat, ¬ (k = 39 ∨ (43 ≤ k ∧ k ≤ 46)) → rl_put ρ L a b c d k i j = ρ k i j := fun k i j z => rl_put_o ρ L a b c d i j z
  refine ⟨?_, ?_, ?_, ?_, ?_, ?_, ?_⟩
  · simp only [eo 19 _ (by omega) (by omega)]
    rw [r 20 0 4 (by omega), r 20 0 3 (by omega), r 20 0 0 (by omega), r 20 0 1 (by omega), r 20 0 2 (by omega), r 20 0 35 (by omega)]; exact h1
  · intro f j hf hj
    rw [eo 19 _ (by omega) (by omega)] at hf
    rw [eo j _ (by omega) (by omega), r _ _ _ (by omega)]; exact h2 f j hf hj
  · intro k hk
    rw [eo 16 _ (by omega) (by omega), eo 17 _ (by omega) (by omega), r _ _ _ (by omega), r _ _ _ (by omega)]; exact h3 k hk
  · intro L' hL'
    obtain ⟨a1, a2, a3⟩ := h4 L' hL'
    rw [eo 13 _ (by omega) (by omega), eo 15 _ (by omega) (by omega), r 38 _ _ (by omega), r 40 _ _ (by omega), ab_put14]
    refine ⟨?_, a2, a3⟩
    unfold rl_put
    rw [am_up_app]
    by_cases q : L' = L
    · rw [if_pos ⟨rfl, rfl, q⟩, if_pos q, (h4 L hL).1]
    · rw [if_neg (by omega), if_neg q]
      simp only [am_up_app]
      rw [if_neg (by omega), if_neg (by omega), if_neg (by omega), if_neg (by omega)]; exact a1
  · intro L' j hL' hj
    have h44 := h4n L' hL'
    rw [ab_put14] at hj
    refine R5of (fun x hx => ?_)
    rw [ab_putq _ _ _ _ _ _ hx]
    simp only [rl_put, am_up_app, (h4 L hL).1]
    have hr := rq_rng x hx
    rw [if_neg (by omega)]
    by_cases q : 4 * L' + j = 4 * L + (S 14 L).toNat
    · rw [if_pos q]
      match x, hx with
      | 0, _ => simp [rq, ab_4, q]
      | 1, _ => simp [rq, ab_4, q]
      | 2, _ => simp [rq, ab_4, q]
      | 3, _ => simp [rq, ab_4, q]
    · rw [if_neg (by omega), if_neg (by omega), if_neg (by omega), if_neg (by omega), if_neg q]
      refine R5to h0 hL' ?_ x hx
      by_cases q2 : L' = L
      · subst q2; rw [if_pos rfl] at hj; omega
      · rw [if_neg q2] at hj; exact hj
  · intro L' t hL' ha hb
    rw [eo 19 _ (by omega) (by omega)] at ha hb
    rw [eo 24 _ (by omega) (by omega), r _ _ _ (by omega)]; exact h6 L' t hL' ha hb
  · intro p hp
    rw [eo 18 _ (by omega) (by omega), r _ _ _ (by omega)]; exact h7 p hp
theorem R_back {S : ab_S} {ρ : am_M} {k sl : Nat} (h : ab_R (ab_back S k) ρ) (hk : k < 64) (hc : 0 ≤ S 19 3) (hsl : sl = (S 19 3).toNat % 8) : ab_R (ab_back S (k + 1)) (am_up (am_up ρ 38 0 k (ρ 38 0 k + ρ 42 0 (8 * k + sl))) 42 0 (8 * k + sl) 0) := by
  obtain ⟨h1, h2, h3, h4, h5, h6, h7⟩ := h
  have e0 := ab_back_o S
  have e1 : ∀ k' i n : Nat, ¬ (k' = 38 ∨ k' = 42) → am_up (am_up ρ 38 0 k (ρ 38 0 k + ρ 42 0 (8 * k + sl))) 42 0 (8 * k + sl) 0 k' i n = ρ k' i n := fun k' i n q => by
    simp only [am_up_app]; rw [if_neg (by omega), if_neg (by omega)]
  have hsk : ρ 42 0 (8 * k + sl) = S 24 (64 * (S 19 3).toNat + k) := by
    have := h6 k (S 19 3).toNat hk (by rw [e0 _ 19 _ (by omega)]; omega) (by rw [e0 _ 19 _ (by omega)]; omega)
    rw [hsl, this, ab_back24, if_neg (by omega)]
  refine ⟨?_, ?_, ?_, ?_, ?_, ?_, ?_⟩
  · rw [e0 _ 19 _ (by omega), e0 _ 19 _ (by omega), e0 _ 19 _ (by omega), e0 _ 19 _ (by omega), e0 _ 19 _ (by omega), e0 _ 19 _ (by omega)] at h1 ⊢
    rw [e1 20 0 35 (by omega), e1 20 0 4 (by omega), e1 20 0 3 (by omega), e1 20 0 0 (by omega), e1 20 0 1 (by omega), e1 20 0 2 (by omega)]
    exact h1
  · intro f' j' hf hj'; rw [e0 _ 19 _ (by omega)] at hf; rw [e1 _ _ _ (by omega)]
    have := h2 f' j' (by rw [e0 _ 19 _ (by omega)]; exact hf) hj'
    rw [e0 _ j' _ (by omega)] at this ⊢
    exact this
  · intro k' hk'
    have := h3 k' hk'
    rw [e0 _ 16 _ (by omega), e0 _ 17 _ (by omega)] at this ⊢
    rw [e1 50 _ _ (by omega), e1 48 _ _ (by omega)]; exact this
  · intro L hL
    have := h4 L hL
    rw [e0 _ 14 _ (by omega), e0 _ 15 _ (by omega), ab_back13] at this ⊢
    rw [e1 39 _ _ (by omega), e1 40 _ _ (by omega)]
    refine ⟨this.1, ?_, this.2.2⟩
    simp only [am_up_app]
    rw [if_neg (by omega)]
    by_cases q : L = k
    · subst q
      rw [if_pos (by simp), if_pos (by omega), this.2.1, if_neg (by omega), hsk]
    · rw [if_neg (by omega), this.2.1]
      by_cases q2 : L < k
      · rw [if_pos q2, if_pos (by omega)]
      · rw [if_neg q2, if_neg (by omega)]
  · intro L j hL hj
    rw [e0 _ 14 _ (by omega)] at hj
    have := h5 L j hL (by rw [e0 _ 14 _ (by omega)]; exact hj)
    rw [e0 _ 20 _ (by omega), e0 _ 21 _ (by omega), e0 _ 22 _ (by omega), e0 _ 23 _ (by omega)] at this ⊢
    rw [e1 43 _ _ (by omega), e1 44 _ _ (by omega), e1 45 _ _ (by omega), e1 46 _ _ (by omega)]
    exact this
  · intro L t hL ha hb
    have := h6 L t hL (by rw [e0 _ 19 _ (by omega)] at ha ⊢; exact ha) (by rw [e0 _ 19 _ (by omega)] at hb ⊢; exact hb)
    rw [e0 _ 19 _ (by omega)] at ha hb
    rw [ab_back24] at this ⊢
    rw [am_up_app]
    by_cases q : t = (S 19 3).toNat ∧ L = k
    · rw [if_pos (by omega), if_pos (by omega)]
    · rw [if_neg (by omega), am_up_app, if_neg (by omega), this]
      by_cases q2 : (64 * t + L) / 64 = (S 19 3).toNat ∧ (64 * t + L) % 64 < k
      · rw [if_pos q2, if_pos (by omega)]
      · rw [if_neg q2, if_neg (by omega)]
  · intro p hp
    have := h7 p hp
    rw [e0 _ 18 _ (by omega)] at this ⊢
    rw [e1 47 _ _ (by omega)]; exact this
theorem R_tick {S : ab_S} {ρ : am_M} (h : ab_R S ρ) (hc : 0 ≤ S 19 3) (h0 : ∀ L, L < 64 → S 24 (64 * (S 19 3).toNat + L) = 0) (h8 : ∀ L, L < 64 → S 24 (64 * ((S 19 3).toNat + 8) + L) = 0) : ab_R (ab_u S 19 3 (S 19 3 + 1)) (am_up ρ 20 0 3 (S 19 3 + 1)) := by
  obtain ⟨h1, h2, h3, h4, h5, h6, h7⟩ := h
  have e0 : ∀ g' i' : Nat, ¬ (g' = 19 ∧ i' = 3) → ab_u S 19 3 (S 19 3 + 1) g' i' = S g' i' := fun g' i' q => by rw [ab_u_app, if_neg q]
  have e3 : ab_u S 19 3 (S 19 3 + 1) 19 3 = S 19 3 + 1 := by rw [ab_u_app, if_pos ⟨rfl, rfl⟩]
  have e1 : ∀ k' i n : Nat, ¬ (k' = 20 ∧ n = 3) → am_up ρ 20 0 3 (S 19 3 + 1) k' i n = ρ k' i n := fun k' i n q => by rw [am_up_app, if_neg (by omega)]
  refine ⟨?_, ?_, ?_, ?_, ?_, ?_, ?_⟩
  · rw [e0 19 0 (by omega), e0 19 1 (by omega), e0 19 2 (by omega), e0 19 4 (by omega), e0 19 5 (by omega), e3, e1 20 0 35 (by omega), e1 20 0 0 (by omega), e1 20 0 1 (by omega), e1 20 0 2 (by omega), e1 20 0 4 (by omega)]
    exact ⟨h1.1, by rw [am_up_app, if_pos ⟨rfl, rfl, rfl⟩], h1.2.2⟩
  · intro f j hf hj; rw [e0 19 _ (by omega)] at hf; rw [e0 j _ (by omega), e1 _ _ _ (by omega)]; exact h2 f j hf hj
  · intro k hk; rw [e0 16 _ (by omega), e0 17 _ (by omega), e1 50 _ _ (by omega), e1 48 _ _ (by omega)]; exact h3 k hk
  · intro L hL; rw [e0 13 _ (by omega), e0 14 _ (by omega), e0 15 _ (by omega), e1 39 _ _ (by omega), e1 38 _ _ (by omega), e1 40 _ _ (by omega)]; exact h4 L hL
  · intro L j hL hj
    rw [e0 14 _ (by omega)] at hj
    rw [e0 20 _ (by omega), e0 21 _ (by omega), e0 22 _ (by omega), e0 23 _ (by omega), e1 43 _ _ (by omega), e1 44 _ _ (by omega), e1 45 _ _ (by omega), e1 46 _ _ (by omega)]
    exact h5 L j hL hj
  · intro L t hL ha hb
    rw [e3] at ha hb
    rw [e0 24 _ (by omega), e1 42 _ _ (by omega)]
    by_cases q : (t : Int) < S 19 3 + 8
    · exact h6 L t hL (by omega) q
    · have ht : t = (S 19 3).toNat + 8 := by omega
      have := h6 L (S 19 3).toNat hL (by omega) (by omega)
      rw [h0 L hL] at this
      rw [ht, h8 L hL, ← this]
      congr 1
      omega
  · intro q hq; rw [e0 18 _ (by omega), e1 47 _ _ (by omega)]; exact h7 q hq
