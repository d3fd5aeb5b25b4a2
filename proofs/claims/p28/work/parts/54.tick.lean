/-! a whole tick -/
theorem MS_same {S : ab_S} {k : Nat} (hF : ab_F S k = -1) : ab_MS S (k + 1) = ab_MS S k := by
  unfold ab_MS
  rw [Z_K0 (K := k) (M := k + 1) hF, Z_M0 (M := k) (K := k) hF]
theorem F_rng {S : ab_S} {b : Int} (h : ab_I S b) {k : Nat} : -1 ≤ ab_F S k ∧ ab_F S k < 24 := by
  have hn := h.2.1.2.2.2.2
  by_cases q : ab_F S k = -1
  · omega
  · obtain ⟨f1, f2, -, -⟩ := F_fact h (k := k) q
    omega
theorem cg_many {S T : ab_S} {f : Nat} (h0 : T 0 f = S 0 f) (h1 : T 1 f = S 1 f) (h18 : ∀ i, T 18 i = S 18 i) : ab_far T f = ab_far S f ∧ ab_many T (ab_la T f) (ab_lb T f) = ab_many S (ab_la S f) (ab_lb S f) := by
  have eus : ∀ a b s, ab_us T a b s = ab_us S a b s := fun a b s => by simp only [ab_us, h18]
  have ela : ab_la T f = ab_la S f := by simp only [ab_la, h0]
  have elb : ab_lb T f = ab_lb S f := by simp only [ab_lb, h1]
  refine ⟨ab_far_cg h0 h1, ?_⟩
  rw [ela, elb]
  simp only [ab_many, eus]
def ab_tA (S : ab_S) : ab_S := ab_choN (ab_loseN (ab_dlvN (ab_back S 64) 16) 16) 16
def ab_tick (S : ab_S) : ab_S := ab_u (ab_MS (ab_tA S) 16) 19 3 (S 19 3 + 1)
def ab_tickC (S : ab_S) : Int := ab_dlvC (ab_back S 64) 16
theorem tick_o (S : ab_S) : (∀ i, ab_back S 64 19 i = S 19 i) ∧ (∀ i, ab_dlvN (ab_back S 64) 16 19 i = S 19 i) ∧ (∀ i, ab_loseN (ab_dlvN (ab_back S 64) 16) 16 19 i = S 19 i) ∧ (∀ i, ab_choN (ab_loseN (ab_dlvN (ab_back S 64) 16) 16) 16 19 i = S 19 i) := by
  have h1 : ∀ i, ab_back S 64 19 i = S 19 i := fun i => ab_back_o _ _ _ _ (by omega)
  have h2 : ∀ i, ab_dlvN (ab_back S 64) 16 19 i = S 19 i := fun i => by rw [ab_dlvN_o _ _ _ (by unfold ab_kp; omega), h1]
  have h3 : ∀ i, ab_loseN (ab_dlvN (ab_back S 64) 16) 16 19 i = S 19 i := fun i => by rw [ab_loseN_o _ _ _ (by unfold ab_kp; omega), h2]
  exact ⟨h1, h2, h3, fun i => by rw [ab_choN_o _ _ _ (by omega), h3]⟩
theorem dlv24 (S : ab_S) (k i : Nat) (h : ¬ i / 64 = ab_T S) (hk : k < 16) : ab_dlv S k 24 i = S 24 i := by
  unfold ab_dlv
  split
  · rw [ab_drop24, ab_T_cg (S := S) (fun i => by rw [ab_u_app, if_neg (by omega), ab_got_o _ _ _ _ _ (by omega)]), if_neg (by omega), ab_u_app, if_neg (by omega), ab_got_o _ _ _ _ _ (by omega)]
  · rfl
theorem dlvN24 (S : ab_S) (i : Nat) (h : ¬ i / 64 = ab_T S) : ∀ k : Nat, k ≤ 16 → ab_dlvN S k 24 i = S 24 i
  | 0, _ => rfl
  | k + 1, hk => by
    rw [ab_dlvN, dlv24 _ _ _ (by rw [ab_T_cg (S := S) (fun i => ab_dlvN_o _ _ _ (by unfold ab_kp; omega) k)]; exact h) (by omega)]
    exact dlvN24 S i h k (by omega)
theorem lose24 (S : ab_S) (sp lf i : Nat) (h : ¬ i / 64 = ab_T S) (hs : sp < 4) (hl : lf < 4) : ab_lose S sp lf 24 i = S 24 i := by
  unfold ab_lose
  split
  · rw [ab_drop24, ab_T_cg (S := S) (fun i => by rw [ab_u_app, if_neg (by omega), ab_u_app, if_neg (by omega)]), if_neg (by omega), ab_u_app, if_neg (by omega), ab_u_app, if_neg (by omega)]
  · rfl
theorem loseN24 (S : ab_S) (i : Nat) (h : ¬ i / 64 = ab_T S) : ∀ k : Nat, k ≤ 16 → ab_loseN S k 24 i = S 24 i
  | 0, _ => rfl
  | k + 1, hk => by
    rw [ab_loseN, lose24 _ _ _ _ (by rw [ab_T_cg (S := S) (fun i => ab_loseN_o _ _ _ (by unfold ab_kp; omega) k)]; exact h) (by omega) (by omega)]
    exact loseN24 S i h k (by omega)
/-- where the tick's credits have come back, none is left that comes back in it -/
theorem clr_A {S : ab_S} {b : Int} (h : ab_I S b) {L : Nat} (hL : L < 64) : ab_tA S 24 (64 * (S 19 3).toNat + L) = 0 := by
  have ho := tick_o S
  have hT := ab_T_lt h
  have hd : (64 * (S 19 3).toNat + L) / 64 = (S 19 3).toNat := by omega
  unfold ab_tA
  rw [ab_choN_o _ _ _ (by omega), loseN24 _ _ (by rw [ab_T_cg ho.2.1, hd]; omega) 16 (by omega), dlvN24 _ _ (by rw [ab_T_cg ho.1, hd]; omega) 16 (by omega), ab_back24, if_pos (by omega)]
theorem clr_MS {S : ab_S} {b : Int} (h : ab_I S b) {L k : Nat} (hL : L < 64) : ab_MS (ab_tA S) k 24 (64 * (S 19 3).toNat + L) = 0 := by
  have ho := tick_o S
  have hT := ab_T_lt h
  have hd : (64 * (S 19 3).toNat + L) / 64 = (S 19 3).toNat := by omega
  unfold ab_MS
  rw [Z24, clr_A h hL, if_neg (by rw [hd, show ab_T (ab_tA S) = ab_T S from ab_T_cg ho.2.2.2]; omega)]; rfl
theorem I_tA {S : ab_S} {b : Int} (h : ab_I S b) (hb : b + 48 ≤ 100000000) : ab_I (ab_tA S) (b + 32) := by
  have hI1 : ab_I (ab_back S 64) b := I_back h
  have hI2 := I_dlvN hI1 (by omega) 16 (by omega)
  have hI3 := I_loseN hI2 (by omega) 16 (by omega)
  have hI4 := I_choN hI3 16 (by omega)
  rw [show b + ((16 : Nat) : Int) + ((16 : Nat) : Int) = b + 32 by omega] at hI4
  exact hI4
theorem C_tickN {S : ab_S} {b : Int} (h : ab_I S b) (hb : b + 48 ≤ 100000000) {σ : am_M} (hC : ab_C (ab_MS (ab_tA S) 16) σ) : ab_C (ab_tick S) (am_up σ 0 0 9 (S 19 3 + 1)) := by
  have ho := tick_o S
  have e3 : ab_MS (ab_tA S) 16 19 3 = S 19 3 := by rw [MS_o (by omega)]; exact ho.2.2.2 3
  have hM := I_MS (I_tA h hb) (by omega) (k := 16) (by omega)
  have := C_tick hC (by rw [e3]; exact h.2.1.2.2.2.1.1) (fun L hL => by rw [e3]; exact clr_MS h hL) (fun L hL => (hM.2.2.2.2.1 L _ hL).2 (by have := h.2.1.2.2.2.1; omega))
  rw [e3] at this
  exact this
theorem am_sum_shift (f : Nat → Int) : ∀ n : Nat, am_sum (fun d => f (d + 1)) n = am_sum f n - f 0 + f n
  | 0 => by simp only [am_sum]; omega
  | n + 1 => by rw [am_sum, am_sum, am_sum_shift f n]; omega
theorem I_next {T : ab_S} {b : Int} (h : ab_I T b) (hc : T 19 3 < 100000) (h0 : ∀ L, L < 64 → T 24 (64 * (T 19 3).toNat + L) = 0) : ab_I (ab_u T 19 3 (T 19 3 + 1)) b := by
  obtain ⟨h1, h2, h3, h4, h5, h6, h7, h8⟩ := h
  have e : ∀ g i, ¬ g = 19 → ab_u T 19 3 (T 19 3 + 1) g i = T g i := fun g i q => by rw [ab_u_app, if_neg (by omega)]
  have e9 : ∀ i, ¬ i = 3 → ab_u T 19 3 (T 19 3 + 1) 19 i = T 19 i := fun i q => by rw [ab_u_app, if_neg (by omega)]
  have e3 : ab_u T 19 3 (T 19 3 + 1) 19 3 = T 19 3 + 1 := by rw [ab_u_app, if_pos ⟨rfl, rfl⟩]
  refine ⟨h1, ?_, ?_, ?_, ?_, ?_, ?_, ?_⟩
  · rw [e9 0 (by omega), e9 1 (by omega), e9 2 (by omega), e9 4 (by omega), e3]
    omega
  · intro f hf; rw [e9 4 (by omega)] at hf; exact ab_If_cg (Int.le_refl _) (fun j hj => e j _ (by omega)) (h3 f hf)
  · intro L hL
    have hr : ab_rs (ab_u T 19 3 (T 19 3 + 1)) L = ab_rs T L := by
      have hs := am_sum_shift (fun d => T 24 (64 * ((T 19 3).toNat + d) + L)) 7
      have z7 := (h5 L ((T 19 3).toNat + 7) hL).2 (by omega)
      have z0 := h0 L hL
      simp only [Nat.add_zero] at hs
      unfold ab_rs
      rw [e3, show (T 19 3 + 1).toNat = (T 19 3).toNat + 1 by omega]
      rw [am_sum_cg (g := fun d => T 24 (64 * ((T 19 3).toNat + (d + 1)) + L)) (fun d _ => by rw [e 24 _ (by omega), show (T 19 3).toNat + 1 + d = (T 19 3).toNat + (d + 1) by omega])]
      rw [hs, z7, z0]; omega
    rw [e 13 _ (by omega), e 14 _ (by omega), e 15 _ (by omega), hr]
    exact h4 L hL
  · intro L t hL
    rw [e 24 _ (by omega), e3]
    exact ⟨(h5 L t hL).1, fun z => (h5 L t hL).2 (by omega)⟩
  · intro k hk
    rw [e 16 _ (by omega), e 17 _ (by omega)]
    exact h6 k hk
  · intro q hq; rw [e 18 _ (by omega)]; exact h7 q hq
  · intro L j hL hj
    rw [e 14 _ (by omega)] at hj
    exact ab_Iq_cg (S := T) (j := j) (Int.le_refl _) (e9 4 (by omega)) (fun f _ => ⟨e 0 _ (by omega), e 1 _ (by omega)⟩) (fun x hx => e _ _ (by omega)) (h8 L j hL hj)
theorem I_tick {S : ab_S} {b : Int} (h : ab_I S b) (hb : b + 48 ≤ 100000000) (hc : S 19 3 < 100000) : ab_I (ab_tick S) (b + 48) := by
  have ho := tick_o S
  have e3 : ab_MS (ab_tA S) 16 19 3 = S 19 3 := by rw [MS_o (by omega)]; exact ho.2.2.2 3
  have hM := I_MS (I_tA h hb) (by omega) (k := 16) (by omega)
  have := I_next hM (by omega) (fun L hL => by rw [e3]; exact clr_MS h hL)
  rw [e3, show b + 32 + 16 = b + 48 by omega] at this
  exact this
