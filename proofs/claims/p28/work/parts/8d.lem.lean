/-! what the law's turns change, in the law's words -/
theorem C_hi {S : ab_S} {σ σ' : am_M} (h : ab_C S σ) (e : ∀ k, k < 19 → σ' k = σ k) : ab_C S σ' := by
  unfold ab_C at h ⊢
  rw [e 0 (by omega), e 8 (by omega), e 9 (by omega), e 10 (by omega), e 11 (by omega), e 13 (by omega), e 14 (by omega)]
  exact h
theorem up_lo (σ : am_M) {k0 i j : Nat} {x : Int} {k : Nat} (h : ¬ k = k0) : am_up σ k0 i j x k = σ k := by
  funext i' j'
  rw [am_up_app, if_neg (fun z => h z.1)]
theorem tick_g (S : ab_S) {g : Nat} (i : Nat) (hg : g < 4 ∨ g = 18) : ab_tick S g i = S g i := by
  rw [← zt_tick]
  have e : zt (ab_tA S) g i = ab_tA S g i := by
    rcases hg with hg | hg
    · exact zt_k _ i (by omega)
    · subst hg
      rw [zt_o _ i (by omega), Zo (by omega)]
  rw [e]
  unfold ab_tA
  rw [ab_choN_o _ _ _ (by omega), ab_loseN_o _ _ _ (by unfold ab_kp; omega), ab_dlvN_o _ _ _ (by unfold ab_kp; omega), ab_back_o _ _ _ _ (by omega)]
theorem tick_19 (S : ab_S) {i : Nat} (hi : ¬ i = 3) : ab_tick S 19 i = S 19 i := by
  rw [← zt_tick, zt_19 _ hi]
  exact (tick_o S).2.2.2 i
theorem pass_g (S : ab_S) {g : Nat} (i : Nat) (hg : g < 4 ∨ g = 18) : ∀ n : Nat, ab_pass S n g i = S g i
  | 0 => rfl
  | n + 1 => by rw [ab_pass, tick_g _ i hg, pass_g S i hg n]
theorem pass_19 (S : ab_S) {i : Nat} (hi : ¬ i = 3) : ∀ n : Nat, ab_pass S n 19 i = S 19 i
  | 0 => rfl
  | n + 1 => by rw [ab_pass, tick_19 _ hi, pass_19 S hi n]
theorem lenc_cg {S T : ab_S} {k : Nat} (h : ∀ g, g < 4 → T g k = S g k) : lenc T k = lenc S k := by
  unfold lenc
  rw [h 0 (by omega), h 1 (by omega), h 2 (by omega), h 3 (by omega)]
theorem lcm_cg {S T : ab_S} (h : ∀ q, T 18 q = S 18 q) : lcm T = lcm S := by
  have : ub T = ub S := funext fun q => by unfold ub; rw [h]
  unfold lcm
  rw [this]
theorem lW_pass {S : ab_S} {σ u : am_M} (h : lW S σ) {n : Nat} (hn : S 19 3 + n ≤ 5000) (hu : ab_C (ab_pass S n) u) : lW (ab_pass S n) (l_mix u σ) := by
  obtain ⟨h1, h2, h3, h4, h5, h6, h7⟩ := h
  have hc := h2.2.1.2.2.2.1
  have h193 := pass_193 S n
  refine ⟨C_mix hu, ?_, J_pass h2 h3 n (by omega) (by omega), (pv_pass h2 h3 h4 n (by omega) (by omega)).1, by rw [h193.1]; exact hn, fun k hk => ?_, ?_⟩
  · have := I_pass h2 n (by omega) (by omega)
    rw [h193.1, Int.mul_add]
    exact this
  · rw [h193.2] at hk
    rw [mix_hi u σ (by omega), lenc_cg (S := S) (fun g hg => pass_g S k (Or.inl hg) n)]
    exact h6 k hk
  · rw [mix_hi u σ (by omega), pass_19 S (by omega) n, pass_19 S (by omega) n, pass_19 S (by omega) n, lcm_cg (S := S) (fun q => pass_g S q (Or.inr rfl) n)]
    exact h7
theorem lW_add {S : ab_S} {σ u : am_M} (h : lW S σ) {a t p q : Int} (ho : ab_okA a t p q) (hn : S 19 4 < 24) (hu : ab_C (ab_add S a t p q) u) : lW (ab_add S a t p q) (am_up (l_mix u σ) 60 0 (S 19 4).toNat (a + t * 16 + p * 256 + (S 19 3 + q) * 65536)) := by
  obtain ⟨h1, h2, h3, h4, h5, h6, h7⟩ := h
  have hn4 := h2.2.1.2.2.2.2
  have e : ∀ g i, ¬ (g < 13 ∧ i = (S 19 4).toNat) → ¬ (g = 19 ∧ i = 4) → ab_add S a t p q g i = S g i := fun g i z z2 => add_o _ _ _ _ _ _ z z2
  refine ⟨C_hi (C_mix (σ := σ) hu) (fun k hk => up_lo _ (by omega)), ?_, J_add h3 ho.2.2.2.1.1, pv_add h2 ho hn h4, by rw [e 19 3 (by omega) (by omega)]; exact h5, fun k hk => ?_, ?_⟩
  · rw [e 19 3 (by omega) (by omega)]; exact I_add h2 ho hn
  · rw [add_c] at hk
    rw [am_up_app]
    by_cases z : k = (S 19 4).toNat
    · rw [if_pos ⟨rfl, rfl, z⟩]
      unfold lenc
      rw [add_n _ _ _ _ _ (by omega) z, add_n _ _ _ _ _ (by omega) z, add_n _ _ _ _ _ (by omega) z, add_n _ _ _ _ _ (by omega) z]
      simp only [ab_nf13, Nat.reduceEqDiff, if_true, if_false]
      omega
    · rw [if_neg (fun y => z y.2.2), mix_hi u σ (by omega), lenc_cg (S := S) (fun g hg => e g k (fun y => z y.2) (by omega))]
      exact h6 k (by omega)
  · rw [up_lo _ (by omega), mix_hi u σ (by omega), e 19 0 (by omega) (by omega), e 19 1 (by omega) (by omega), e 19 2 (by omega) (by omega), lcm_cg (S := S) (fun i => e 18 i (by omega) (by omega))]
    exact h7
theorem lW_cut {S : ab_S} {σ u : am_M} (h : lW S σ) {q : Nat} {x : Int} (hx : x = 0 ∨ x = 1) (hu : ab_C (ab_u S 18 q x) u) {σ' : am_M} (e' : ∀ k, k < 19 → σ' k = u k) (e60 : σ' 60 = σ 60) (e61 : ∀ i j, ¬ (i = 0 ∧ j = 3) → σ' 61 i j = σ 61 i j) (e3 : σ' 61 0 3 = ((lcm (ab_u S 18 q x) : Nat) : Int)) : lW (ab_u S 18 q x) σ' := by
  obtain ⟨h1, h2, h3, h4, h5, h6, h7⟩ := h
  have e : ∀ g i, ¬ g = 18 → ab_u S 18 q x g i = S g i := fun g i z => by rw [ab_u_app, if_neg (by omega)]
  refine ⟨C_hi hu e', ?_, J_cut h3 q, pv_cut h2 h4 q x, by rw [e 19 3 (by omega)]; exact h5, fun k hk => ?_, ?_⟩
  · rw [e 19 3 (by omega)]; exact I_cut h2 hx q
  · rw [e 19 4 (by omega)] at hk
    rw [e60, lenc_cg (S := S) (fun g hg => e g k (by omega))]
    exact h6 k hk
  · rw [e61 0 0 (by omega), e61 0 1 (by omega), e61 0 2 (by omega), e3, e 19 0 (by omega), e 19 1 (by omega), e 19 2 (by omega)]
    exact ⟨h7.1, h7.2.1, h7.2.2.1, rfl⟩
/-- nothing new where it is so already -/
theorem au_same {S : ab_S} {q : Nat} {x : Int} (h : S 18 q = x) : ab_u S 18 q x = S := by
  funext g i
  rw [ab_u_app]
  by_cases z : g = 18 ∧ i = q
  · rw [if_pos z, z.1, z.2, h]
  · rw [if_neg z]
theorem au_u (S : ab_S) (q : Nat) (x y : Int) : ab_u (ab_u S 18 q x) 18 q y = ab_u S 18 q y := by
  funext g i
  rw [ab_u_app, ab_u_app, ab_u_app]
  split <;> rfl
theorem cuts_u (S : ab_S) {q : Nat} (hq : q < 16) (x : Int) : ab_cuts (ab_u S 18 q x) = ab_cuts S + (x - S 18 q) := by
  unfold ab_cuts
  refine am_sum_up (d0 := q) hq (fun d _ => ?_)
  show ab_u S 18 q x 18 d = if d = q then S 18 d + (x - S 18 q) else S 18 d
  rw [ab_u_app]
  by_cases z : d = q
  · rw [if_pos ⟨rfl, z⟩, if_pos z, z]; omega
  · rw [if_neg (fun y => z y.2), if_neg z]
theorem cuts_b {S : ab_S} {b : Int} (h : ab_I S b) : am_sum (fun q => (((ub S q).toNat : Nat) : Int)) 16 = ab_cuts S := am_sum_cg (fun q hq => ub_n (h.2.2.2.2.2.2.1 q hq))
theorem cuts_r {S : ab_S} {b : Int} (h : ab_I S b) : 0 ≤ ab_cuts S ∧ ab_cuts S ≤ 16 := by
  have h1 : 0 ≤ ab_cuts S := sm_nn (fun q hq => by have := h.2.2.2.2.2.2.1 q hq; omega)
  have h2 : ab_cuts S ≤ am_sum (fun _ => 1) 16 := sm_le (fun q hq => by have := h.2.2.2.2.2.2.1 q hq; omega)
  rw [sm_const] at h2
  exact ⟨h1, h2⟩
theorem lfl_cg {S T : ab_S} (h : ∀ g i, (g < 13 ∨ g = 19) → T g i = S g i) : ∀ k : Nat, lfl T k = lfl S k
  | 0 => by rw [lfl, lfl, h 19 _ (by omega), h 19 _ (by omega)]
  | k + 1 => by rw [lfl, lfl, lfl_cg h k, h 4 _ (by omega), h 5 _ (by omega), h 6 _ (by omega), h 7 _ (by omega), h 9 _ (by omega), h 10 _ (by omega), h 11 _ (by omega)]
theorem lfl_cut (S : ab_S) (q : Nat) (x : Int) : lfl (ab_u S 18 q x) (ab_n (ab_u S 18 q x)) = lfl S (ab_n S) := by
  have e : ∀ g i, ¬ g = 18 → ab_u S 18 q x g i = S g i := fun g i z => by rw [ab_u_app, if_neg (by omega)]
  rw [n_cg (S := S) (e 19 4 (by omega)), lfl_cg (S := S) (fun g i hg => e g i (by omega))]
theorem lli_cg {S T : ab_S} (h : ∀ g i, (g = 13 ∨ g = 14 ∨ g = 16 ∨ g = 18 ∨ g = 24) → T g i = S g i) (h3 : T 19 3 = S 19 3) : ∀ k : Nat, lli T k = lli S k
  | 0 => by
    have e1 : ab_ret T = ab_ret S := am_sum_cg (fun L _ => ab_rs_cg h3 (fun t => h 24 _ (by omega)))
    have e2 : ab_qd T = ab_qd S := am_sum_cg (fun L _ => h 14 _ (by omega))
    rw [lli, lli, e1, e2]
  | k + 1 => by
    have e : ∀ a b, ab_um T a b = ab_um S a b := fun a b => by
      have : ∀ s, ab_us T a b s = ab_us S a b s := fun s => by unfold ab_us; rw [h 18 _ (by omega), h 18 _ (by omega)]
      unfold ab_um
      rw [this, this, this, this]
    rw [lli, lli, lli_cg h h3 k, h 14 _ (by omega), h 14 _ (by omega), h 14 _ (by omega), h 14 _ (by omega), h 13 _ (by omega), h 13 _ (by omega), h 16 _ (by omega), e]
theorem lli_add (S : ab_S) (a t p q : Int) : lli (ab_add S a t p q) 16 = lli S 16 :=
  lli_cg (fun g i hg => add_o _ _ _ _ _ _ (by omega) (by omega)) (add_o _ _ _ _ _ _ (by omega) (by omega)) 16
/-- a cut, and a restoring, whether they are refused or not -/
theorem cut_one {S : ab_S} {σ σ' : am_M} {r : Int} {a y : Nat} (ha : a < 4) (hy : y < 4) (hC : ab_C S σ) (h1 : S 18 (4 * a + y) = 0 ∨ S 18 (4 * a + y) = 1)
    (hp : (r = S 14 (32 + 4 * a + y) + S 14 (48 + 4 * y + a) ∧ ((0 ≤ (a : Int) ∧ (a : Int) < 4) ∧ (0 ≤ (y : Int) ∧ (y : Int) < 4)) ∧ S 18 (4 * a + y) = 0 ∧ ∃ u, ab_C (ab_u S 18 (4 * a + y) 1) u ∧ σ' = l_mix u σ) ∨ (r = -62 ∧ ¬ ((0 ≤ (a : Int) ∧ (a : Int) < 4) ∧ (0 ≤ (y : Int) ∧ (y : Int) < 4)) ∧ σ' = σ) ∨ (r = -63 ∧ ((0 ≤ (a : Int) ∧ (a : Int) < 4) ∧ (0 ≤ (y : Int) ∧ (y : Int) < 4)) ∧ ¬ S 18 (4 * a + y) = 0 ∧ σ' = σ)) :
    (∃ u, ab_C (ab_u S 18 (4 * a + y) 1) u ∧ σ' = l_mix u σ) ∧ r = if S 18 (4 * a + y) = 0 then S 14 (32 + 4 * a + y) + S 14 (48 + 4 * y + a) else -63 := by
  rcases hp with ⟨h2, -, h3, h4⟩ | ⟨-, h2, -⟩ | ⟨h2, -, h3, h4⟩
  · exact ⟨h4, by rw [if_pos h3]; exact h2⟩
  · exact absurd h2 (by omega)
  · refine ⟨⟨σ, ?_, by rw [h4, l_mix_s]⟩, by rw [if_neg h3]; exact h2⟩
    rw [au_same (show S 18 (4 * a + y) = 1 by omega)]; exact hC
theorem res_one {S : ab_S} {σ σ' : am_M} {r : Int} {a y : Nat} (ha : a < 4) (hy : y < 4) (hC : ab_C S σ) (h1 : S 18 (4 * a + y) = 0 ∨ S 18 (4 * a + y) = 1)
    (hp : (r = ab_cuts (ab_u S 18 (4 * a + y) 0) ∧ ((0 ≤ (a : Int) ∧ (a : Int) < 4) ∧ (0 ≤ (y : Int) ∧ (y : Int) < 4)) ∧ ¬ S 18 (4 * a + y) = 0 ∧ ∃ u, ab_C (ab_u S 18 (4 * a + y) 0) u ∧ σ' = l_mix u σ) ∨ (r = -62 ∧ ¬ ((0 ≤ (a : Int) ∧ (a : Int) < 4) ∧ (0 ≤ (y : Int) ∧ (y : Int) < 4)) ∧ σ' = σ) ∨ (r = -63 ∧ ((0 ≤ (a : Int) ∧ (a : Int) < 4) ∧ (0 ≤ (y : Int) ∧ (y : Int) < 4)) ∧ S 18 (4 * a + y) = 0 ∧ σ' = σ)) :
    (∃ u, ab_C (ab_u S 18 (4 * a + y) 0) u ∧ σ' = l_mix u σ) ∧ r = if S 18 (4 * a + y) = 0 then -63 else ab_cuts (ab_u S 18 (4 * a + y) 0) := by
  rcases hp with ⟨h2, -, h3, h4⟩ | ⟨-, h2, -⟩ | ⟨h2, -, h3, h4⟩
  · exact ⟨h4, by rw [if_neg h3]; exact h2⟩
  · exact absurd h2 (by omega)
  · refine ⟨⟨σ, ?_, by rw [h4, l_mix_s]⟩, by rw [if_pos h3]; exact h2⟩
    rw [au_same h3]; exact hC
