/-! the calls that change the state, in plain words -/
def ab_new0 (d g w : Int) : ab_S := fun f i =>
  if f = 13 then 4 else if f = 15 ∨ f = 17 then -1 else if f = 19 then (if i = 0 then d else if i = 1 then g else if i = 2 then w else 0) else 0
def ab_okR (d g w : Int) : Prop := (0 ≤ d ∧ d ≤ 5) ∧ (1 ≤ g ∧ g ≤ 50) ∧ (1 ≤ w ∧ w ≤ 16)
def ab_J (S : ab_S) : Prop := ∀ f : Nat, (f : Int) < S 19 4 → S 4 f - S 6 f ≤ S 2 f
theorem new0_o (d g w : Int) {f : Nat} (i : Nat) (h : ¬ (f = 13 ∨ f = 15 ∨ f = 17 ∨ f = 19)) : ab_new0 d g w f i = 0 := by
  unfold ab_new0; rw [if_neg (by omega), if_neg (by omega), if_neg (by omega)]
theorem new0_v (d g w : Int) (i : Nat) : ab_new0 d g w 13 i = 4 ∧ ab_new0 d g w 15 i = -1 ∧ ab_new0 d g w 17 i = -1 ∧ ab_new0 d g w 19 0 = d ∧ ab_new0 d g w 19 1 = g ∧ ab_new0 d g w 19 2 = w ∧ ab_new0 d g w 19 3 = 0 ∧ ab_new0 d g w 19 4 = 0 := by
  simp [ab_new0]
theorem am_sum0 {f : Nat → Int} : ∀ n : Nat, (∀ d, d < n → f d = 0) → am_sum f n = 0
  | 0, _ => rfl
  | n + 1, h => by rw [am_sum, am_sum0 n (fun d hd => h d (by omega)), h n (by omega)]; rfl
theorem I_new0 {d g w : Int} (h : ab_okR d g w) : ab_I (ab_new0 d g w) 0 := by
  obtain ⟨h1, h2, h3⟩ := h
  have v := new0_v d g w
  refine ⟨by omega, ?_, ?_, ?_, ?_, ?_, ?_, ?_⟩
  · rw [(v 0).2.2.2.1, (v 0).2.2.2.2.1, (v 0).2.2.2.2.2.1, (v 0).2.2.2.2.2.2.1, (v 0).2.2.2.2.2.2.2]
    omega
  · intro f hf; rw [(v 0).2.2.2.2.2.2.2] at hf; omega
  · intro L hL
    have hr : ab_rs (ab_new0 d g w) L = 0 := am_sum0 _ (fun d _ => new0_o _ _ _ _ (by omega))
    rw [(v L).1, (v L).2.1, new0_o d g w (f := 14) L (by omega), hr]
    omega
  · intro L t hL; rw [new0_o _ _ _ _ (by omega)]; exact ⟨by omega, fun _ => rfl⟩
  · intro k hk; rw [(v k).2.2.1, new0_o _ _ _ _ (by omega)]; omega
  · intro q hq; exact Or.inl (new0_o _ _ _ _ (by omega))
  · intro L j hL hj; rw [new0_o _ _ _ _ (by omega)] at hj; omega
theorem J_new0 (d g w : Int) : ab_J (ab_new0 d g w) := fun f hf => by rw [(new0_v d g w 0).2.2.2.2.2.2.2] at hf; omega
/-! a flow is added -/
def ab_okA (s t p l : Int) : Prop := (0 ≤ s ∧ s < 16) ∧ (0 ≤ t ∧ t < 16) ∧ ¬ t = s ∧ (1 ≤ p ∧ p ≤ 100) ∧ (0 ≤ l ∧ l ≤ 100)
def ab_nf13 (S : ab_S) (s t p l : Int) (f : Nat) : Int := if f = 0 then s else if f = 1 then t else if f = 2 then p else if f = 3 then S 19 3 + l else if f < 8 then 0 else if f = 10 then 0 else -1
def ab_add (S : ab_S) (s t p l : Int) : ab_S := fun f i => if f < 13 ∧ i = (S 19 4).toNat then ab_nf13 S s t p l f else if f = 19 ∧ i = 4 then S 19 4 + 1 else S f i
theorem add_o (S : ab_S) (s t p l : Int) {f : Nat} (i : Nat) (h : ¬ (f < 13 ∧ i = (S 19 4).toNat)) (h2 : ¬ (f = 19 ∧ i = 4)) : ab_add S s t p l f i = S f i := by
  unfold ab_add; rw [if_neg h, if_neg h2]
theorem add_n (S : ab_S) (s t p l : Int) {f i : Nat} (h : f < 13) (hi : i = (S 19 4).toNat) : ab_add S s t p l f i = ab_nf13 S s t p l f := by
  unfold ab_add; rw [if_pos ⟨h, hi⟩]
theorem add_c (S : ab_S) (s t p l : Int) : ab_add S s t p l 19 4 = S 19 4 + 1 := by
  unfold ab_add; rw [if_neg (by omega), if_pos ⟨rfl, rfl⟩]
theorem I_add {S : ab_S} {b s t p l : Int} (h : ab_I S b) (ho : ab_okA s t p l) (hn : S 19 4 < 24) : ab_I (ab_add S s t p l) b := by
  have h0 := h
  obtain ⟨h1, h2, h3, h4, h5, h6, h7, h8⟩ := h
  obtain ⟨o1, o2, o3, o4, o5⟩ := ho
  have e : ∀ g i, 13 ≤ g → ¬ (g = 19 ∧ i = 4) → ab_add S s t p l g i = S g i := fun g i z z2 => add_o _ _ _ _ _ _ (by omega) z2
  refine ⟨h1, ?_, ?_, ?_, ?_, ?_, ?_, ?_⟩
  · rw [e 19 0 (by omega) (by omega), e 19 1 (by omega) (by omega), e 19 2 (by omega) (by omega), e 19 3 (by omega) (by omega), add_c]
    omega
  · intro f hf
    rw [add_c] at hf
    by_cases q : f = (S 19 4).toNat
    · subst q
      have a : ∀ j, j < 13 → ab_add S s t p l j (S 19 4).toNat = ab_nf13 S s t p l j := fun j hj => add_n _ _ _ _ _ hj rfl
      unfold ab_If
      rw [a 0 (by omega), a 1 (by omega), a 2 (by omega), a 3 (by omega), a 4 (by omega), a 5 (by omega), a 6 (by omega), a 7 (by omega), a 8 (by omega), a 9 (by omega), a 10 (by omega), a 11 (by omega), a 12 (by omega)]
      simp only [ab_nf13, Nat.reduceEqDiff, Nat.reduceLT, if_true, if_false]
      refine ⟨o1, o2, o4, by omega, by omega, by omega, by omega, by omega, by omega, by omega, by omega, by omega, by omega, fun _ => by simp, fun _ => by simp⟩
    · exact ab_If_cg (Int.le_refl _) (fun j hj => add_o _ _ _ _ _ _ (by omega) (by omega)) (h3 f (by omega))
  · intro L hL
    rw [e 13 _ (by omega) (by omega), e 14 _ (by omega) (by omega), e 15 _ (by omega) (by omega), ab_rs_cg (S := S) (e 19 3 (by omega) (by omega)) (fun t => e 24 _ (by omega) (by omega))]
    exact h4 L hL
  · intro L t' hL
    rw [e 24 _ (by omega) (by omega), e 19 3 (by omega) (by omega)]; exact h5 L t' hL
  · intro k hk; rw [e 16 _ (by omega) (by omega), e 17 _ (by omega) (by omega)]; exact h6 k hk
  · intro q hq; rw [e 18 _ (by omega) (by omega)]; exact h7 q hq
  · intro L j hL hj
    rw [e 14 _ (by omega) (by omega)] at hj
    have i := h8 L j hL hj
    unfold ab_Iq at i ⊢
    obtain ⟨i0, i1, i2, i3, i4, i5, i6⟩ := i
    have ef : ∀ g, g < 13 → ab_add S s t p l g (S 20 (4 * L + j)).toNat = S g (S 20 (4 * L + j)).toNat := fun g hg => add_o _ _ _ _ _ _ (by omega) (by omega)
    rw [e 20 _ (by omega) (by omega), e 21 _ (by omega) (by omega), e 22 _ (by omega) (by omega), e 23 _ (by omega) (by omega), add_c, ab_far_cg (ef 0 (by omega)) (ef 1 (by omega)), ef 0 (by omega), ef 1 (by omega)]
    exact ⟨⟨i0.1, by omega⟩, i1, i2, i3, i4, i5, i6⟩
theorem J_add {S : ab_S} {s t p l : Int} (h : ab_J S) (hp : 1 ≤ p) : ab_J (ab_add S s t p l) := fun f hf => by
  rw [add_c] at hf
  by_cases q : f = (S 19 4).toNat
  · rw [add_n _ _ _ _ _ (by omega) q, add_n _ _ _ _ _ (by omega) q, add_n _ _ _ _ _ (by omega) q]
    simp only [ab_nf13, Nat.reduceEqDiff, Nat.reduceLT, if_true, if_false]
    omega
  · rw [add_o _ _ _ _ _ _ (by omega) (by omega), add_o _ _ _ _ _ _ (by omega) (by omega), add_o _ _ _ _ _ _ (by omega) (by omega)]
    exact h f (by omega)
/-! a connection is cut, or restored -/
theorem I_cut {S : ab_S} {b x : Int} (h : ab_I S b) (hx : x = 0 ∨ x = 1) (q : Nat) : ab_I (ab_u S 18 q x) b := by
  obtain ⟨h1, h2, h3, h4, h5, h6, h7, h8⟩ := h
  have e : ∀ g i, ¬ g = 18 → ab_u S 18 q x g i = S g i := fun g i z => by rw [ab_u_app, if_neg (by omega)]
  refine ⟨h1, ?_, ?_, ?_, ?_, ?_, ?_, ?_⟩
  · simp only [e 19 _ (by omega)]; exact h2
  · intro f hf; rw [e 19 _ (by omega)] at hf; exact ab_If_cg (Int.le_refl _) (fun j hj => e j _ (by omega)) (h3 f hf)
  · intro L hL
    rw [e 13 _ (by omega), e 14 _ (by omega), e 15 _ (by omega), ab_rs_cg (S := S) (e 19 _ (by omega)) (fun t => e 24 _ (by omega))]
    exact h4 L hL
  · intro L t hL; rw [e 24 _ (by omega), e 19 _ (by omega)]; exact h5 L t hL
  · intro k hk; rw [e 16 _ (by omega), e 17 _ (by omega)]; exact h6 k hk
  · intro q' hq
    rw [ab_u_app]
    split
    · exact hx
    · exact h7 q' hq
  · intro L j hL hj
    rw [e 14 _ (by omega)] at hj
    exact ab_Iq_cg (S := S) (j := j) (Int.le_refl _) (e 19 _ (by omega)) (fun f _ => ⟨e 0 _ (by omega), e 1 _ (by omega)⟩) (fun x hx => e _ _ (by omega)) (h8 L j hL hj)
theorem J_cut {S : ab_S} {x : Int} (h : ab_J S) (q : Nat) : ab_J (ab_u S 18 q x) := fun f hf => by
  rw [ab_u_app, if_neg (by omega)] at hf
  rw [ab_u_app, if_neg (by omega), ab_u_app, if_neg (by omega), ab_u_app, if_neg (by omega)]
  exact h f hf
/-! ticks pass -/
def ab_pass (S : ab_S) : Nat → ab_S
  | 0 => S
  | n + 1 => ab_tick (ab_pass S n)
def ab_passC (S : ab_S) : Nat → Int
  | 0 => 0
  | n + 1 => ab_passC S n + ab_tickC (ab_pass S n)
theorem tick_193 (S : ab_S) : ab_tick S 19 3 = S 19 3 + 1 ∧ ab_tick S 19 4 = S 19 4 := by
  have ho := tick_o S
  unfold ab_tick
  rw [ab_u_app, if_pos ⟨rfl, rfl⟩, ab_u_app, if_neg (by omega), MS_o (by omega)]
  exact ⟨rfl, ho.2.2.2 4⟩
theorem pass_193 (S : ab_S) : ∀ n : Nat, ab_pass S n 19 3 = S 19 3 + n ∧ ab_pass S n 19 4 = S 19 4
  | 0 => by simp [ab_pass]
  | n + 1 => by
    have := pass_193 S n
    rw [ab_pass, (tick_193 _).1, (tick_193 _).2]
    omega
theorem I_pass {S : ab_S} {b : Int} (h : ab_I S b) : ∀ n : Nat, b + 48 * n ≤ 100000000 → S 19 3 + n ≤ 100000 → ab_I (ab_pass S n) (b + 48 * n)
  | 0, _, _ => by simpa [ab_pass] using h
  | n + 1, hb, hc => by
    have := I_tick (I_pass h n (by omega) (by omega)) (by omega) (by rw [(pass_193 S n).1]; omega)
    rw [ab_pass, show b + 48 * ((n + 1 : Nat) : Int) = b + 48 * (n : Int) + 48 by omega]
    exact this
theorem lose6 (S : ab_S) (sp lf f : Nat) : S 6 f ≤ ab_lose S sp lf 6 f := by
  unfold ab_lose
  split
  · rw [ab_drop_o _ _ _ _ (by omega), ab_u_app, if_neg (by omega), ab_u_app]
    split
    · rename_i z; rw [z.2]; omega
    · exact Int.le_refl _
  · exact Int.le_refl _
theorem loseN6 (S : ab_S) (f : Nat) : ∀ k : Nat, S 6 f ≤ ab_loseN S k 6 f
  | 0 => Int.le_refl _
  | k + 1 => Int.le_trans (loseN6 S f k) (by rw [ab_loseN]; exact lose6 _ _ _ _)
theorem J_tick {S : ab_S} {b : Int} (h : ab_I S b) (hb : b + 48 ≤ 100000000) (hJ : ab_J S) : ab_J (ab_tick S) := fun f hf => by
  rw [(tick_193 S).2] at hf
  have hA := I_tA h hb
  have a0 : ∀ g, (g = 2 ∨ g = 4) → ab_tA S g f = S g f := fun g hg => by
    unfold ab_tA
    rw [ab_choN_o _ _ _ (by omega), ab_loseN_o _ _ _ (by unfold ab_kp; omega), ab_dlvN_o _ _ _ (by unfold ab_kp; omega), ab_back_o _ _ _ _ (by omega)]
  have a6 : S 6 f ≤ ab_tA S 6 f := by
    unfold ab_tA
    rw [ab_choN_o _ _ _ (by omega)]
    have := loseN6 (ab_dlvN (ab_back S 64) 16) f 16
    rw [ab_dlvN_o _ _ _ (by unfold ab_kp; omega), ab_back_o _ _ _ _ (by omega)] at this
    exact this
  have hj := hJ f hf
  unfold ab_tick
  rw [ab_u_app, if_neg (by omega), ab_u_app, if_neg (by omega), ab_u_app, if_neg (by omega), MS_o (f := 2) (by omega), a0 2 (by omega)]
  unfold ab_MS
  rw [Z4, Zo (f := 6) (by omega), a0 4 (by omega)]
  split
  · rename_i z
    have ff := F_fact hA (k := (ab_tA S 0 f).toNat) (by omega)
    have m := (may_fact ff.2.2.2).2.2.1
    rw [z.2, Int.toNat_natCast, a0 4 (by omega), a0 2 (by omega)] at m
    omega
  · omega
theorem J_pass {S : ab_S} {b : Int} (h : ab_I S b) (hJ : ab_J S) : ∀ n : Nat, b + 48 * n ≤ 100000000 → S 19 3 + n ≤ 100000 → ab_J (ab_pass S n)
  | 0, _, _ => hJ
  | n + 1, hb, hc => J_tick (I_pass h n (by omega) (by omega)) (by omega) (J_pass h hJ n (by omega) (by omega))
/-! the component's memory -/
theorem C_add {S : ab_S} {σ σ' : am_M} (h : ab_C S σ) (hn : 0 ≤ S 19 4) {s t p l : Int} (hf : ∀ j, j < 13 → σ' 9 (S 19 4).toNat j = ab_nf13 S s t p l j) (h8 : σ' 0 0 8 = S 19 4 + 1)
    (ho : ∀ k i j : Nat, ¬ (k = 9 ∧ i = (S 19 4).toNat) → ¬ (k = 0 ∧ j = 8) → σ' k i j = σ k i j) : ab_C (ab_add S s t p l) σ' := by
  obtain ⟨h1, h2, h3, h4, h5, h6, h7⟩ := h
  have e : ∀ g i, 13 ≤ g → ¬ (g = 19 ∧ i = 4) → ab_add S s t p l g i = S g i := fun g i z z2 => add_o _ _ _ _ _ _ (by omega) z2
  refine ⟨?_, ?_, ?_, ?_, ?_, ?_, ?_⟩
  · rw [add_c, e 19 3 (by omega) (by omega), e 19 0 (by omega) (by omega), e 19 1 (by omega) (by omega), e 19 2 (by omega) (by omega), h8, ho 0 0 9 (by omega) (by omega), ho 0 0 10 (by omega) (by omega), ho 0 0 11 (by omega) (by omega), ho 0 0 12 (by omega) (by omega)]
    exact ⟨rfl, h1.2⟩
  · intro f j hfl hj
    rw [add_c] at hfl
    by_cases q : f = (S 19 4).toNat
    · rw [add_n _ _ _ _ _ hj q, q]; exact hf j hj
    · rw [add_o _ _ _ _ _ _ (by omega) (by omega), ho 9 f j (by omega) (by omega)]; exact h2 f j (by omega) hj
  · intro k hk; rw [e 16 _ (by omega) (by omega), e 17 _ (by omega) (by omega), ho 10 _ _ (by omega) (by omega), ho 10 _ _ (by omega) (by omega)]; exact h3 k hk
  · intro L hL; rw [e 13 _ (by omega) (by omega), e 14 _ (by omega) (by omega), e 15 _ (by omega) (by omega), ho 11 _ 2 (by omega) (by omega), ho 11 _ 3 (by omega) (by omega), ho 11 _ 4 (by omega) (by omega), ho 11 _ 5 (by omega) (by omega)]; exact h4 L hL
  · intro L j x hL hj hx
    rw [e 14 _ (by omega) (by omega)] at hj
    rw [e _ _ (by omega) (by omega), ho 14 _ _ (by omega) (by omega), ho 11 _ 2 (by omega) (by omega)]; exact h5 L j x hL hj hx
  · intro L t' hL ha hb
    rw [e 19 3 (by omega) (by omega)] at ha hb
    rw [e 24 _ (by omega) (by omega), ho 13 _ _ (by omega) (by omega)]; exact h6 L t' hL ha hb
  · intro a ha
    rw [ab_mask_cg (S := ab_add S s t p l) (T := S) (fun q => e 18 q (by omega) (by omega)), ho 8 _ _ (by omega) (by omega)]; exact h7 a ha
theorem mask_u (S : ab_S) {a s : Nat} (hs : s < 4) (x : Int) (a' : Nat) (ha : a < 4) (ha' : a' < 4) : ab_mask (ab_u S 18 (4 * a + s) x) a' = if a' = a then ab_mask S a - ((2 ^ s : Nat) : Int) * (x - S 18 (4 * a + s)) else ab_mask S a' := by
  unfold ab_mask
  simp only [ab_u_app, true_and]
  by_cases q : a' = a
  · subst q
    rw [if_pos rfl]
    match s, hs with
    | 0, _ => simp only [Nat.add_zero, Nat.add_left_cancel_iff, if_true]; rw [if_neg (by omega), if_neg (by omega), if_neg (by omega)]; simp; omega
    | 1, _ => rw [if_neg (by omega), if_pos rfl, if_neg (by omega), if_neg (by omega)]; simp; omega
    | 2, _ => rw [if_neg (by omega), if_neg (by omega), if_pos rfl, if_neg (by omega)]; simp; omega
    | 3, _ => rw [if_neg (by omega), if_neg (by omega), if_neg (by omega), if_pos rfl]; simp; omega
  · rw [if_neg q, if_neg (by omega), if_neg (by omega), if_neg (by omega), if_neg (by omega)]
theorem C_cut {S : ab_S} {σ : am_M} (h : ab_C S σ) {a s : Nat} (ha : a < 4) (hs : s < 4) (x : Int) : ab_C (ab_u S 18 (4 * a + s) x) (am_up σ 8 0 a (ab_mask S a - ((2 ^ s : Nat) : Int) * (x - S 18 (4 * a + s)))) := by
  obtain ⟨h1, h2, h3, h4, h5, h6, h7⟩ := h
  have e : ∀ g i, ¬ g = 18 → ab_u S 18 (4 * a + s) x g i = S g i := fun g i z => by rw [ab_u_app, if_neg (by omega)]
  have o : ∀ k i j : Nat, ¬ k = 8 → am_up σ 8 0 a (ab_mask S a - ((2 ^ s : Nat) : Int) * (x - S 18 (4 * a + s))) k i j = σ k i j := fun k i j z => by rw [am_up_app, if_neg (by omega)]
  refine ⟨?_, ?_, ?_, ?_, ?_, ?_, ?_⟩
  · simp only [e 19 _ (by omega), o 0 _ _ (by omega)]; exact h1
  · intro f j hf hj; rw [e 19 _ (by omega)] at hf; rw [e j _ (by omega), o 9 _ _ (by omega)]; exact h2 f j hf hj
  · intro k hk; rw [e 16 _ (by omega), e 17 _ (by omega), o 10 _ _ (by omega), o 10 _ _ (by omega)]; exact h3 k hk
  · intro L hL; rw [e 13 _ (by omega), e 14 _ (by omega), e 15 _ (by omega), o 11 _ _ (by omega), o 11 _ _ (by omega), o 11 _ _ (by omega), o 11 _ _ (by omega)]; exact h4 L hL
  · intro L j x' hL hj hx
    rw [e 14 _ (by omega)] at hj
    rw [e _ _ (by omega), o 14 _ _ (by omega), o 11 _ _ (by omega)]; exact h5 L j x' hL hj hx
  · intro L t hL h9 h10
    rw [e 19 _ (by omega)] at h9 h10
    rw [e 24 _ (by omega), o 13 _ _ (by omega)]; exact h6 L t hL h9 h10
  · intro a' ha'
    rw [mask_u S hs x a' ha ha', am_up_app]
    by_cases q : a' = a
    · rw [if_pos ⟨rfl, rfl, q⟩, if_pos q]
    · rw [if_neg (by omega), if_neg q]; exact h7 a' ha'
/-! what the calls tell -/
def ab_ret (S : ab_S) : Int := am_sum (fun L => ab_rs S L) 64
def ab_qd (S : ab_S) : Int := am_sum (fun L => S 14 L) 64
def ab_cuts (S : ab_S) : Int := am_sum (fun q => S 18 q) 16
theorem rot7 (g : Nat → Int) (c : Nat) : am_sum (fun d => g ((c + d) % 7)) 7 = am_sum g 7 := by
  simp only [am_sum]
  have h : c % 7 = 0 ∨ c % 7 = 1 ∨ c % 7 = 2 ∨ c % 7 = 3 ∨ c % 7 = 4 ∨ c % 7 = 5 ∨ c % 7 = 6 := by omega
  rcases h with h | h | h | h | h | h | h
  · rw [show (c + 0) % 7 = 0 by omega, show (c + 1) % 7 = 1 by omega, show (c + 2) % 7 = 2 by omega, show (c + 3) % 7 = 3 by omega, show (c + 4) % 7 = 4 by omega, show (c + 5) % 7 = 5 by omega, show (c + 6) % 7 = 6 by omega]
  · rw [show (c + 0) % 7 = 1 by omega, show (c + 1) % 7 = 2 by omega, show (c + 2) % 7 = 3 by omega, show (c + 3) % 7 = 4 by omega, show (c + 4) % 7 = 5 by omega, show (c + 5) % 7 = 6 by omega, show (c + 6) % 7 = 0 by omega]; omega
  · rw [show (c + 0) % 7 = 2 by omega, show (c + 1) % 7 = 3 by omega, show (c + 2) % 7 = 4 by omega, show (c + 3) % 7 = 5 by omega, show (c + 4) % 7 = 6 by omega, show (c + 5) % 7 = 0 by omega, show (c + 6) % 7 = 1 by omega]; omega
  · rw [show (c + 0) % 7 = 3 by omega, show (c + 1) % 7 = 4 by omega, show (c + 2) % 7 = 5 by omega, show (c + 3) % 7 = 6 by omega, show (c + 4) % 7 = 0 by omega, show (c + 5) % 7 = 1 by omega, show (c + 6) % 7 = 2 by omega]; omega
  · rw [show (c + 0) % 7 = 4 by omega, show (c + 1) % 7 = 5 by omega, show (c + 2) % 7 = 6 by omega, show (c + 3) % 7 = 0 by omega, show (c + 4) % 7 = 1 by omega, show (c + 5) % 7 = 2 by omega, show (c + 6) % 7 = 3 by omega]; omega
  · rw [show (c + 0) % 7 = 5 by omega, show (c + 1) % 7 = 6 by omega, show (c + 2) % 7 = 0 by omega, show (c + 3) % 7 = 1 by omega, show (c + 4) % 7 = 2 by omega, show (c + 5) % 7 = 3 by omega, show (c + 6) % 7 = 4 by omega]; omega
  · rw [show (c + 0) % 7 = 6 by omega, show (c + 1) % 7 = 0 by omega, show (c + 2) % 7 = 1 by omega, show (c + 3) % 7 = 2 by omega, show (c + 4) % 7 = 3 by omega, show (c + 5) % 7 = 4 by omega, show (c + 6) % 7 = 5 by omega]; omega
theorem C_rs {S : ab_S} {σ : am_M} (h : ab_C S σ) (hc : 0 ≤ S 19 3) {L : Nat} (hL : L < 64) : am_sum (σ 13 L) 7 = ab_rs S L := by
  rw [← rot7 (σ 13 L) (S 19 3).toNat]
  unfold ab_rs
  exact am_sum_cg (fun d hd => h.2.2.2.2.2.1 L _ hL (by omega) (by omega))
theorem mask_um {S : ab_S} (hq : ∀ q : Nat, q < 16 → S 18 q = 0 ∨ S 18 q = 1) {a : Nat} (ha : a < 4) : ab_mask S a = ab_um S a a ∧ ab_many S a a = 4 - (S 18 (4 * a) + S 18 (4 * a + 1) + S 18 (4 * a + 2) + S 18 (4 * a + 3)) := by
  have e : ∀ s, s < 4 → ab_1 (ab_us S a a s) = 1 - S 18 (4 * a + s) := fun s hs => by
    unfold ab_us ab_1
    rcases hq (4 * a + s) (by omega) with z | z <;> rw [z] <;> rfl
  unfold ab_mask ab_um ab_many
  rw [e 0 (by omega), e 1 (by omega), e 2 (by omega), e 3 (by omega)]
  simp only [Nat.add_zero]
  exact ⟨trivial, by omega⟩
