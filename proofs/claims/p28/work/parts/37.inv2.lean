/-! what the steps leave alone; the invariant under the rest of them -/
def ab_kp (g : Nat) : Prop := g = 0 ∨ g = 1 ∨ g = 2 ∨ g = 3 ∨ g = 10 ∨ g = 11 ∨ g = 12 ∨ g = 13 ∨ g = 15 ∨ g = 17 ∨ g = 18 ∨ g = 19
theorem ab_dlv_o (S : ab_S) (h g i : Nat) (q : ab_kp g ∨ g = 4 ∨ g = 6) : ab_dlv S h g i = S g i := by
  unfold ab_kp at q
  unfold ab_dlv
  split
  · rw [ab_drop_o _ _ _ _ (by omega), ab_u_app, if_neg (by omega), ab_got_o _ _ _ _ _ (by omega)]
  · rfl
theorem ab_dlvN_o (S : ab_S) (g i : Nat) (q : ab_kp g ∨ g = 4 ∨ g = 6) : ∀ k, ab_dlvN S k g i = S g i
  | 0 => rfl
  | k + 1 => by rw [ab_dlvN, ab_dlv_o _ _ _ _ q, ab_dlvN_o S g i q k]
theorem ab_lose_o (S : ab_S) (sp lf g i : Nat) (q : ab_kp g ∨ g = 4 ∨ g = 5 ∨ g = 7 ∨ g = 8 ∨ g = 9) : ab_lose S sp lf g i = S g i := by
  unfold ab_kp at q
  unfold ab_lose
  split
  · rw [ab_drop_o _ _ _ _ (by omega), ab_u_app, if_neg (by omega), ab_u_app, if_neg (by omega)]
  · rfl
theorem ab_loseN_o (S : ab_S) (g i : Nat) (q : ab_kp g ∨ g = 4 ∨ g = 5 ∨ g = 7 ∨ g = 8 ∨ g = 9) : ∀ k, ab_loseN S k g i = S g i
  | 0 => rfl
  | k + 1 => by rw [ab_loseN, ab_lose_o _ _ _ _ _ q, ab_loseN_o S g i q k]
theorem ab_cho_o (S : ab_S) (L g i : Nat) (q : ¬ (g = 23 ∧ i = 4 * L)) : ab_cho S L g i = S g i := by
  unfold ab_cho
  split
  · rw [ab_u_app, if_neg q]
  · rfl
theorem ab_choN_o (S : ab_S) (g i : Nat) (q : ¬ g = 23) : ∀ k, ab_choN S k g i = S g i
  | 0 => rfl
  | k + 1 => by rw [ab_choN, ab_cho_o _ _ _ _ (by omega), ab_choN_o S g i q k]
theorem ab_T_cg {S T : ab_S} (h : ∀ i, T 19 i = S 19 i) : ab_T T = ab_T S := by simp only [ab_T, h]
theorem I_lose {S : ab_S} {b : Int} (h : ab_I S b) {sp lf : Nat} (hs : sp < 4) (hl : lf < 4) (hb : b + 1 ≤ 100000000) : ab_I (ab_lose S sp lf) (b + 1) := by
  unfold ab_lose
  split
  · rename_i hn
    have i := h.2.2.2.2.2.2.2 (32 + 4 * lf + sp) 0 (by omega) (by simpa using hn.1)
    obtain ⟨i0, i1, -⟩ := i
    simp only [Nat.add_zero] at i0 i1
    have hf : ((ab_fl S (32 + 4 * lf + sp) : Nat) : Int) < S 19 4 := by unfold ab_fl; omega
    generalize ab_fl S (32 + 4 * lf + sp) = f at hf hn ⊢
    refine I_drop ?_ (by omega) (by rw [ab_u_app, if_neg (by omega), ab_u_app, if_neg (by omega)]; exact hn.1)
    refine I_flow h (by omega) hb (fun g i hg hn => ?_) (fun f' hf' => ?_) (fun k hk => ?_) (fun f' hf' => ?_)
    · rw [ab_u_app, if_neg (by omega), ab_u_app, if_neg (by omega)]
    · rw [ab_u_app, if_neg (by omega), ab_u_app, if_neg (by omega), ab_u_app, if_neg (by omega), ab_u_app, if_neg (by omega)]; exact ⟨rfl, rfl⟩
    · have := (h.2.2.2.2.2.1 k hk).1
      rw [ab_u_app]
      split
      · rename_i z
        obtain ⟨-, rfl⟩ := z
        omega
      · rw [ab_u_app, if_neg (by omega)]; omega
    · have i := h.2.2.1 f' hf'
      have e : ∀ g, g < 13 → ab_u (ab_u S 6 f (S 6 f + 1)) 16 (S 1 f).toNat (S 16 (S 1 f).toNat - 1) g f' = ab_u S 6 f (S 6 f + 1) g f' := fun g hg => by rw [ab_u_app, if_neg (by omega)]
      refine ab_If_cg (S := ab_u S 6 f (S 6 f + 1)) (Int.le_refl _) e ?_
      unfold ab_If at i ⊢
      rw [ab_far_cg (S := S) (by rw [ab_u_app, if_neg (by omega)]) (by rw [ab_u_app, if_neg (by omega)])]
      have e2 : ∀ g, ¬ g = 6 → ab_u S 6 f (S 6 f + 1) g f' = S g f' := fun g hg => by rw [ab_u_app, if_neg (by omega)]
      rw [e2 0 (by omega), e2 1 (by omega), e2 2 (by omega), e2 3 (by omega), e2 4 (by omega), e2 5 (by omega), e2 7 (by omega), e2 8 (by omega), e2 9 (by omega), e2 10 (by omega), e2 11 (by omega), e2 12 (by omega)]
      obtain ⟨i0, i1, i2, i3, i4, i5, i6, i7, i8, i9, i10, i11, i12, i13, i14⟩ := i
      refine ⟨i0, i1, i2, i3, by omega, by omega, ?_, by omega, by omega, i9, by omega, i11, i12, i13, i14⟩
      rw [ab_u_app]
      split
      · rename_i z
        obtain ⟨-, rfl⟩ := z
        omega
      · omega
  · exact ab_I_mono (by omega) hb h
theorem I_loseN {S : ab_S} {b : Int} (h : ab_I S b) (hb : b + 16 ≤ 100000000) : ∀ k : Nat, k ≤ 16 → ab_I (ab_loseN S k) (b + k)
  | 0, _ => by simpa [ab_loseN] using h
  | k + 1, hk => by
    have := I_lose (I_loseN h hb k (by omega)) (sp := k / 4) (lf := k % 4) (by omega) (by omega) (by omega)
    rw [ab_loseN, show b + ((k + 1 : Nat) : Int) = b + (k : Int) + 1 by omega]
    exact this
theorem ab_nth_rng (u0 u1 u2 u3 : Bool) (p : Int) : -1 ≤ ab_nth u0 u1 u2 u3 p ∧ ab_nth u0 u1 u2 u3 p ≤ 3 := by
  unfold ab_nth
  split
  · omega
  · split
    · omega
    · split
      · omega
      · split <;> omega
theorem ab_chosen_rng (S : ab_S) (f : Nat) (k : Int) : -1 ≤ ab_chosen S f k ∧ ab_chosen S f k ≤ 3 := by
  unfold ab_chosen
  split
  · omega
  · exact ab_nth_rng _ _ _ _ _
theorem I_cho {S : ab_S} {b : Int} (h : ab_I S b) {L : Nat} (hL : L < 64) : ab_I (ab_cho S L) b := by
  unfold ab_cho
  split
  · rename_i hn
    have hr := ab_chosen_rng S (ab_fl S L) (S 22 (4 * L))
    generalize hx : ab_chosen S (ab_fl S L) (S 22 (4 * L)) = x at hr hn ⊢
    have h0 := h
    obtain ⟨h1, h2, h3, h4, h5, h6, h7, h8⟩ := h
    have e : ∀ g i, ¬ g = 23 → ab_u S 23 (4 * L) x g i = S g i := fun g i q => by rw [ab_u_app, if_neg (by omega)]
    refine ⟨h1, ?_, ?_, ?_, ?_, ?_, ?_, ?_⟩
    · simp only [e 19 _ (by omega)]; exact h2
    · intro f hf; rw [e 19 _ (by omega)] at hf; exact ab_If_cg (Int.le_refl _) (fun j hj => e j _ (by omega)) (h3 f hf)
    · intro L' hL'
      rw [e 13 _ (by omega), e 14 _ (by omega), e 15 _ (by omega), ab_rs_cg (S := S) (e 19 _ (by omega)) (fun t => e 24 _ (by omega))]
      exact h4 L' hL'
    · intro L' t hL'; rw [e 24 _ (by omega), e 19 _ (by omega)]; exact h5 L' t hL'
    · intro k hk; rw [e 16 _ (by omega), e 17 _ (by omega)]; exact h6 k hk
    · intro q hq; rw [e 18 _ (by omega)]; exact h7 q hq
    · intro L' j hL' hj
      rw [e 14 _ (by omega)] at hj
      have hs := h0.s4 hL'
      have i := h8 L' j hL' hj
      unfold ab_Iq at i ⊢
      rw [e 20 _ (by omega), e 21 _ (by omega), e 22 _ (by omega), e 19 _ (by omega), e 0 _ (by omega), e 1 _ (by omega), ab_far_cg (S := S) (e 0 _ (by omega)) (e 1 _ (by omega)), ab_u_app]
      obtain ⟨i0, i1, i2, i3, i4, i5, i6⟩ := i
      split
      · refine ⟨i0, i1, i2, by omega, fun z => ⟨(i4 z).1, fun z2 => ⟨((i4 z).2 z2).1, ?_⟩⟩, i5, i6⟩
        omega
      · exact ⟨i0, i1, i2, i3, i4, i5, i6⟩
  · exact h
theorem I_choN {S : ab_S} {b : Int} (h : ab_I S b) : ∀ k : Nat, k ≤ 64 → ab_I (ab_choN S k) b
  | 0, _ => h
  | k + 1, hk => I_cho (I_choN h k (by omega)) (by omega)
theorem I_back {S : ab_S} {b : Int} (h : ab_I S b) : ab_I (ab_back S 64) b := by
  have h0 := h
  obtain ⟨h1, h2, h3, h4, h5, h6, h7, h8⟩ := h
  have e := ab_back_o S 64
  refine ⟨h1, ?_, ?_, ?_, ?_, ?_, ?_, ?_⟩
  · simp only [e 19 _ (by omega)]; exact h2
  · intro f hf; rw [e 19 _ (by omega)] at hf; exact ab_If_cg (Int.le_refl _) (fun j hj => e j _ (by omega)) (h3 f hf)
  · intro L hL
    obtain ⟨a1, a2, a3, a4⟩ := h4 L hL
    have hp := (h5 L (S 19 3).toNat hL).1
    rw [ab_back13, if_pos hL, e 14 _ (by omega), e 15 _ (by omega)]
    have : ab_rs S L = ab_rs (ab_back S 64) L + S 24 (64 * (S 19 3).toNat + L) := by
      simp only [ab_rs, e 19 _ (by omega)]
      refine am_sum_up (d0 := 0) (by omega) (fun d hd => ?_)
      rw [ab_back24]
      by_cases q : d = 0
      · subst q; rw [if_pos rfl, if_pos (by omega)]; simp
      · rw [if_neg q, if_neg (by omega)]
    exact ⟨by omega, a2, by omega, a4⟩
  · intro L t hL
    obtain ⟨a1, a2⟩ := h5 L t hL
    rw [ab_back24, e 19 _ (by omega)]
    split
    · exact ⟨by omega, fun _ => rfl⟩
    · exact ⟨a1, a2⟩
  · intro k hk; rw [e 16 _ (by omega), e 17 _ (by omega)]; exact h6 k hk
  · intro q hq; rw [e 18 _ (by omega)]; exact h7 q hq
  · intro L j hL hj
    rw [e 14 _ (by omega)] at hj
    exact ab_Iq_cg (S := S) (j := j) (Int.le_refl _) (e 19 _ (by omega)) (fun f _ => ⟨e 0 _ (by omega), e 1 _ (by omega)⟩) (fun x hx => e _ _ (by omega)) (h8 L j hL hj)
/-- what is freed in this tick: nothing of the present slot -/
def ab_clr (S : ab_S) : Prop := ∀ L, L < 64 → S 24 (64 * (S 19 3).toNat + L) = 0
