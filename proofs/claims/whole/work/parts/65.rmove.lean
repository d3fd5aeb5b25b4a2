/-! what was picked moves, in the model's order -/
def rl_take (σ : am_M) (L q : Nat) : am_M := am_up (am_up (am_up (am_up σ 51 0 L (σ 43 0 (4 * q))) 52 0 L (σ 44 0 (4 * q))) 53 0 L (σ 45 0 (4 * q))) 54 0 L (σ 46 0 (4 * q))
theorem rl_take_o (σ : am_M) (L q : Nat) {k : Nat} (i j : Nat) (h : ¬ (51 ≤ k ∧ k ≤ 54)) : rl_take σ L q k i j = σ k i j := by
  unfold rl_take
  rw [am_up_app, if_neg (by omega), am_up_app, if_neg (by omega), am_up_app, if_neg (by omega), am_up_app, if_neg (by omega)]
def ab_Q4 (S : ab_S) (σ : am_M) (i q : Nat) : Prop := σ 51 0 i = S 20 (4 * q) ∧ σ 52 0 i = S 21 (4 * q) ∧ σ 54 0 i = S 22 (4 * q) ∧ σ 53 0 i = S 23 (4 * q)
def MVR (S : ab_S) (k : Nat) (σ : am_M) : Prop := ∀ i, 16 ≤ i → i < k → ¬ ab_pick S i = -1 → ab_Q4 S σ i (ab_qat i (ab_pick S i).toNat)
theorem rpk_iff (S : ab_S) (L : Nat) : (rpk S L = -1 ↔ ab_pick S L = -1) ∧ (¬ ab_pick S L = -1 → rpk S L = ((ab_qat L (ab_pick S L).toNat : Nat) : Int)) := by
  unfold rpk
  refine ⟨?_, fun z => by rw [if_neg z]⟩
  split
  · rename_i z; exact ⟨fun _ => z, fun _ => rfl⟩
  · rename_i z; exact ⟨fun y => by omega, fun y => absurd y z⟩
theorem Z14_b {S : ab_S} {b : Int} (h : ab_I S b) {XQ XC X D : Nat → Bool} {K M L : Nat} (hL : L < 64) (hD : ab_1 (D L) ≤ S 14 L) (hX : 16 ≤ L → X L = true → 0 < S 13 L) :
    0 ≤ ab_Z S XQ XC X D K M 14 L ∧ ab_Z S XQ XC X D K M 14 L ≤ 4 ∧ (0 < S 13 L → (16 ≤ L → X L = false) → (L < 16 → M ≤ L) → ab_Z S XQ XC X D K M 14 L < 4) := by
  have hs := h.s4 hL
  have h1 := ab_1r (D L)
  have h2 := ab_1r (X L)
  have hh := H_rng (K := M) h (L := L)
  rw [Z14]
  by_cases h16 : L < 16
  · simp only [if_pos h16]
    by_cases hM : L < M ∧ ¬ ab_F S L = -1
    · rw [if_pos hM] at hh ⊢
      omega
    · rw [if_neg hM]
      omega
  · simp only [if_neg h16]
    cases hx : X L with
    | true =>
      have := hX (by omega) hx
      rw [ab_1t]
      refine ⟨by omega, by omega, fun _ z _ => ?_⟩
      exact absurd (z (by omega)) (by decide)
    | false => rw [ab_1f]; omega
/-- the queues lose their firsts -/
def ab_DP (S : ab_S) (k : Nat) : ab_S := ab_Z S (ab_Yr 64) (ab_XS S (ab_Yr 64)) ab_NX (ab_DS S (ab_Yr k)) 16 0
theorem DP_16 (S : ab_S) : ab_DP S 16 = ab_HP S 16 := by
  unfold ab_DP ab_HP
  rw [DS_none0 Yr_16]
theorem DP_b {S : ab_S} {b : Int} (h : ab_I S b) {k L : Nat} (hL : L < 64) : 0 ≤ ab_DP S k 14 L ∧ ab_DP S k 14 L ≤ 4 := by
  have := Z14_b h (XQ := ab_Yr 64) (XC := ab_XS S (ab_Yr 64)) (X := ab_NX) (D := ab_DS S (ab_Yr k)) (K := 16) (M := 0) hL (D_rng h hL).2.2 (fun _ z => by simp [ab_NX] at z)
  exact ⟨this.1, this.2.1⟩
theorem DP_same {S : ab_S} {L : Nat} (h1 : 16 ≤ L) (hp : ab_pick S L = -1) : ab_DP S (L + 1) = ab_DP S L := by
  unfold ab_DP
  rw [DS_none (Yr_S h1) hp]
theorem DP_o {S : ab_S} {k : Nat} (i : Nat) : ab_DP S k 19 i = S 19 i := Zo (by omega) i
theorem DP_rd {S : ab_S} {b : Int} {σ : am_M} (h : ab_I S b) {L : Nat} (h1 : 16 ≤ L) (h2 : L < 64) (hp : ¬ ab_pick S L = -1) (hR : ab_R (ab_DP S L) σ) :
    ab_qat L (ab_pick S L).toNat < 64 ∧ (1 ≤ σ 39 0 (ab_qat L (ab_pick S L).toNat) ∧ σ 39 0 (ab_qat L (ab_pick S L).toNat) ≤ 4) ∧ 0 < ab_DP S L 14 (ab_qat L (ab_pick S L).toNat) ∧
    (σ 43 0 (4 * ab_qat L (ab_pick S L).toNat) = S 20 (4 * ab_qat L (ab_pick S L).toNat) ∧ σ 44 0 (4 * ab_qat L (ab_pick S L).toNat) = S 21 (4 * ab_qat L (ab_pick S L).toNat) ∧ σ 46 0 (4 * ab_qat L (ab_pick S L).toNat) = S 22 (4 * ab_qat L (ab_pick S L).toNat) ∧ σ 45 0 (4 * ab_qat L (ab_pick S L).toNat) = S 23 (4 * ab_qat L (ab_pick S L).toNat)) := by
  obtain ⟨p1, p2, p3, p4, p5⟩ := pk_fact h h2 hp
  have hq := qat_lt h1 h2 p4
  have hno := DS_no h h2 (Y := ab_Yr L) (Yr_no L) hp
  generalize ab_qat L (ab_pick S L).toNat = q at p1 hq hno ⊢
  have hw := ab_w_pos h hq.1 (by omega : ¬ ab_w S q = -1)
  have hz : ab_DP S L 14 q = S 14 q := by
    unfold ab_DP
    rw [Z14, hno, ab_1f, if_neg (by omega : ¬ (q < 0 ∧ ¬ ab_F S q = -1)), show ab_1 (ab_NX q) = 0 from rfl]
    split <;> omega
  have hs := h.s4 hq.1
  have e39 := (hR.2.2.2.1 q hq.1).1
  have hx : ∀ x, x < 4 → ab_DP S L (20 + x) (4 * q) = S (20 + x) (4 * q) := fun x hx => by
    unfold ab_DP
    rw [ZQ hx, if_neg (by omega), if_neg (by simp [ab_NX]), show 4 * q / 4 = q by omega, if_neg (by rw [hno]; decide)]
  have hh := R_hd hR hq.1 (by rw [hz]; exact hw)
  refine ⟨hq.1, by omega, by omega, ?_⟩
  have x0 := hx 0 (by omega)
  have x1 := hx 1 (by omega)
  have x2 := hx 2 (by omega)
  have x3 := hx 3 (by omega)
  simp only [Nat.add_zero, Nat.reduceAdd] at x0 x1 x2 x3
  rw [x0, x1, x2, x3] at hh
  exact hh
theorem DP_next {S : ab_S} {b : Int} {σ : am_M} (h : ab_I S b) {L : Nat} (h1 : 16 ≤ L) (h2 : L < 64) (hp : ¬ ab_pick S L = -1) (hR : ab_R (ab_DP S L) σ) (hP : PKR S 64 σ) (hN : SNR S 16 σ) (hM : MVR S L σ) :
    ab_R (ab_DP S (L + 1)) (rl_drop (rl_take σ L (ab_qat L (ab_pick S L).toNat)) (ab_qat L (ab_pick S L).toNat) (ab_T S % 8)) ∧
    PKR S 64 (rl_drop (rl_take σ L (ab_qat L (ab_pick S L).toNat)) (ab_qat L (ab_pick S L).toNat) (ab_T S % 8)) ∧
    SNR S 16 (rl_drop (rl_take σ L (ab_qat L (ab_pick S L).toNat)) (ab_qat L (ab_pick S L).toNat) (ab_T S % 8)) ∧
    MVR S (L + 1) (rl_drop (rl_take σ L (ab_qat L (ab_pick S L).toNat)) (ab_qat L (ab_pick S L).toNat) (ab_T S % 8)) := by
  obtain ⟨r1, r2, r3, r4⟩ := DP_rd h h1 h2 hp hR
  have hds := DS_step h h2 (Yr_S h1) hp
  have hno := DS_no h h2 (Y := ab_Yr L) (Yr_no L) hp
  have hc := h.2.1
  have c0 : ab_R (ab_DP S L) (rl_take σ L (ab_qat L (ab_pick S L).toNat)) := R_tmp hR (fun k i j q => by unfold rk_t at q; exact rl_take_o _ _ _ i j (by omega))
  have c1 := R_drop c0 (q := ab_qat L (ab_pick S L).toNat) (sl := ab_T S % 8) r1 r3 (fun L' hL' => (DP_b h hL').2) (by rw [DP_o]; exact hc.2.2.2.1.1) (by rw [DP_o]; exact hc.1) (by rw [ab_T_cg (S := S) (T := ab_DP S L) (fun i => DP_o i)])
  have z := Z_drop (S := S) (XQ := ab_Yr 64) (XC := ab_XS S (ab_Yr 64)) (X := ab_NX) (K := 16) (M := 0) r1 hno (fun L' hL' => (DP_b h hL').2)
  have c2 := R_eq z c1
  rw [← hds] at c2
  refine ⟨c2, fun i z1 z2 => ?_, fun i hi => ?_, fun i z1 z2 z3 => ?_⟩
  · rw [rl_drop_o _ _ _ _ _ (by omega), rl_take_o _ _ _ _ _ (by omega)]; exact hP i z1 z2
  · rw [rl_drop_o _ _ _ _ _ (by omega), rl_take_o _ _ _ _ _ (by omega)]; exact hN i hi
  · unfold ab_Q4
    rw [rl_drop_o _ _ _ _ _ (by omega), rl_drop_o _ _ _ _ _ (by omega), rl_drop_o _ _ _ _ _ (by omega), rl_drop_o _ _ _ _ _ (by omega)]
    by_cases e : i = L
    · subst e
      simp only [rl_take, am_up_app, Nat.reduceEqDiff, false_and, if_false, true_and, if_true]
      exact r4
    · have := hM i z1 (by omega) z3
      unfold ab_Q4 at this
      simp only [rl_take, am_up_app, e, and_false, if_false]
      exact this
/-- the hosts' packets are put -/
def ab_MP (S : ab_S) (k : Nat) : ab_S := ab_Z S (ab_Yr 64) (ab_XS S (ab_Yr 64)) ab_NX (ab_DS S (ab_Yr 64)) 16 k
theorem MP_0 (S : ab_S) : ab_MP S 0 = ab_DP S 64 := rfl
theorem MP_same {S : ab_S} {k : Nat} (hF : ab_F S k = -1) : ab_MP S (k + 1) = ab_MP S k := by
  unfold ab_MP; exact Z_M0 hF
theorem MP_fl {S : ab_S} {h f : Nat} (h0 : h ≤ (S 0 f).toNat) (j : Nat) (hj : j < 13) : ab_MP S h j f = S j f := by
  unfold ab_MP
  by_cases e4 : j = 4
  · subst e4; rw [Z4, if_neg (by omega)]; omega
  · by_cases e10 : j = 10
    · subst e10; rw [Z10, if_neg (by omega)]; omega
    · by_cases e11 : j = 11
      · subst e11; rw [Z11, if_neg (by omega)]
      · by_cases e12 : j = 12
        · subst e12; rw [Z12, if_neg (by omega)]
        · rw [Zo (by omega)]
theorem MP_o {S : ab_S} {k : Nat} (i : Nat) : ab_MP S k 19 i = S 19 i := Zo (by omega) i
theorem MP_b {S : ab_S} {b : Int} (h : ab_I S b) {k L : Nat} (hL : L < 64) : 0 ≤ ab_MP S k 14 L ∧ ab_MP S k 14 L ≤ 4 ∧ (L < 16 → k ≤ L → 0 < S 13 L → ab_MP S k 14 L < 4) := by
  have := Z14_b h (XQ := ab_Yr 64) (XC := ab_XS S (ab_Yr 64)) (X := ab_NX) (D := ab_DS S (ab_Yr 64)) (K := 16) (M := k) hL (D_rng h hL).2.2 (fun _ z => by simp [ab_NX] at z)
  exact ⟨this.1, this.2.1, fun z1 z2 z3 => this.2.2 z3 (fun _ => rfl) (fun _ => z2)⟩
def rl_Na (S : ab_S) (σ : am_M) (f : Nat) : am_M := if ab_new S f = true then am_up (am_up σ 36 0 f (ab_chosen S f (S 10 f))) 35 0 f (S 10 f + 1) else σ
theorem rl_Na_o (S : ab_S) (σ : am_M) (f : Nat) {k : Nat} (i j : Nat) (h : ¬ (k = 35 ∨ k = 36)) : rl_Na S σ f k i j = σ k i j := by
  unfold rl_Na
  split
  · rw [am_up_app, if_neg (by omega), am_up_app, if_neg (by omega)]
  · rfl
theorem rl_Na_35 {S : ab_S} {σ : am_M} {f : Nat} (h : σ 35 0 f = S 10 f) : rl_Na S σ f 35 0 f = S 10 f + ab_1 (ab_new S f) := by
  unfold rl_Na
  cases hn : ab_new S f with
  | true => rw [if_pos rfl, am_up_app, if_pos ⟨rfl, rfl, rfl⟩, ab_1t]
  | false => rw [if_neg (by decide), h, ab_1f]; omega
theorem rl_Na_36 {S : ab_S} {σ : am_M} {f : Nat} (h : σ 36 0 f = S 11 f) : rl_Na S σ f 36 0 f = ab_pk S f 3 := by
  unfold rl_Na ab_pk
  cases hn : ab_new S f with
  | true => rw [if_pos rfl, am_up_app, if_neg (by omega), am_up_app, if_pos ⟨rfl, rfl, rfl⟩]; simp
  | false => rw [if_neg (by decide), h]; simp
def rl_make (S : ab_S) (σ : am_M) (h f : Nat) : am_M := am_up (am_up (am_up (am_up (am_up (am_up (rl_Na S σ f) 51 0 h (f : Int)) 52 0 h (S 4 f)) 53 0 h (ab_pk S f 3)) 54 0 h (S 10 f + ab_1 (ab_new S f) - 1)) 37 0 f (S 19 3)) 29 0 f (S 4 f + 1)
theorem rl_make_o (S : ab_S) (σ : am_M) (h f : Nat) {k : Nat} (i j : Nat) (q : ¬ (k = 29 ∨ (35 ≤ k ∧ k ≤ 37) ∨ (51 ≤ k ∧ k ≤ 54))) : rl_make S σ h f k i j = σ k i j := by
  unfold rl_make
  rw [am_up_app, if_neg (by omega), am_up_app, if_neg (by omega), am_up_app, if_neg (by omega), am_up_app, if_neg (by omega), am_up_app, if_neg (by omega), am_up_app, if_neg (by omega), rl_Na_o _ _ _ _ _ (by omega)]
theorem rl_make_mv (S : ab_S) (σ : am_M) (h f : Nat) : rl_make S σ h f 51 0 h = ab_pk S f 0 ∧ rl_make S σ h f 52 0 h = ab_pk S f 1 ∧ rl_make S σ h f 54 0 h = ab_pk S f 2 ∧ rl_make S σ h f 53 0 h = ab_pk S f 3 := by
  refine ⟨?_, ?_, ?_, ?_⟩
  · simp [rl_make, am_up_app, ab_pk]
  · simp [rl_make, am_up_app, ab_pk]
  · simp [rl_make, am_up_app, ab_pk]
  · simp [rl_make, am_up_app]
theorem rl_make_mo (S : ab_S) (σ : am_M) (h f : Nat) {k i : Nat} (hk : 51 ≤ k ∧ k ≤ 54) (hi : ¬ i = h) : rl_make S σ h f k 0 i = σ k 0 i := by
  unfold rl_make
  rw [am_up_app, if_neg (by omega), am_up_app, if_neg (by omega), am_up_app, if_neg (by omega), am_up_app, if_neg (by omega), am_up_app, if_neg (by omega), am_up_app, if_neg (by omega), rl_Na_o _ _ _ _ _ (by omega)]
theorem R_make {S T : ab_S} {σ : am_M} (hR : ab_R T σ) {h f : Nat} (hf : ∀ j, j < 13 → T j f = S j f) : ab_R (ab_V S T f) (rl_make S σ h f) := by
  have c1 : ab_R (if ab_new S f = true then ab_u (ab_u T 11 f (ab_chosen S f (S 10 f))) 10 f (S 10 f + 1) else T) (rl_Na S σ f) := by
    unfold rl_Na
    split
    · exact R_u (R_u hR (g := 11) (k := 36) (i := f) (by unfold rk_p; omega) _) (g := 10) (k := 35) (i := f) (by unfold rk_p; omega) _
    · exact hR
  have c2 : ab_R (if ab_new S f = true then ab_u (ab_u T 11 f (ab_chosen S f (S 10 f))) 10 f (S 10 f + 1) else T) (am_up (am_up (am_up (am_up (rl_Na S σ f) 51 0 h (f : Int)) 52 0 h (S 4 f)) 53 0 h (ab_pk S f 3)) 54 0 h (S 10 f + ab_1 (ab_new S f) - 1)) :=
    R_tmp c1 (fun k i j q => by unfold rk_t at q; rw [am_up_app, if_neg (by omega), am_up_app, if_neg (by omega), am_up_app, if_neg (by omega), am_up_app, if_neg (by omega)])
  have c3 := R_u c2 (g := 12) (k := 37) (i := f) (by unfold rk_p; omega) (S 19 3)
  have c4 := R_u c3 (g := 4) (k := 29) (i := f) (by unfold rk_p; omega) (S 4 f + 1)
  refine R_ext (fun g i => ?_) c4
  rw [ab_u_app, ab_u_app]
  unfold ab_V
  by_cases e : i = f
  · subst e
    by_cases h4 : g = 4
    · subst h4; simp
    · by_cases h12 : g = 12
      · subst h12; simp
      · rw [if_neg (show ¬ (g = 4 ∧ i = i) by omega), if_neg (show ¬ (g = 12 ∧ i = i) by omega), if_neg (show ¬ (g = 4 ∧ i = i) by omega), if_neg (show ¬ (g = 12 ∧ i = i) by omega)]
        by_cases h10 : g = 10
        · subst h10
          rw [if_pos (show 10 = 10 ∧ i = i from ⟨rfl, rfl⟩)]
          cases hn : ab_new S i with
          | true => rw [if_pos rfl, ab_u_app, if_pos (show 10 = 10 ∧ i = i from ⟨rfl, rfl⟩)]; rfl
          | false => rw [if_neg (by decide), hf 10 (by omega), ab_1f]; omega
        · rw [if_neg (show ¬ (g = 10 ∧ i = i) by omega)]
          by_cases h11 : g = 11
          · subst h11
            rw [if_pos (show 11 = 11 ∧ i = i from ⟨rfl, rfl⟩)]
            cases hn : ab_new S i with
            | true => rw [if_pos rfl, if_pos rfl, ab_u_app, if_neg (show ¬ (11 = 10 ∧ i = i) by omega), ab_u_app, if_pos (show 11 = 11 ∧ i = i from ⟨rfl, rfl⟩)]
            | false => rw [if_neg (show ¬ (false = true) by decide), if_neg (show ¬ (false = true) by decide), hf 11 (by omega)]
          · rw [if_neg (show ¬ (g = 11 ∧ i = i) by omega)]
            split
            · rw [ab_u_app, if_neg (by omega), ab_u_app, if_neg (by omega)]
            · rfl
  · rw [if_neg (show ¬ (g = 4 ∧ i = f) by omega), if_neg (show ¬ (g = 12 ∧ i = f) by omega), if_neg (show ¬ (g = 4 ∧ i = f) by omega), if_neg (show ¬ (g = 12 ∧ i = f) by omega), if_neg (show ¬ (g = 10 ∧ i = f) by omega), if_neg (show ¬ (g = 11 ∧ i = f) by omega)]
    split
    · rw [ab_u_app, if_neg (by omega), ab_u_app, if_neg (by omega)]
    · rfl
theorem MP_next {S : ab_S} {b : Int} {σ : am_M} (h : ab_I S b) {k f : Nat} (hk : k < 16) (hF : ab_F S k = (f : Int)) (hR : ab_R (ab_MP S k) σ) (hP : PKR S 64 σ) (hN : SNR S 16 σ) (hM : MVR S 64 σ) :
    (0 ≤ rl_make S σ k f 39 0 k ∧ rl_make S σ k f 39 0 k < 4) ∧ ab_R (ab_MP S (k + 1)) (rl_put (rl_make S σ k f) k (ab_pk S f 0) (ab_pk S f 1) (ab_pk S f 2) (ab_pk S f 3)) ∧
    PKR S 64 (rl_put (rl_make S σ k f) k (ab_pk S f 0) (ab_pk S f 1) (ab_pk S f 2) (ab_pk S f 3)) ∧ SNR S 16 (rl_put (rl_make S σ k f) k (ab_pk S f 0) (ab_pk S f 1) (ab_pk S f 2) (ab_pk S f 3)) ∧ MVR S 64 (rl_put (rl_make S σ k f) k (ab_pk S f 0) (ab_pk S f 1) (ab_pk S f 2) (ab_pk S f 3)) := by
  obtain ⟨f1, f2, f3, f4⟩ := F_fact h (k := k) (by omega)
  have m0 := (may_fact f4).1
  rw [hF, Int.toNat_natCast] at m0
  have hfl : ∀ j, j < 13 → ab_MP S k j f = S j f := MP_fl (by omega)
  have c1 := R_make (S := S) (h := k) hR hfl
  have hb := MP_b h (k := k) (L := k) (by omega)
  have eV : ∀ L, ab_V S (ab_MP S k) f 14 L = ab_MP S k 14 L := fun L => ab_V_o _ _ _ _ _ (by omega)
  have e39 : rl_make S σ k f 39 0 k = ab_MP S k 14 k := by rw [rl_make_o _ _ _ _ _ _ (by omega), (hR.2.2.2.1 k (by omega)).1]
  have c2 := R_put c1 (L := k) (by omega) (by rw [eV]; exact ⟨hb.1, hb.2.2 hk (Nat.le_refl _) f3⟩) (fun L hL => by rw [eV]; exact (MP_b h hL).2.1) (ab_pk S f 0) (ab_pk S f 1) (ab_pk S f 2) (ab_pk S f 3)
  have z := Z_M (S := S) (XQ := ab_Yr 64) (XC := ab_XS S (ab_Yr 64)) (X := ab_NX) (D := ab_DS S (ab_Yr 64)) (K := 16) (M := k) hk hF m0 ⟨hb.1, hb.2.2 hk (Nat.le_refl _) f3⟩ (fun L hL => (MP_b h (k := k) hL).2.1) (a := ab_pk S f 0) (b := ab_pk S f 1) (c := ab_pk S f 2) (d := ab_pk S f 3) (fun x hx => by match x, hx with | 0, _ => rfl | 1, _ => rfl | 2, _ => rfl | 3, _ => rfl)
  refine ⟨by rw [e39]; exact ⟨hb.1, hb.2.2 hk (Nat.le_refl _) f3⟩, R_eq z c2, fun i z1 z2 => ?_, fun i hi => ?_, fun i z1 z2 z3 => ?_⟩
  · rw [rl_put_o _ _ _ _ _ _ _ _ (by omega), rl_make_o _ _ _ _ _ _ (by omega)]; exact hP i z1 z2
  · rw [rl_put_o _ _ _ _ _ _ _ _ (by omega), rl_make_o _ _ _ _ _ _ (by omega)]; exact hN i hi
  · have := hM i z1 z2 z3
    unfold ab_Q4 at this ⊢
    rw [rl_put_o _ _ _ _ _ _ _ _ (by omega), rl_put_o _ _ _ _ _ _ _ _ (by omega), rl_put_o _ _ _ _ _ _ _ _ (by omega), rl_put_o _ _ _ _ _ _ _ _ (by omega), rl_make_mo _ _ _ _ (by omega) (by omega), rl_make_mo _ _ _ _ (by omega) (by omega), rl_make_mo _ _ _ _ (by omega) (by omega), rl_make_mo _ _ _ _ (by omega) (by omega)]
    exact this
/-- the links' packets are put -/
def ab_AP (S : ab_S) (k : Nat) : ab_S := ab_Z S (ab_Yr 64) (ab_XS S (ab_Yr 64)) (ab_XS S (ab_Yr k)) (ab_DS S (ab_Yr 64)) 16 16
theorem AP_16 (S : ab_S) : ab_AP S 16 = ab_MP S 16 := by
  unfold ab_AP ab_MP
  rw [XS_none0 Yr_16]
theorem AP_same {S : ab_S} {L : Nat} (h1 : 16 ≤ L) (hp : ab_pick S L = -1) : ab_AP S (L + 1) = ab_AP S L := by
  unfold ab_AP
  rw [XS_none (Yr_S h1) hp]
theorem AP_b {S : ab_S} {b : Int} (h : ab_I S b) {k L : Nat} (hL : L < 64) : 0 ≤ ab_AP S k 14 L ∧ ab_AP S k 14 L ≤ 4 ∧ (16 ≤ L → k ≤ L → 0 < S 13 L → ab_AP S k 14 L < 4) := by
  have := Z14_b h (XQ := ab_Yr 64) (XC := ab_XS S (ab_Yr 64)) (X := ab_XS S (ab_Yr k)) (D := ab_DS S (ab_Yr 64)) (K := 16) (M := 16) hL (D_rng h hL).2.2 (fun _ z => (XS_pos h hL z).1)
  refine ⟨this.1, this.2.1, fun z1 z2 z3 => this.2.2 z3 (fun _ => XS_no ?_) (fun z => by omega)⟩
  unfold ab_Yr
  rw [decide_eq_false (show ¬ L < k by omega), Bool.and_false]
theorem Yr_Yk : ab_Yr 64 = ab_Yk 48 := by
  funext i
  unfold ab_Yr ab_Yk
  by_cases h : 16 ≤ i ∧ i < 64
  · rw [decide_eq_true h.1, decide_eq_true h.2, decide_eq_true (ab_ord_lt h)]; rfl
  · have : ¬ ab_ord i < 48 := by
      unfold ab_ord
      split
      · omega
      · split
        · omega
        · split
          · omega
          · omega
    rw [decide_eq_false this]
    by_cases h1 : 16 ≤ i
    · rw [decide_eq_false (show ¬ i < 64 by omega), Bool.and_false]
    · rw [decide_eq_false h1]; rfl
theorem AP_64 (S : ab_S) : ab_AP S 64 = ab_MS S 16 := by
  unfold ab_AP ab_MS
  rw [Yr_Yk]
theorem AP_next {S : ab_S} {b : Int} {σ : am_M} (h : ab_I S b) {L : Nat} (h1 : 16 ≤ L) (h2 : L < 64) (hp : ¬ ab_pick S L = -1) (hR : ab_R (ab_AP S L) σ) (hP : PKR S 64 σ) (hM : MVR S 64 σ) :
    (0 ≤ σ 39 0 L ∧ σ 39 0 L < 4) ∧ ab_R (ab_AP S (L + 1)) (rl_put σ L (σ 51 0 L) (σ 52 0 L) (σ 54 0 L) (σ 53 0 L)) ∧ PKR S 64 (rl_put σ L (σ 51 0 L) (σ 52 0 L) (σ 54 0 L) (σ 53 0 L)) ∧ MVR S 64 (rl_put σ L (σ 51 0 L) (σ 52 0 L) (σ 54 0 L) (σ 53 0 L)) := by
  obtain ⟨p1, p2, p3, p4, p5⟩ := pk_fact h h2 hp
  have hb := AP_b h (k := L) h2
  have e39 := (hR.2.2.2.1 L h2).1
  have hno : ab_XS S (ab_Yr L) L = false := XS_no (Yr_no L)
  obtain ⟨m1, m2, m3, m4⟩ := hM L h1 h2 hp
  have c2 := R_put hR (L := L) h2 ⟨hb.1, hb.2.2 h1 (Nat.le_refl _) p2⟩ (fun L' hL' => (AP_b h hL').2.1) (σ 51 0 L) (σ 52 0 L) (σ 54 0 L) (σ 53 0 L)
  have z := Z_put (S := S) (XQ := ab_Yr 64) (XC := ab_XS S (ab_Yr 64)) (X := ab_XS S (ab_Yr L)) (D := ab_DS S (ab_Yr 64)) (K := 16) (M := 16) h1 h2 hno ⟨hb.1, hb.2.2 h1 (Nat.le_refl _) p2⟩ (fun L' hL' => (AP_b h (k := L) hL').2.1) (a := σ 51 0 L) (b := σ 52 0 L) (c := σ 54 0 L) (d := σ 53 0 L) (fun x hx => by match x, hx with | 0, _ => exact m1 | 1, _ => exact m2 | 2, _ => exact m3 | 3, _ => exact m4)
  have c3 := R_eq z c2
  rw [← XS_step (Yr_S h1) hp] at c3
  refine ⟨by rw [e39]; exact ⟨hb.1, hb.2.2 h1 (Nat.le_refl _) p2⟩, c3, fun i z1 z2 => ?_, fun i z1 z2 z3 => ?_⟩
  · rw [rl_put_o _ _ _ _ _ _ _ _ (by omega)]; exact hP i z1 z2
  · have := hM i z1 z2 z3
    unfold ab_Q4 at this ⊢
    rw [rl_put_o _ _ _ _ _ _ _ _ (by omega), rl_put_o _ _ _ _ _ _ _ _ (by omega), rl_put_o _ _ _ _ _ _ _ _ (by omega), rl_put_o _ _ _ _ _ _ _ _ (by omega)]
    exact this
theorem R_tickN {S : ab_S} {b : Int} (h : ab_I S b) (hb : b + 48 ≤ 100000000) {σ : am_M} (hR : ab_R (ab_MS (ab_tA S) 16) σ) : ab_R (ab_tick S) (am_up σ 20 0 3 (S 19 3 + 1)) := by
  have ho := tick_o S
  have e3 : ab_MS (ab_tA S) 16 19 3 = S 19 3 := by rw [MS_o (by omega)]; exact ho.2.2.2 3
  have hM := I_MS (I_tA h hb) (by omega) (k := 16) (by omega)
  have := R_tick hR (by rw [e3]; exact h.2.1.2.2.2.1.1) (fun L hL => by rw [e3]; exact clr_MS h hL) (fun L hL => (hM.2.2.2.2.1 L _ hL).2 (by have := h.2.1.2.2.2.1; omega))
  rw [e3] at this
  exact this
