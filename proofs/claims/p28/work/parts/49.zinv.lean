/-! the invariant of the state between picking and the end of a tick -/
theorem nth_nn (u0 u1 u2 u3 : Bool) (p : Int) (h0 : 0 ≤ p) (h : p < ab_1 u0 + ab_1 u1 + ab_1 u2 + ab_1 u3) : 0 ≤ ab_nth u0 u1 u2 u3 p := by
  cases u0 <;> cases u1 <;> cases u2 <;> cases u3 <;> simp only [ab_1, if_true, if_false, Bool.false_eq_true, reduceIte] at h <;> simp only [ab_nth, ab_1, if_true, if_false, Bool.false_eq_true, reduceIte, true_and, false_and] <;> (repeat' split) <;> omega
theorem chosen_nn {S : ab_S} {f : Nat} {k : Int} (h : ¬ ab_many S (ab_la S f) (ab_lb S f) = 0) : 0 ≤ ab_chosen S f k := by
  have hm := ab_many_rng S (ab_la S f) (ab_lb S f)
  rw [ab_chosen, if_neg h]
  refine nth_nn _ _ _ _ _ (Int.emod_nonneg _ h) ?_
  exact Int.emod_lt_of_pos _ (by omega)
theorem ab_op_rng (S : ab_S) (t : Nat) : ∀ K : Nat, S 16 t ≤ ab_op S K t ∧ ab_op S K t ≤ S 16 t + K
  | 0 => by simp [ab_op]
  | K + 1 => by
    have := ab_op_rng S t K
    rw [ab_opS]
    split <;> omega
section ZINV
variable {S : ab_S} {b : Int} {Y Y2 : Nat → Bool} {K : Nat}
theorem D_rng (h : ab_I S b) {L : Nat} (hL : L < 64) : 0 ≤ ab_1 (ab_DS S Y L) ∧ ab_1 (ab_DS S Y L) ≤ 1 ∧ ab_1 (ab_DS S Y L) ≤ S 14 L := by
  have hs := h.s4 hL
  have h1 := ab_1r (ab_DS S Y L)
  cases hd : ab_DS S Y L with
  | true => have := DS_pos h hL hd; rw [ab_1t]; omega
  | false => rw [ab_1f]; omega
theorem X_rng (h : ab_I S b) {L : Nat} (hL : L < 64) : 0 ≤ ab_1 (ab_XS S Y L) ∧ ab_1 (ab_XS S Y L) ≤ 1 ∧ ab_1 (ab_XS S Y L) ≤ S 13 L := by
  have hs := h.s4 hL
  cases hd : ab_XS S Y L with
  | true => have := (XS_pos h hL hd).1; rw [ab_1t]; omega
  | false => rw [ab_1f]; omega
theorem H_rng (h : ab_I S b) {L : Nat} : 0 ≤ (if L < K ∧ ¬ ab_F S L = -1 then (1 : Int) else 0) ∧ (if L < K ∧ ¬ ab_F S L = -1 then (1 : Int) else 0) ≤ 1 ∧ (0 ≤ S 13 L → (if L < K ∧ ¬ ab_F S L = -1 then (1 : Int) else 0) ≤ S 13 L) := by
  split
  · rename_i q
    have := (F_fact h q.2).2.2.1
    omega
  · omega
/-- the links of the state, where credits and packets go together -/
theorem Z_lk (h : ab_I S b) {L : Nat} (hL : L < 64) : 0 ≤ ab_Z S Y2 (ab_XS S Y) (ab_XS S Y) (ab_DS S Y) K K 13 L ∧ 0 ≤ ab_Z S Y2 (ab_XS S Y) (ab_XS S Y) (ab_DS S Y) K K 14 L ∧ ab_Z S Y2 (ab_XS S Y) (ab_XS S Y) (ab_DS S Y) K K 14 L ≤ 4 ∧ ab_Z S Y2 (ab_XS S Y) (ab_XS S Y) (ab_DS S Y) K K 13 L + ab_Z S Y2 (ab_XS S Y) (ab_XS S Y) (ab_DS S Y) K K 14 L + ab_1 (ab_DS S Y L) = S 13 L + S 14 L := by
  have hs := h.s4 hL
  have hd := D_rng (Y := Y) h hL
  rw [Z13, Z14]
  by_cases h16 : L < 16
  · simp only [if_pos h16]
    have hh := H_rng (K := K) h (L := L)
    generalize (if L < K ∧ ¬ ab_F S L = -1 then (1 : Int) else 0) = v at hh ⊢
    omega
  · simp only [if_neg h16]
    have hx := X_rng (Y := Y) h hL
    omega
theorem I_Z (h : ab_I S b) (hb : b + 16 ≤ 100000000) (hK : K ≤ 16) : ab_I (ab_Z S Y2 (ab_XS S Y) (ab_XS S Y) (ab_DS S Y) K K) (b + 16) := by
  have h0 := h
  obtain ⟨h1, h2, h3, h4, h5, h6, h7, h8⟩ := h
  have e19 : ∀ i, ab_Z S Y2 (ab_XS S Y) (ab_XS S Y) (ab_DS S Y) K K 19 i = S 19 i := Zo (by omega)
  have hT := ab_T_lt h0
  have hc := h2.2.2.2.1
  refine ⟨by omega, ?_, ?_, ?_, ?_, ?_, ?_, ?_⟩
  · simp only [e19]; exact h2
  · intro f hf
    rw [e19] at hf
    have i := h3 f hf
    unfold ab_If at i ⊢
    rw [ab_far_cg (S := S) (Zo (by omega) f) (Zo (by omega) f), Zo (f := 0) (by omega), Zo (f := 1) (by omega), Zo (f := 2) (by omega), Zo (f := 3) (by omega), Zo (f := 5) (by omega), Zo (f := 6) (by omega), Zo (f := 7) (by omega), Zo (f := 8) (by omega), Zo (f := 9) (by omega), Z4, Z10, Z11, Z12]
    obtain ⟨i0, i1, i2, i3, i4, i5, i6, i7, i8, i9, i10, i11, i12, i13, i14⟩ := i
    by_cases c : (S 0 f).toNat < K ∧ ab_F S (S 0 f).toNat = (f : Int)
    · have c3 : ((S 0 f).toNat < K ∧ ab_F S (S 0 f).toNat = (f : Int) ∧ ab_new S f = true) = (ab_new S f = true) := propext ⟨fun z => z.2.2, fun z => ⟨c.1, c.2, z⟩⟩
      simp only [if_pos c, c3]
      have hm := (may_fact (F_fact h0 (k := (S 0 f).toNat) (by omega)).2.2.2).2.2.2.1
      rw [c.2, Int.toNat_natCast] at hm
      have h1r := ab_1r (ab_new S f)
      have hcr := ab_chosen_rng S f (S 10 f)
      have hnw : ab_far S f = true → ab_new S f = false → ¬ S 10 f = 0 := fun a z y => by simp [ab_new, a, y] at z
      refine ⟨i0, i1, i2, i3, by omega, by omega, by omega, by omega, by omega, i9, by omega, ?_, by omega, fun hfar => ⟨⟨fun z => by omega, fun z => ?_⟩, fun z => ?_⟩, fun hfar => ?_⟩
      · split <;> omega
      · cases hn : ab_new S f with
        | true => rw [hn, ab_1t] at z; omega
        | false => rw [hn, ab_1f] at z; exact absurd (by omega) (hnw hfar hn)
      · cases hn : ab_new S f with
        | true => rw [if_pos rfl]; exact chosen_nn (hm hfar)
        | false =>
          rw [if_neg (by decide)]
          exact (i13 hfar).2 (by have := hnw hfar hn; omega)
      · have hn : ab_new S f = false := by simp [ab_new, hfar]
        rw [hn, ab_1f, if_neg (by decide)]
        have := i14 hfar
        omega
    · have c3 : ((S 0 f).toNat < K ∧ ab_F S (S 0 f).toNat = (f : Int) ∧ ab_new S f = true) = False := propext ⟨fun z => c ⟨z.1, z.2.1⟩, fun z => z.elim⟩
      simp only [if_neg c, c3, if_false, Int.add_zero]
      exact ⟨i0, i1, i2, i3, by omega, by omega, by omega, by omega, by omega, i9, by omega, i11, i12, i13, i14⟩
  · intro L hL
    obtain ⟨a1, a2, a3, a4, a5, a6⟩ := h4 L hL
    obtain ⟨z1, z2, z3, z4⟩ := Z_lk (Y2 := Y2) (Y := Y) (K := K) h0 hL
    have hrs : ab_rs (ab_Z S Y2 (ab_XS S Y) (ab_XS S Y) (ab_DS S Y) K K) L = ab_rs S L + ab_1 (ab_DS S Y L) := by
      simp only [ab_rs, e19]
      refine am_sum_up (d0 := ab_T S - (S 19 3).toNat) (by omega) (fun d hd => ?_)
      rw [Z24, show (64 * ((S 19 3).toNat + d) + L) / 64 = (S 19 3).toNat + d by omega, show (64 * ((S 19 3).toNat + d) + L) % 64 = L by omega]
      by_cases q : d = ab_T S - (S 19 3).toNat
      · rw [if_pos q, if_pos (by omega)]
      · rw [if_neg q, if_neg (by omega), Int.add_zero]
    refine ⟨z1, z2, by rw [hrs]; omega, ?_⟩
    rw [Z15]
    split
    · rename_i q
      have hp := pk_fact h0 hL q.2.2
      have hm : ab_m L ≤ 8 ∧ (48 ≤ L → ab_m L = 4) := by unfold ab_m; split <;> omega
      omega
    · exact ⟨a4, a5, a6⟩
  · intro L t hL
    obtain ⟨a1, a2⟩ := h5 L t hL
    rw [Z24, e19, show (64 * t + L) / 64 = t by omega, show (64 * t + L) % 64 = L by omega]
    by_cases q : t = ab_T S
    · rw [if_pos q]
      have := D_rng (Y := Y) h0 hL
      refine ⟨by omega, fun z => ?_⟩
      omega
    · rw [if_neg q, Int.add_zero]; exact ⟨a1, a2⟩
  · intro k hk
    have a := h6 k hk
    have o := ab_op_rng S k K
    rw [Z16, Z17]
    refine ⟨by omega, ?_⟩
    split
    · rename_i q
      have := F_fact h0 q.2
      omega
    · exact a.2
  · intro q hq; rw [Zo (by omega)]; exact h7 q hq
  · intro L j hL hj
    obtain ⟨z1, z2, z3, z4⟩ := Z_lk (Y2 := Y2) (Y := Y) (K := K) h0 hL
    have hd := D_rng (Y := Y) h0 hL
    have hq : ∀ x, x < 4 → _ := fun x hx => ZQ (S := S) (XQ := Y2) (XC := ab_XS S Y) (X := ab_XS S Y) (D := ab_DS S Y) (K := K) (M := K) hx (4 * L + j)
    rw [show (4 * L + j) / 4 = L by omega, show (4 * L + j) % 4 = j by omega] at hq
    rw [Z14] at hj
    by_cases cA : L < 16 ∧ L < K ∧ ¬ ab_F S L = -1 ∧ (j : Int) = S 14 L - ab_1 (ab_DS S Y L)
    · simp only [if_pos cA] at hq
      obtain ⟨f1, f2, f3, f4⟩ := F_fact h0 cA.2.2.1
      obtain ⟨m1, m2, m3, m4, m5⟩ := may_fact f4
      generalize hfd : (ab_F S L).toNat = f at hq m1 m2 m3 m4 m5
      have x0 := hq 0 (by omega)
      have x1 := hq 1 (by omega)
      have x2 := hq 2 (by omega)
      have x3 := hq 3 (by omega)
      simp only [ab_pk, Nat.add_zero, Nat.reduceAdd, Nat.reduceEqDiff, if_true, if_false] at x0 x1 x2 x3
      have i := h3 f (by omega)
      unfold ab_If at i
      obtain ⟨i0, i1, i2, i3, i4, i5, i6, i7, i8, i9, i10, i11, i12, i13, i14⟩ := i
      have h1r := ab_1r (ab_new S f)
      have hcr := ab_chosen_rng S f (S 10 f)
      have hnw : ab_far S f = true → ab_new S f = false → ¬ S 10 f = 0 := fun a z y => by simp [ab_new, a, y] at z
      unfold ab_Iq
      rw [x0, x1, x2, x3, e19, Int.toNat_natCast, ab_far_cg (S := S) (Zo (by omega) f) (Zo (by omega) f), Zo (f := 0) (by omega), Zo (f := 1) (by omega)]
      refine ⟨by omega, by omega, by omega, ?_, fun _ => ⟨m1, fun hfar => ?_⟩, fun z => by omega, fun z => by omega⟩
      · split <;> omega
      · cases hn : ab_new S f with
        | true => rw [ab_1t, if_pos rfl]; exact ⟨by omega, chosen_nn (m4 hfar)⟩
        | false =>
          rw [ab_1f, if_neg (by decide)]
          have := hnw hfar hn
          exact ⟨by omega, (i13 hfar).2 (by omega)⟩
    · simp only [if_neg cA] at hq
      by_cases cB : 16 ≤ L ∧ ab_XS S Y L = true ∧ (j : Int) = S 14 L - ab_1 (ab_DS S Y L)
      · simp only [if_pos cB] at hq
        have hp := (XS_pos h0 hL cB.2.1).2
        obtain ⟨p1, p2, p3, p4, p5⟩ := pk_fact h0 hL hp
        obtain ⟨q1, q2, q3⟩ := qat_lt cB.1 hL p4
        generalize ab_qat L (ab_pick S L).toNat = q at hq p1 q1 q2 q3
        have hpos := ab_w_pos h0 q1 (by omega)
        obtain ⟨g1, g2, g3, g4, g5, g6, g7, g8, g9⟩ := ab_hd h0 q1 hpos
        obtain ⟨l1, l2, l3, l4⟩ := ab_lbv g3
        have x0 := hq 0 (by omega)
        have x1 := hq 1 (by omega)
        have x2 := hq 2 (by omega)
        have x3 := hq 3 (by omega)
        simp only [Nat.add_zero, Nat.reduceAdd] at x0 x1 x2 x3
        have t1 := g3.2.1
        unfold ab_Iq
        rw [x0, x1, x2, x3, e19, ← g1, Int.toNat_natCast, Zo (f := 1) (by omega)]
        have key : (L < 32 → S 1 (ab_fl S q) = (L : Int) - 16) ∧ (48 ≤ L → S 1 (ab_fl S q) / 4 = (((L - 48) % 4 : Nat) : Int)) := by
          rw [ab_w, if_neg (by omega)] at p1
          by_cases y1 : 48 ≤ q
          · rw [if_pos y1] at p1; omega
          · rw [if_neg y1] at p1
            by_cases y2 : 32 ≤ q
            · rw [if_pos y2] at p1; omega
            · rw [if_neg y2] at p1
              by_cases y3 : ((q / 4 : Nat) : Int) = S 1 (ab_fl S q) / 4
              · rw [if_pos y3] at p1; omega
              · rw [if_neg y3] at p1
                have g7' := g7 (by omega)
                have hfar : ab_far S (ab_fl S q) = true := by
                  simp only [ab_far, decide_eq_true_eq]
                  omega
                have := (g7'.2 hfar).2
                split at p1 <;> omega
        exact ⟨by omega, by omega, by omega, g6, fun z => by omega, fun _ z => key.1 z, key.2⟩
      · simp only [if_neg cB] at hq
        by_cases cD : ab_DS S Y L = true
        · simp only [if_pos cD] at hq
          rw [cD, ab_1t] at hj cA cB
          refine ab_Iq_cg (S := S) (j := j + 1) (by omega) (e19 4) (fun f _ => ⟨Zo (by omega) f, Zo (by omega) f⟩) hq (h8 L (j + 1) hL ?_)
          by_cases h16 : L < 16
          · rw [if_pos h16] at hj
            split at hj <;> omega
          · rw [if_neg h16] at hj
            cases hx : ab_XS S Y L with
            | true => rw [hx, ab_1t] at hj; have cB2 : ¬ (j : Int) = S 14 L - 1 := fun z => cB ⟨by omega, hx, z⟩; omega
            | false => rw [hx, ab_1f] at hj; omega
        · simp only [if_neg cD] at hq
          have cD : ab_DS S Y L = false := by cases hz : ab_DS S Y L with | true => exact absurd hz cD | false => rfl
          rw [cD, ab_1f] at hj cA cB
          refine ab_Iq_cg (S := S) (j := j) (by omega) (e19 4) (fun f _ => ⟨Zo (by omega) f, Zo (by omega) f⟩) hq (h8 L j hL ?_)
          by_cases h16 : L < 16
          · rw [if_pos h16] at hj
            split at hj <;> omega
          · rw [if_neg h16] at hj
            cases hx : ab_XS S Y L with
            | true => rw [hx, ab_1t] at hj; have cB2 : ¬ (j : Int) = S 14 L - 0 := fun z => cB ⟨by omega, hx, z⟩; omega
            | false => rw [hx, ab_1f] at hj; omega
end ZINV
