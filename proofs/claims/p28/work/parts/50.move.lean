/-! a packet moves to the next link -/
def ab_MV (S : ab_S) (k : Nat) : ab_S := ab_Z S (ab_Yk 48) (ab_XS S (ab_Yk k)) (ab_XS S (ab_Yk k)) (ab_DS S (ab_Yk k)) 0 0
theorem ab_Yk_all {L i : Nat} (hL : 16 ≤ L ∧ L < 64) : ab_Yk (ab_ord L + 1) i = (ab_Yk (ab_ord L) i || decide (i = L)) := by
  by_cases h : 16 ≤ i
  · exact ab_Yk_succ hL h
  · have h1 : ab_ord i = 1000 := by rw [ab_ord, if_neg (by omega), if_neg (by omega), if_neg (by omega)]
    have hl : ab_ord L < 48 := by
      rcases (by omega : 48 ≤ L ∨ (32 ≤ L ∧ L < 48) ∨ L < 32) with a | a | a
      · rw [ab_ord48 a]; omega
      · rw [ab_ord32 a.1 a.2]; omega
      · rw [ab_ord16 hL.1 a]; omega
    unfold ab_Yk
    rw [h1, decide_eq_false (by omega), decide_eq_false (by omega), decide_eq_false (by omega)]
    rfl
theorem pick_rng {S : ab_S} {b : Int} (h : ab_I S b) {L : Nat} (hL : L < 64) : -1 ≤ ab_pick S L ∧ ab_pick S L < 8 := by
  by_cases hp : ab_pick S L = -1
  · omega
  · have := pk_fact h hL hp
    have hm : ab_m L ≤ 8 := by unfold ab_m; split <;> omega
    omega
theorem MV_none {S : ab_S} {n i : Nat} (hn : n < 8) (hi : i < lc_d n) (hp : ab_pick S (lc_out n i) = -1) : ab_MV S (ab_bs n + (i + 1)) = ab_MV S (ab_bs n + i) := by
  have ho := ab_ord_out hn hi
  have hY : ∀ i', ab_Yk (ab_bs n + (i + 1)) i' = (ab_Yk (ab_bs n + i) i' || decide (i' = lc_out n i)) := fun i' => by
    rw [← Nat.add_assoc, ← ho.1]; exact ab_Yk_all ho.2
  unfold ab_MV
  rw [XS_none hY hp, DS_none hY hp]
theorem C_move {S : ab_S} {σ : am_M} {b : Int} (h : ab_I S b) {n i sl : Nat} (hn : n < 8) (hi : i < lc_d n) (hsl : sl = ab_T S % 7) (hC : ab_C (ab_MV S (ab_bs n + i)) σ) (hp : ¬ ab_pick S (lc_out n i) = -1) :
    (lc_in n (ab_pick S (lc_out n i)).toNat < 64 ∧ 0 ≤ ab_pick S (lc_out n i) ∧ (ab_pick S (lc_out n i)).toNat < lc_d n) ∧
    (∀ x, x < 4 → σ 14 (4 * lc_in n (ab_pick S (lc_out n i)).toNat + (σ 11 (lc_in n (ab_pick S (lc_out n i)).toNat) 2).toNat) x = S (20 + x) (4 * lc_in n (ab_pick S (lc_out n i)).toNat)) ∧
    (∀ L, L < 64 → (0 ≤ σ 11 L 2 ∧ σ 11 L 2 < 4) ∧ (0 ≤ σ 11 L 3 ∧ σ 11 L 3 ≤ 4)) ∧
    ∀ a b c d : Int, (∀ x, x < 4 → ab_4 a b c d x = S (20 + x) (4 * lc_in n (ab_pick S (lc_out n i)).toNat)) →
      (∀ L, L < 64 → 0 ≤ lk_put σ (lc_out n i) a b c d 11 L 2 ∧ lk_put σ (lc_out n i) a b c d 11 L 2 < 4) ∧
      ab_C (ab_MV S (ab_bs n + (i + 1))) (lk_drop (lk_put σ (lc_out n i) a b c d) (lc_in n (ab_pick S (lc_out n i)).toNat) sl) ∧
      ∀ L, lk_drop (lk_put σ (lc_out n i) a b c d) (lc_in n (ab_pick S (lc_out n i)).toNat) sl 11 L 6 = σ 11 L 6 := by
  have ho := ab_ord_out hn hi
  have hqo := ab_qat_out (p := (ab_pick S (lc_out n i)).toNat) hn hi
  obtain ⟨p1, p2, p3, p4, p5⟩ := pk_fact h ho.2.2 hp
  obtain ⟨q1, q2, q3⟩ := qat_lt ho.2.1 ho.2.2 p4
  have hY : ∀ i', ab_Yk (ab_bs n + (i + 1)) i' = (ab_Yk (ab_bs n + i) i' || decide (i' = lc_out n i)) := fun i' => by
    rw [← Nat.add_assoc, ← ho.1]; exact ab_Yk_all ho.2
  have hYL : ab_Yk (ab_bs n + i) (lc_out n i) = false := by unfold ab_Yk; exact decide_eq_false (by omega)
  have hDn := DS_no h ho.2.2 hYL hp
  have hXn := XS_no (S := S) hYL
  have hXs := XS_step hY hp
  have hDs := DS_step h ho.2.2 hY hp
  rw [hqo.2] at p4
  rw [hqo.1] at p1 q1 q2 q3 hDn hDs
  have hv : ab_qat (lc_out n i) (ab_pick S (lc_out n i)).toNat = lc_in n (ab_pick S (lc_out n i)).toNat := hqo.1
  generalize hLe : lc_out n i = L at ho hp p1 p2 p3 p4 q1 q2 q3 hYL hDn hXn hXs hDs hv ⊢
  generalize hqe : lc_in n (ab_pick S L).toNat = q at p1 q1 q2 q3 hDn hDs hv ⊢
  have hpos := ab_w_pos h q1 (by omega)
  have hc := h.2.1
  have k1 : ∀ L', L' < 64 → _ := fun L' hL' => Z_lk (Y2 := ab_Yk 48) (Y := ab_Yk (ab_bs n + i)) (K := 0) h hL'
  have k2 : ∀ L', L' < 64 → _ := fun L' hL' => Z_lk (Y2 := ab_Yk 48) (Y := ab_Yk (ab_bs n + (i + 1))) (K := 0) h hL'
  unfold ab_MV at hC
  have hs4 := h.s4 ho.2.2
  have hT13 : ab_Z S (ab_Yk 48) (ab_XS S (ab_Yk (ab_bs n + i))) (ab_XS S (ab_Yk (ab_bs n + i))) (ab_DS S (ab_Yk (ab_bs n + i))) 0 0 13 L = S 13 L := by
    rw [Z13, if_neg (by omega), hXn, ab_1f]; omega
  have hdL := D_rng (Y := ab_Yk (ab_bs n + i)) h ho.2.2
  have kL := k1 L ho.2.2
  have hTq : 0 < ab_Z S (ab_Yk 48) (ab_XS S (ab_Yk (ab_bs n + i))) (ab_XS S (ab_Yk (ab_bs n + i))) (ab_DS S (ab_Yk (ab_bs n + i))) 0 0 14 q := by
    rw [Z14, hDn, ab_1f]
    have hx := X_rng (Y := ab_Yk (ab_bs n + i)) h q1
    split
    · rw [if_neg (by omega)]; omega
    · omega
  have hr : ∀ L', L' < 64 → (0 ≤ σ 11 L' 2 ∧ σ 11 L' 2 < 4) ∧ (0 ≤ σ 11 L' 3 ∧ σ 11 L' 3 ≤ 4) := fun L' hL' => by
    have a := hC.2.2.2.1 L' hL'
    have := k1 L' hL'
    exact ⟨a.2.2.1, by omega⟩
  refine ⟨⟨q1, p3, p4⟩, fun x hx => ?_, hr, fun a b' c d hav => ?_⟩
  · have := hC.2.2.2.2.1 q 0 x q1 (by simpa using hTq) hx
    have hrq := (hr q q1).1
    rw [show (σ 11 q 2 + ((0 : Nat) : Int)) % 4 = σ 11 q 2 by omega, ZQ hx, show (4 * q + 0) / 4 = q by omega, show (4 * q + 0) % 4 = 0 by omega, hDn, ab_1f, if_neg (by omega), if_neg (by omega), if_neg (by decide)] at this
    exact this
  · have c1 := C_put hC (L := L) ho.2.2 (by omega) (fun L' hL' => (k1 L' hL').2.2.1) a b' c d
    have e1 : ab_u (ab_Z S (ab_Yk 48) (ab_XS S (ab_Yk (ab_bs n + i))) (ab_XS S (ab_Yk (ab_bs n + i))) (ab_DS S (ab_Yk (ab_bs n + i))) 0 0) 13 L (ab_Z S (ab_Yk 48) (ab_XS S (ab_Yk (ab_bs n + i))) (ab_XS S (ab_Yk (ab_bs n + i))) (ab_DS S (ab_Yk (ab_bs n + i))) 0 0 13 L - 1) = ab_Z S (ab_Yk 48) (ab_s (ab_XS S (ab_Yk (ab_bs n + i))) L) (ab_XS S (ab_Yk (ab_bs n + i))) (ab_DS S (ab_Yk (ab_bs n + i))) 0 0 := Z_put_cg (Z_cred ho.2.1 hXn)
    rw [e1] at c1
    have eC : ∀ L', ab_Z S (ab_Yk 48) (ab_s (ab_XS S (ab_Yk (ab_bs n + i))) L) (ab_XS S (ab_Yk (ab_bs n + i))) (ab_DS S (ab_Yk (ab_bs n + i))) 0 0 14 L' = ab_Z S (ab_Yk 48) (ab_XS S (ab_Yk (ab_bs n + i))) (ab_XS S (ab_Yk (ab_bs n + i))) (ab_DS S (ab_Yk (ab_bs n + i))) 0 0 14 L' := fun L' => ZC (by omega) L'
    have c2 := ab_C_eq (Z_put ho.2.1 ho.2.2 hXn (by rw [eC]; omega) (fun L' hL' => by rw [eC]; exact (k1 L' hL').2.2.1) (fun x hx => by rw [hv]; exact hav x hx)) c1
    rw [← hXs] at c2
    have em : ∀ L', L' < 64 → 0 ≤ ab_Z S (ab_Yk 48) (ab_XS S (ab_Yk (ab_bs n + (i + 1)))) (ab_XS S (ab_Yk (ab_bs n + (i + 1)))) (ab_DS S (ab_Yk (ab_bs n + i))) 0 0 14 L' ∧ ab_Z S (ab_Yk 48) (ab_XS S (ab_Yk (ab_bs n + (i + 1)))) (ab_XS S (ab_Yk (ab_bs n + (i + 1)))) (ab_DS S (ab_Yk (ab_bs n + i))) 0 0 14 L' ≤ 4 := fun L' hL' => by
      by_cases e : L' = q
      · subst e
        have := k1 L' hL'
        rw [Z14 (X := ab_XS S (ab_Yk (ab_bs n + (i + 1)))), hXs, ab_so _ q2, ← Z14 (XQ := ab_Yk 48) (XC := ab_XS S (ab_Yk (ab_bs n + i))) (K := 0)]
        exact ⟨this.2.1, this.2.2.1⟩
      · have := k2 L' hL'
        rw [Z14 (D := ab_DS S (ab_Yk (ab_bs n + (i + 1)))), hDs, ab_so _ e, ← Z14 (XQ := ab_Yk 48) (XC := ab_XS S (ab_Yk (ab_bs n + (i + 1)))) (K := 0)] at this
        exact ⟨this.2.1, this.2.2.1⟩
    have hmq : 0 < ab_Z S (ab_Yk 48) (ab_XS S (ab_Yk (ab_bs n + (i + 1)))) (ab_XS S (ab_Yk (ab_bs n + (i + 1)))) (ab_DS S (ab_Yk (ab_bs n + i))) 0 0 14 q := by
      rw [Z14, hXs, ab_so _ q2, ← Z14 (XQ := ab_Yk 48) (XC := ab_XS S (ab_Yk (ab_bs n + i))) (K := 0)]
      exact hTq
    have c3 := C_drop c2 (L := q) (sl := sl) q1 hmq (fun L' hL' => (em L' hL').2) (by rw [Zo (by omega)]; exact hc.2.2.2.1.1) (by rw [Zo (by omega)]; exact hc.1) (by rw [ab_ZT]; exact hsl)
    have c4 := ab_C_eq (Z_drop q1 hDn (fun L' hL' => (em L' hL').2)) c3
    rw [← hDs] at c4
    refine ⟨fun L' hL' => (c2.2.2.2.1 L' hL').2.2.1, c4, fun L' => ?_⟩
    simp [lk_drop, lk_put, am_up_app]
theorem MV_0 (S : ab_S) : ab_MV S 0 = ab_Q S (ab_Yk 48) := by
  have hX : ab_XS S (ab_Yk 0) = fun _ => false := funext fun i => by simp [ab_XS, ab_Yk]
  have hD : ab_DS S (ab_Yk 0) = fun _ => false := funext fun i => by simp [ab_DS, ab_Yk]
  unfold ab_MV
  rw [hX, hD]
  funext f i
  by_cases e : f = 15
  · subst e; rw [Z15, ab_Q15]
  · rw [ab_Qo _ _ _ _ e]
    unfold ab_Z
    simp [ab_1, ab_op, e]
    repeat (first | (split; (rename_i z; rw [z])) | rfl)
theorem ab_ord_lt {L : Nat} (hL : 16 ≤ L ∧ L < 64) : ab_ord L < 48 := by
  rcases (by omega : 48 ≤ L ∨ (32 ≤ L ∧ L < 48) ∨ L < 32) with a | a | a
  · rw [ab_ord48 a]; omega
  · rw [ab_ord32 a.1 a.2]; omega
  · rw [ab_ord16 hL.1 a]; omega
