/-! picking, in the model's order -/
def ab_Yr (k : Nat) : Nat → Bool := fun i => decide (16 ≤ i) && decide (i < k)
def ab_NX : Nat → Bool := fun _ => false
theorem Yr_S {L : Nat} (h : 16 ≤ L) (i : Nat) : ab_Yr (L + 1) i = (ab_Yr L i || decide (i = L)) := by
  unfold ab_Yr
  by_cases h1 : 16 ≤ i
  · by_cases h2 : i < L
    · simp [h1, h2, show i < L + 1 by omega]
    · by_cases h3 : i = L
      · subst h3; simp [h, h1]
      · simp [h1, h2, h3, show ¬ i < L + 1 by omega]
  · simp [h1, show ¬ i = L by omega]
theorem Yr_no (L : Nat) : ab_Yr L L = false := by simp [ab_Yr]
theorem Yr_16 (i : Nat) : ab_Yr 16 i = false := by
  unfold ab_Yr
  by_cases h : 16 ≤ i
  · simp [h, show ¬ i < 16 by omega]
  · simp [h]
theorem XS_none0 {S : ab_S} {Y : Nat → Bool} (h : ∀ i, Y i = false) : ab_XS S Y = ab_NX := by
  funext i; unfold ab_XS ab_NX; rw [h]; rfl
theorem DS_none0 {S : ab_S} {Y : Nat → Bool} (h : ∀ i, Y i = false) : ab_DS S Y = ab_NX := by
  funext i; unfold ab_DS ab_NX; rw [h]; simp
def ab_LP (S : ab_S) (k : Nat) : ab_S := ab_Z S (ab_Yr k) (ab_XS S (ab_Yr k)) ab_NX ab_NX 0 0
theorem Z_none (S : ab_S) {XQ : Nat → Bool} (hQ : ∀ i, 16 ≤ i → XQ i = false) (g i : Nat) : ab_Z S XQ ab_NX ab_NX ab_NX 0 0 g i = S g i := by
  have n1 : ∀ j, ab_1 (ab_NX j) = 0 := fun _ => rfl
  by_cases h4 : g = 4
  · subst h4; rw [Z4, if_neg (by omega)]; omega
  · by_cases h12 : g = 12
    · subst h12; rw [Z12, if_neg (by omega)]
    · by_cases h10 : g = 10
      · subst h10; rw [Z10, if_neg (by omega)]; omega
      · by_cases h11 : g = 11
        · subst h11; rw [Z11, if_neg (by omega)]
        · by_cases h13 : g = 13
          · subst h13; rw [Z13, n1, if_neg (by omega : ¬ (i < 0 ∧ ¬ ab_F S i = -1))]; split <;> omega
          · by_cases h14 : g = 14
            · subst h14; rw [Z14, n1, if_neg (by omega : ¬ (i < 0 ∧ ¬ ab_F S i = -1))]; split <;> omega
            · by_cases h15 : g = 15
              · subst h15; rw [Z15]
                by_cases hi : 16 ≤ i
                · rw [hQ i hi, if_neg (by simp)]
                · rw [if_neg (by omega)]
              · by_cases h16 : g = 16
                · subst h16; rw [Z16]; rfl
                · by_cases h17 : g = 17
                  · subst h17; rw [Z17, if_neg (by omega)]
                  · by_cases h24 : g = 24
                    · subst h24; rw [Z24, n1]; split <;> omega
                    · by_cases hq : 20 ≤ g ∧ g ≤ 23
                      · obtain ⟨x, rfl⟩ : ∃ x, g = 20 + x := ⟨g - 20, by omega⟩
                        rw [ZQ (by omega), if_neg (by omega), if_neg (by simp [ab_NX]), if_neg (by simp [ab_NX])]
                      · rw [Zo (by omega)]
theorem LP_16 (S : ab_S) (g i : Nat) : S g i = ab_LP S 16 g i := by
  unfold ab_LP
  rw [XS_none0 Yr_16, Z_none S (fun i _ => Yr_16 i)]
/-- what the link L has picked, as the model keeps it -/
def rpk (S : ab_S) (L : Nat) : Int := if ab_pick S L = -1 then -1 else ((ab_qat L (ab_pick S L).toNat : Nat) : Int)
def PKR (S : ab_S) (k : Nat) (σ : am_M) : Prop := ∀ i, 16 ≤ i → i < k → σ 41 0 i = rpk S i
theorem LP_step {S : ab_S} {L : Nat} (h1 : 16 ≤ L) {x y : Int} (hx : x = if ab_pick S L = -1 then S 15 L else ab_pick S L) (hy : y = if ab_pick S L = -1 then S 13 L else S 13 L - 1) (g i : Nat) : ab_u (ab_u (ab_LP S L) 15 L x) 13 L y g i = ab_LP S (L + 1) g i := by
  have hY := Yr_S h1
  unfold ab_LP
  rw [ab_u_app, ab_u_app]
  by_cases g13 : g = 13
  · subst g13
    by_cases e : i = L
    · subst e
      rw [if_pos ⟨rfl, rfl⟩, Z13, if_neg (by omega), hy]
      unfold ab_XS
      rw [hY]
      by_cases p : ab_pick S i = -1
      · simp [p, ab_1]
      · simp [p, ab_1]
    · rw [if_neg (by omega), if_neg (by omega), Z13, Z13]
      unfold ab_XS
      rw [hY, show decide (i = L) = false from decide_eq_false e, Bool.or_false]
  · rw [if_neg (by omega)]
    by_cases g15 : g = 15
    · subst g15
      by_cases e : i = L
      · subst e
        rw [if_pos ⟨rfl, rfl⟩, Z15, hY, hx]
        by_cases p : ab_pick S i = -1
        · simp [p]
        · simp [p, h1]
      · rw [if_neg (by omega), Z15, Z15, hY, show decide (i = L) = false from decide_eq_false e, Bool.or_false]
    · rw [if_neg (by omega), ZXQ (XQ' := ab_Yr (L + 1)) g15, ZC (XC' := ab_XS S (ab_Yr (L + 1))) g13]
theorem LP_o {S : ab_S} {L : Nat} {g : Nat} (hg : ¬ (g = 13 ∨ g = 15)) (i : Nat) : ab_LP S L g i = S g i := by
  unfold ab_LP
  rw [ZC (XC' := ab_NX) (by omega), ZXQ (XQ' := ab_NX) (by omega), Z_none S (XQ := ab_NX) (fun _ _ => rfl)]
theorem LP_L {S : ab_S} {L : Nat} : ab_LP S L 13 L = S 13 L ∧ ab_LP S L 15 L = S 15 L := by
  unfold ab_LP
  rw [Z13, Z15, Yr_no, XS_no (Yr_no L)]
  refine ⟨?_, by simp⟩
  rw [if_neg (by omega : ¬ (L < 0 ∧ ¬ ab_F S L = -1)), ab_1f]
  split <;> omega
theorem LP_next {S : ab_S} {σ : am_M} {L : Nat} (h1 : 16 ≤ L) (hR : ab_R (ab_LP S L) σ) (hP : PKR S L σ) {x y : Int} (hx : x = if ab_pick S L = -1 then S 15 L else ab_pick S L) (hy : y = if ab_pick S L = -1 then S 13 L else S 13 L - 1) :
    ab_R (ab_LP S (L + 1)) (am_up (am_up (am_up σ 41 0 L (rpk S L)) 40 0 L x) 38 0 L y) ∧ PKR S (L + 1) (am_up (am_up (am_up σ 41 0 L (rpk S L)) 40 0 L x) 38 0 L y) := by
  have c0 : ab_R (ab_LP S L) (am_up σ 41 0 L (rpk S L)) := R_tmp hR (fun k i j q => by unfold rk_t at q; rw [am_up_app, if_neg (by omega)])
  have c1 := R_u c0 (g := 15) (k := 40) (i := L) (by unfold rk_p; omega) x
  have c2 := R_u c1 (g := 13) (k := 38) (i := L) (by unfold rk_p; omega) y
  refine ⟨R_ext (LP_step h1 hx hy) c2, fun i h16 hi => ?_⟩
  rw [am_up_app, if_neg (by omega), am_up_app, if_neg (by omega), am_up_app]
  by_cases e : i = L
  · rw [if_pos ⟨rfl, rfl, e⟩, e]
  · rw [if_neg (by omega)]; exact hP i h16 (by omega)
/-- the search of a link, from the last place on down to the step k + 1 -/
def ab_fdn (S : ab_S) (L k : Nat) : Int := match ab_scan (fun s => decide (ab_w S (ab_qat L (ab_plc S L s)) = (L : Int))) (k + 1) (ab_m L - k) with
  | none => -1
  | some s => (ab_plc S L s : Int)
theorem fdn_m (S : ab_S) (L : Nat) : ab_fdn S L (ab_m L) = -1 := by
  unfold ab_fdn
  rw [Nat.sub_self, ab_scan]
theorem fdn_step (S : ab_S) {L k : Nat} (hk : k + 1 ≤ ab_m L) : (ab_w S (ab_qat L (ab_plc S L (k + 1))) = (L : Int) → ((ab_plc S L (k + 1) : Nat) : Int) = ab_fdn S L k) ∧ (¬ ab_w S (ab_qat L (ab_plc S L (k + 1))) = (L : Int) → ab_fdn S L (k + 1) = ab_fdn S L k) := by
  have e : ab_scan (fun s => decide (ab_w S (ab_qat L (ab_plc S L s)) = (L : Int))) (k + 1) (ab_m L - k) = if decide (ab_w S (ab_qat L (ab_plc S L (k + 1))) = (L : Int)) = true then some (k + 1) else ab_scan (fun s => decide (ab_w S (ab_qat L (ab_plc S L s)) = (L : Int))) (k + 1 + 1) (ab_m L - (k + 1)) := by
    rw [show ab_m L - k = (ab_m L - (k + 1)) + 1 by omega, ab_scan]
  refine ⟨fun z => ?_, fun z => ?_⟩
  · unfold ab_fdn
    rw [e, if_pos (decide_eq_true z)]
  · unfold ab_fdn
    rw [e, if_neg (by rw [decide_eq_false z]; decide)]
theorem ab_m48 (L : Nat) : ab_m L = 4 ∨ ab_m L = 8 := by unfold ab_m; split <;> simp
theorem plc_mod (S : ab_S) (L s : Nat) : ((ab_plc S L s : Nat) : Int) = (S 15 L + (s : Int)) % ((ab_m L : Nat) : Int) ∧ ab_plc S L s < ab_m L := by
  have hm := ab_m48 L
  have h1 := Int.emod_nonneg (S 15 L + (s : Int)) (b := ((ab_m L : Nat) : Int)) (by omega)
  have h2 := Int.emod_lt_of_pos (S 15 L + (s : Int)) (b := ((ab_m L : Nat) : Int)) (by omega)
  have e : ((ab_plc S L s : Nat) : Int) = (S 15 L + (s : Int)) % ((ab_m L : Nat) : Int) := Int.toNat_of_nonneg h1
  exact ⟨e, by omega⟩
theorem plc_first {S : ab_S} {L j : Nat} (h : S 15 L = -1) (hj : j < ab_m L) : ((ab_plc S L (j + 1) : Nat) : Int) = ((j + 1 : Nat) : Int) - 1 := by
  rw [(plc_mod S L (j + 1)).1, h, show -1 + ((j + 1 : Nat) : Int) = (j : Int) by omega, Int.emod_eq_of_lt (by omega) (by omega)]
  omega
theorem fdn_rng (S : ab_S) (L k : Nat) : -1 ≤ ab_fdn S L k ∧ ab_fdn S L k < ab_m L := by
  unfold ab_fdn
  have hm := ab_m48 L
  split
  · omega
  · rename_i s _
    have := (plc_mod S L s).2
    omega
theorem pick_fdn (S : ab_S) (L : Nat) : ab_pick S L = if 0 < S 13 L ∧ ab_shut S L = false then ab_fdn S L 0 else -1 := rfl
/-! the hosts pick -/
def ab_HP (S : ab_S) (k : Nat) : ab_S := ab_Z S (ab_Yr 64) (ab_XS S (ab_Yr 64)) ab_NX ab_NX k 0
def SNR (S : ab_S) (k : Nat) (σ : am_M) : Prop := ∀ i, i < k → σ 49 0 i = ab_F S i
theorem HP_o {S : ab_S} {k g : Nat} (hg : ¬ (g = 13 ∨ g = 15 ∨ g = 16 ∨ g = 17)) (i : Nat) : ab_HP S k g i = S g i := by
  have e : ab_HP S k g i = ab_Z S ab_NX ab_NX ab_NX ab_NX 0 0 g i := by
    unfold ab_HP
    rw [ZC (XC' := ab_NX) (by omega), ZXQ (XQ' := ab_NX) (by omega)]
    simp only [ab_Z]
    rw [if_neg (show ¬ g = 13 by omega), if_neg (show ¬ g = 13 by omega), if_neg (show ¬ g = 15 by omega), if_neg (show ¬ g = 15 by omega), if_neg (show ¬ g = 16 by omega), if_neg (show ¬ g = 16 by omega), if_neg (show ¬ g = 17 by omega), if_neg (show ¬ g = 17 by omega)]
  rw [e, Z_none S (XQ := ab_NX) (fun _ _ => rfl)]
theorem HP_h {S : ab_S} {k : Nat} (hk : k < 16) : ab_HP S k 13 k = S 13 k ∧ ab_HP S k 17 k = S 17 k ∧ ∀ t, ab_HP S k 16 t = ab_op S k t := by
  unfold ab_HP
  refine ⟨?_, ?_, fun t => Z16 t⟩
  · rw [Z13, if_pos hk, if_neg (by omega)]; omega
  · rw [Z17, if_neg (by omega)]
theorem am_up_up (σ : am_M) (k i j : Nat) (x y : Int) : am_up (am_up σ k i j x) k i j y = am_up σ k i j y := by
  funext k' i' j'
  simp only [am_up_app]
  split <;> rfl
/-- the search of a host, from the last flow on down to the step k + 1 -/
def ab_sdn (S : ab_S) (h k : Nat) : Int := match ab_scan (fun s => ab_may S (ab_op S h) ((S 17 h + (s : Int)) % S 19 4).toNat h) (k + 1) ((S 19 4).toNat - k) with
  | none => -1
  | some s => (S 17 h + (s : Int)) % S 19 4
theorem sdn_n (S : ab_S) (h : Nat) {n : Nat} (hn : n = (S 19 4).toNat) : ab_sdn S h n = -1 := by
  unfold ab_sdn
  rw [hn, Nat.sub_self, ab_scan]
theorem sdn_step (S : ab_S) {h k : Nat} (hk : k + 1 ≤ (S 19 4).toNat) : (ab_may S (ab_op S h) ((S 17 h + ((k + 1 : Nat) : Int)) % S 19 4).toNat h = true → (S 17 h + ((k + 1 : Nat) : Int)) % S 19 4 = ab_sdn S h k) ∧ (ab_may S (ab_op S h) ((S 17 h + ((k + 1 : Nat) : Int)) % S 19 4).toNat h = false → ab_sdn S h (k + 1) = ab_sdn S h k) := by
  have e : ab_scan (fun s => ab_may S (ab_op S h) ((S 17 h + (s : Int)) % S 19 4).toNat h) (k + 1) ((S 19 4).toNat - k) = if ab_may S (ab_op S h) ((S 17 h + ((k + 1 : Nat) : Int)) % S 19 4).toNat h = true then some (k + 1) else ab_scan (fun s => ab_may S (ab_op S h) ((S 17 h + (s : Int)) % S 19 4).toNat h) (k + 1 + 1) ((S 19 4).toNat - (k + 1)) := by
    rw [show (S 19 4).toNat - k = ((S 19 4).toNat - (k + 1)) + 1 by omega, ab_scan]
  refine ⟨fun z => ?_, fun z => ?_⟩
  · unfold ab_sdn
    rw [e, if_pos z]
  · unfold ab_sdn
    rw [e, if_neg (by rw [z]; decide)]
theorem sdn_F (S : ab_S) (h : Nat) : ab_F S h = if 0 < S 13 h then ab_sdn S h 0 else -1 := rfl
theorem sdn_rng {S : ab_S} {b : Int} (hS : ab_I S b) (h k : Nat) : -1 ≤ ab_sdn S h k ∧ ab_sdn S h k < 24 := by
  have hn := hS.2.1.2.2.2.2
  unfold ab_sdn
  split
  · omega
  · rename_i s hs
    have hs2 := ab_scan_some _ _ hs
    have h1 := Int.emod_nonneg (S 17 h + (s : Int)) (b := S 19 4) (by omega)
    have h2 := Int.emod_lt_of_pos (S 17 h + (s : Int)) (b := S 19 4) (by omega)
    omega
theorem HP_next {S : ab_S} {σ : am_M} {h f : Nat} (hh : h < 16) (hF : ab_F S h = (f : Int)) (hR : ab_R (ab_HP S h) σ) : ab_R (ab_HP S (h + 1)) (am_up (am_up (am_up σ 48 0 h (f : Int)) 38 0 h (S 13 h - 1)) 50 0 (S 1 f).toNat (ab_op S h (S 1 f).toNat + 1)) := by
  have c1 := R_u hR (g := 17) (k := 48) (i := h) (by unfold rk_p; omega) (f : Int)
  have c2 := R_u c1 (g := 13) (k := 38) (i := h) (by unfold rk_p; omega) (S 13 h - 1)
  have c3 := R_u c2 (g := 16) (k := 50) (i := (S 1 f).toNat) (by unfold rk_p; omega) (ab_op S h (S 1 f).toNat + 1)
  refine R_ext (fun g i => ?_) c3
  have hp := HP_h (S := S) hh
  unfold ab_HP at hp ⊢
  rw [Z_K hh hF, ab_u_app, ab_u_app, ab_u_app]
  by_cases q : g = 16 ∧ i = (S 1 f).toNat
  · rw [if_pos q, if_neg (by omega), if_pos q, hp.2.2, q.2]
  · rw [if_neg q]
    by_cases q2 : g = 13 ∧ i = h
    · rw [if_pos q2, if_pos q2, hp.1]
    · rw [if_neg q2, if_neg q2, if_neg q]
theorem HP_same {S : ab_S} {h : Nat} (hF : ab_F S h = -1) : ab_HP S (h + 1) = ab_HP S h := by
  unfold ab_HP; exact Z_K0 hF
/-- the views of the state under what a tick still moves -/
theorem Rv_Z {S : ab_S} {XQ XC X D : Nat → Bool} {K M : Nat} {σ : am_M} (h : ab_R (ab_Z S XQ XC X D K M) σ) : ab_Rv S σ := by
  refine ⟨fun q hq => ?_, fun f hf => ?_⟩
  · rw [h.2.2.2.2.2.2 q hq, Zo (by omega)]
  · have h0 := h.2.1 f 0 (by rw [Zo (by omega)]; exact hf) (by omega)
    have h1 := h.2.1 f 1 (by rw [Zo (by omega)]; exact hf) (by omega)
    rw [Zo (by omega)] at h0 h1
    exact ⟨h0, h1⟩
theorem Rq_cg {S T : ab_S} {σ : am_M} (h : ab_R T σ) (e14 : ∀ i, T 14 i = S 14 i) (e20 : ∀ i, T 20 i = S 20 i) (e23 : ∀ i, T 23 i = S 23 i) : ab_Rq S σ := by
  obtain ⟨a, c⟩ := Rq_of h
  refine ⟨fun L hL => by rw [a L hL, e14], fun L hL hp => ?_⟩
  rw [← e20, ← e23]
  exact c L hL (by rw [e14]; exact hp)
theorem Rv_up {S : ab_S} {σ : am_M} {k i j : Nat} {x : Int} (hk : ¬ (k = 47 ∨ k = 25 ∨ k = 26)) (h : ab_Rv S σ) : ab_Rv S (am_up σ k i j x) :=
  ⟨fun q hq => by rw [am_up_app, if_neg (by omega)]; exact h.1 q hq, fun f hf => by rw [am_up_app, if_neg (by omega), am_up_app, if_neg (by omega)]; exact h.2 f hf⟩
