theorem in_c_X0_unsent_X0 : ∀ w ∈ u_ws RX0 TX0 13, w ∈ wsX0_unsent := by decide +kernel
set_option maxRecDepth 100000 in
set_option maxHeartbeats 4000000 in
/-- Flow.unsent -/
theorem c_X0_unsent (l : Launch) (g : am_g) (hI : am_inj (gC g)) (σ : am_M) (f : Nat) (hf : f < 24)  : Met l yX0_unsent wsX0_unsent ({ frames := 0, cells := 0, slots := 0, locals := 0 }) (am_P (gC g) σ [.inr (9, f)]) (am_QI (gC g) (fun r σ' => σ' = σ ∧ r = σ 9 f 2 - (σ 9 f 4 - σ 9 f 6))) 0 0 (am_FA (gC g)) := by
  refine wk_start (cc := cX0_unsent) (nL := 1) (ret := (some .int)) (own := RX0) (by decide) rfl hI rfl (Nat.le_of_ble_eq_true rfl) ?_
  intro p e s m below meth c C hr hlk
  change wk _ p l e _ s m _ below meth c 0 0 _ _ _ _ 0 [some (.inr (9, f))] [] σ
  refine wk_aload_n C rfl dX0_unsent_0 ?_
  refine wk_geti C (k := 9) (ci := 0) (j := 2) (T := TX0) rfl (show _ < (24:Nat) by omega) rfl in_c_X0_unsent_X0 (by decide) (by decide +kernel) rfl dX0_unsent_1 ?_
  refine wk_aload_n C rfl dX0_unsent_4 ?_
  refine wk_geti C (k := 9) (ci := 0) (j := 4) (T := TX0) rfl (show _ < (24:Nat) by omega) rfl in_c_X0_unsent_X0 (by decide) (by decide +kernel) rfl dX0_unsent_5 ?_
  refine wk_aload_n C rfl dX0_unsent_8 ?_
  refine wk_geti C (k := 9) (ci := 0) (j := 6) (T := TX0) rfl (show _ < (24:Nat) by omega) rfl in_c_X0_unsent_X0 (by decide) (by decide +kernel) rfl dX0_unsent_9 ?_
  refine wk_isub C dX0_unsent_12 ?_
  refine wk_isub C dX0_unsent_13 ?_
  refine wk_iret C hr hlk dX0_unsent_14 ?_
  exact ⟨rfl, rfl⟩

theorem in_c_X0_sourceLeaf_X0 : ∀ w ∈ u_ws RX0 TX0 13, w ∈ wsX0_sourceLeaf := by decide +kernel
set_option maxRecDepth 100000 in
set_option maxHeartbeats 4000000 in
/-- Flow.sourceLeaf -/
theorem c_X0_sourceLeaf (l : Launch) (g : am_g) (hI : am_inj (gC g)) (σ : am_M) (f : Nat) (hf : f < 24) (h0 : 0 ≤ σ 9 f 0 ∧ σ 9 f 0 < 16) : Met l yX0_sourceLeaf wsX0_sourceLeaf ({ frames := 0, cells := 0, slots := 0, locals := 0 }) (am_P (gC g) σ [.inr (9, f)]) (am_QI (gC g) (fun r σ' => σ' = σ ∧ r = σ 9 f 0 / 4)) 0 0 (am_FA (gC g)) := by
  refine wk_start (cc := cX0_sourceLeaf) (nL := 1) (ret := (some .int)) (own := RX0) (by decide) rfl hI rfl (Nat.le_of_ble_eq_true rfl) ?_
  intro p e s m below meth c C hr hlk
  change wk _ p l e _ s m _ below meth c 0 0 _ _ _ _ 0 [some (.inr (9, f))] [] σ
  refine wk_aload_n C rfl dX0_sourceLeaf_0 ?_
  refine wk_geti C (k := 9) (ci := 0) (j := 0) (T := TX0) rfl (show _ < (24:Nat) by omega) rfl in_c_X0_sourceLeaf_X0 (by decide) (by decide +kernel) rfl dX0_sourceLeaf_1 ?_
  refine wk_iconst C dX0_sourceLeaf_4 ?_
  refine wk_idiv C (by omega) (by omega) dX0_sourceLeaf_5 ?_
  refine wk_iret C hr hlk dX0_sourceLeaf_6 ?_
  exact ⟨rfl, rfl⟩

theorem in_c_X0_targetLeaf_X0 : ∀ w ∈ u_ws RX0 TX0 13, w ∈ wsX0_targetLeaf := by decide +kernel
set_option maxRecDepth 100000 in
set_option maxHeartbeats 4000000 in
/-- Flow.targetLeaf -/
theorem c_X0_targetLeaf (l : Launch) (g : am_g) (hI : am_inj (gC g)) (σ : am_M) (f : Nat) (hf : f < 24) (h0 : 0 ≤ σ 9 f 1 ∧ σ 9 f 1 < 16) : Met l yX0_targetLeaf wsX0_targetLeaf ({ frames := 0, cells := 0, slots := 0, locals := 0 }) (am_P (gC g) σ [.inr (9, f)]) (am_QI (gC g) (fun r σ' => σ' = σ ∧ r = σ 9 f 1 / 4)) 0 0 (am_FA (gC g)) := by
  refine wk_start (cc := cX0_targetLeaf) (nL := 1) (ret := (some .int)) (own := RX0) (by decide) rfl hI rfl (Nat.le_of_ble_eq_true rfl) ?_
  intro p e s m below meth c C hr hlk
  change wk _ p l e _ s m _ below meth c 0 0 _ _ _ _ 0 [some (.inr (9, f))] [] σ
  refine wk_aload_n C rfl dX0_targetLeaf_0 ?_
  refine wk_geti C (k := 9) (ci := 0) (j := 1) (T := TX0) rfl (show _ < (24:Nat) by omega) rfl in_c_X0_targetLeaf_X0 (by decide) (by decide +kernel) rfl dX0_targetLeaf_1 ?_
  refine wk_iconst C dX0_targetLeaf_4 ?_
  refine wk_idiv C (by omega) (by omega) dX0_targetLeaf_5 ?_
  refine wk_iret C hr hlk dX0_targetLeaf_6 ?_
  exact ⟨rfl, rfl⟩

set_option maxRecDepth 100000 in
set_option maxHeartbeats 4000000 in
/-- Flow.crossesLeaves -/
theorem c_X0_crossesLeaves (l : Launch) (g : am_g) (hI : am_inj (gC g)) (σ : am_M) (f : Nat) (hf : f < 24) (h0 : 0 ≤ σ 9 f 0 ∧ σ 9 f 0 < 16) (h1 : 0 ≤ σ 9 f 1 ∧ σ 9 f 1 < 16) : Met l yX0_crossesLeaves wsX0_crossesLeaves ({ frames := 1, cells := 0, slots := 0, locals := 20 }) (am_P (gC g) σ [.inr (9, f)]) (am_QI (gC g) (fun r σ' => σ' = σ ∧ r = if σ 9 f 0 / 4 = σ 9 f 1 / 4 then 0 else 1)) 0 0 (am_FA (gC g)) := by
  refine wk_start (cc := cX0_crossesLeaves) (nL := 1) (ret := (some .boolean)) (own := RX0) (by decide) rfl hI rfl (Nat.le_of_ble_eq_true rfl) ?_
  intro p e s m below meth c C hr hlk
  change wk _ p l e _ s m _ below meth c 0 0 _ _ _ _ 0 [some (.inr (9, f))] [] σ
  refine wk_aload_n C rfl dX0_crossesLeaves_0 ?_
  refine wk_ofI C (wk_runV (index := 51) (ci := 0) (st := []) C (c_X0_sourceLeaf l g hI _ f hf h0) (cwV 0 C.2.2.2.2.1 gX0_crossesLeaves_X0_sourceLeaf rfl rfl rfl (by decide +kernel) ⟨Nat.le_of_ble_eq_true rfl, Nat.le_of_ble_eq_true rfl⟩) rfl (show _ < (24:Nat) by omega) rfl rfl rfl (Nat.le_of_ble_eq_true rfl) dX0_crossesLeaves_1 ⟨Nat.zero_le _, Nat.zero_le _⟩) (fun r1 σ1 hp1 => ?_)
  obtain ⟨rfl, rfl⟩ := hp1
  refine wk_aload_n C rfl dX0_crossesLeaves_4 ?_
  refine wk_ofI C (wk_runV (index := 55) (ci := 0) (st := [_]) C (c_X0_targetLeaf l g hI _ f hf h1) (cwV 0 C.2.2.2.2.1 gX0_crossesLeaves_X0_targetLeaf rfl rfl rfl (by decide +kernel) ⟨Nat.le_of_ble_eq_true rfl, Nat.le_of_ble_eq_true rfl⟩) rfl (show _ < (24:Nat) by omega) rfl rfl rfl (Nat.le_of_ble_eq_true rfl) dX0_crossesLeaves_5 ⟨Nat.zero_le _, Nat.zero_le _⟩) (fun r5 σ5 hp5 => ?_)
  obtain ⟨rfl, rfl⟩ := hp5
  refine wk_icmp_eq C 15 (by omega) (by omega) (by decide) dX0_crossesLeaves_8 (fun hc8 => ?_) (fun hc8 => ?_)
  · skip
    refine wk_iconst C dX0_crossesLeaves_15 ?_
    refine wk_zret C hr hlk (by omega) dX0_crossesLeaves_16 ?_
    exact (by first | (rw [if_pos hc8]; exact ⟨rfl, rfl⟩) | (rw [if_neg hc8]; exact ⟨rfl, rfl⟩))
  · skip
    refine wk_iconst C dX0_crossesLeaves_11 ?_
    refine wk_goto C 16 (by decide) dX0_crossesLeaves_12 ?_
    refine wk_zret C hr hlk (by omega) dX0_crossesLeaves_16 ?_
    exact (by first | (rw [if_pos hc8]; exact ⟨rfl, rfl⟩) | (rw [if_neg hc8]; exact ⟨rfl, rfl⟩))

/-- Flow.countDelivered, in the cells -/
def lk_got (σ : am_M) (f : Nat) (x t : Int) : am_M :=
  let σ1 := am_up σ 9 f 5 (σ 9 f 5 + 1)
  let σ2 := if x < σ 9 f 8 then am_up σ1 9 f 7 (σ 9 f 7 + 1) else am_up σ1 9 f 8 x
  if σ 9 f 5 + 1 = σ 9 f 2 then am_up σ2 9 f 9 t else σ2
theorem C_ext {S T : ab_S} {σ : am_M} (h : ∀ g i, S g i = T g i) (c : ab_C S σ) : ab_C T σ := by
  have : S = T := funext fun g => funext fun i => h g i
  rw [← this]
  exact c
theorem C_got {S : ab_S} {σ : am_M} (h : ab_C S σ) {f : Nat} (hf : (f : Int) < S 19 4) (x : Int) : ab_C (ab_got S f x) (lk_got σ f x (S 19 3)) := by
  have e : ∀ j, j < 13 → σ 9 f j = S j f := fun j hj => h.2.1 f j hf hj
  unfold lk_got
  rw [e 5 (by omega), e 8 (by omega), e 7 (by omega), e 2 (by omega)]
  by_cases q1 : x < S 8 f <;> by_cases q2 : S 5 f + 1 = S 2 f
  · simp only [if_pos q1, if_pos q2]
    refine C_ext (fun g i => ?_) (C_fl (C_fl (C_fl h (f := f) (j := 5) (by omega) (S 5 f + 1)) (f := f) (j := 7) (by omega) (S 7 f + 1)) (f := f) (j := 9) (by omega) (S 19 3))
    simp only [ab_u_app, ab_got, if_pos q1, if_pos q2]
    by_cases z : i = f
    · subst z
      by_cases z5 : g = 5
      · subst z5; simp
      · by_cases z7 : g = 7
        · subst z7; simp
        · by_cases z9 : g = 9
          · subst z9; simp
          · by_cases z8 : g = 8
            · subst z8; simp
            · simp [z5, z7, z8, z9]
    · simp [z]
  · simp only [if_pos q1, if_neg q2]
    refine C_ext (fun g i => ?_) (C_fl (C_fl h (f := f) (j := 5) (by omega) (S 5 f + 1)) (f := f) (j := 7) (by omega) (S 7 f + 1))
    simp only [ab_u_app, ab_got, if_pos q1, if_neg q2]
    by_cases z : i = f
    · subst z
      by_cases z5 : g = 5
      · subst z5; simp
      · by_cases z7 : g = 7
        · subst z7; simp
        · by_cases z9 : g = 9
          · subst z9; simp
          · by_cases z8 : g = 8
            · subst z8; simp
            · simp [z5, z7, z8, z9]
    · simp [z]
  · simp only [if_neg q1, if_pos q2]
    refine C_ext (fun g i => ?_) (C_fl (C_fl (C_fl h (f := f) (j := 5) (by omega) (S 5 f + 1)) (f := f) (j := 8) (by omega) x) (f := f) (j := 9) (by omega) (S 19 3))
    simp only [ab_u_app, ab_got, if_neg q1, if_pos q2]
    by_cases z : i = f
    · subst z
      by_cases z5 : g = 5
      · subst z5; simp
      · by_cases z7 : g = 7
        · subst z7; simp
        · by_cases z9 : g = 9
          · subst z9; simp
          · by_cases z8 : g = 8
            · subst z8; simp
            · simp [z5, z7, z8, z9]
    · simp [z]
  · simp only [if_neg q1, if_neg q2]
    refine C_ext (fun g i => ?_) (C_fl (C_fl h (f := f) (j := 5) (by omega) (S 5 f + 1)) (f := f) (j := 8) (by omega) x)
    simp only [ab_u_app, ab_got, if_neg q1, if_neg q2]
    by_cases z : i = f
    · subst z
      by_cases z5 : g = 5
      · subst z5; simp
      · by_cases z7 : g = 7
        · subst z7; simp
        · by_cases z9 : g = 9
          · subst z9; simp
          · by_cases z8 : g = 8
            · subst z8; simp
            · simp [z5, z7, z8, z9]
    · simp [z]

theorem in_c_X0_countDelivered_X0 : ∀ w ∈ u_ws RX0 TX0 13, w ∈ wsX0_countDelivered := by decide +kernel
set_option maxRecDepth 100000 in
set_option maxHeartbeats 4000000 in
/-- Flow.countDelivered -/
theorem c_X0_countDelivered (l : Launch) (g : am_g) (hI : am_inj (gC g)) (σ : am_M) (f : Nat) (hf : f < 24) (x t : Int) (hr5 : 0 ≤ σ 9 f 5 ∧ σ 9 f 5 < 2000000000) (hr2 : 0 ≤ σ 9 f 2 ∧ σ 9 f 2 < 2000000000) (hr8 : -1 ≤ σ 9 f 8 ∧ σ 9 f 8 < 2000000000) (hx : 0 ≤ x ∧ x < 2000000000) : Met l yX0_countDelivered wsX0_countDelivered ({ frames := 0, cells := 0, slots := 0, locals := 0 }) (am_P (gC g) σ [.inr (9, f), .inl (x), .inl (t)]) (am_QV (gC g) (fun σ' => σ' = lk_got σ f x t)) 0 0 (am_FA (gC g)) := by
  refine wk_start (cc := cX0_countDelivered) (nL := 3) (ret := none) (own := RX0) (by decide) rfl hI rfl (Nat.le_of_ble_eq_true rfl) ?_
  intro p e s m below meth c C hr hlk
  change wk _ p l e _ s m _ below meth c 0 0 _ _ _ _ 0 [some (.inr (9, f)), some (.inl (x)), some (.inl (t))] [] σ
  refine wk_aload_n C rfl dX0_countDelivered_0 ?_
  refine wk_dup C dX0_countDelivered_1 ?_
  refine wk_geti C (k := 9) (ci := 0) (j := 5) (T := TX0) rfl (show _ < (24:Nat) by omega) rfl in_c_X0_countDelivered_X0 (by decide) (by decide +kernel) rfl dX0_countDelivered_2 ?_
  refine wk_iconst C dX0_countDelivered_5 ?_
  refine wk_iadd C dX0_countDelivered_6 ?_
  refine wk_put C (k := 9) (ci := 0) (j := 5) (T := TX0) rfl (show _ < (24:Nat) by omega) rfl in_c_X0_countDelivered_X0 tyX0 tyX0_ok nmX0 (by decide) (by decide +kernel) rfl rfl (by decide +kernel) dX0_countDelivered_7 ?_
  refine wk_iload_n C rfl dX0_countDelivered_10 ?_
  refine wk_aload_n C rfl dX0_countDelivered_11 ?_
  refine wk_geti C (k := 9) (ci := 0) (j := 8) (T := TX0) rfl (show _ < (24:Nat) by omega) rfl in_c_X0_countDelivered_X0 (by decide) (by decide +kernel) rfl dX0_countDelivered_12 ?_
  simp only [am_up_app, show ¬((8:Nat) = 5) by decide, and_false, if_false]
  refine wk_icmp_ge C 31 (by omega) (by omega) (by decide) dX0_countDelivered_15 (fun hc15 => ?_) (fun hc15 => ?_)
  · skip
    refine wk_aload_n C rfl dX0_countDelivered_31 ?_
    refine wk_iload_n C rfl dX0_countDelivered_32 ?_
    refine wk_put C (k := 9) (ci := 0) (j := 8) (T := TX0) rfl (show _ < (24:Nat) by omega) rfl in_c_X0_countDelivered_X0 tyX0 tyX0_ok nmX0 (by decide) (by decide +kernel) rfl rfl (by decide +kernel) dX0_countDelivered_33 ?_
    refine wk_aload_n C rfl dX0_countDelivered_36 ?_
    refine wk_geti C (k := 9) (ci := 0) (j := 5) (T := TX0) rfl (show _ < (24:Nat) by omega) rfl in_c_X0_countDelivered_X0 (by decide) (by decide +kernel) rfl dX0_countDelivered_37 ?_
    refine wk_aload_n C rfl dX0_countDelivered_40 ?_
    refine wk_geti C (k := 9) (ci := 0) (j := 2) (T := TX0) rfl (show _ < (24:Nat) by omega) rfl in_c_X0_countDelivered_X0 (by decide) (by decide +kernel) rfl dX0_countDelivered_41 ?_
    simp [am_up_app]
    refine wk_icmp_ne C 52 (by omega) (by omega) (by decide) dX0_countDelivered_44 (fun hc44 => ?_) (fun hc44 => ?_)
    · skip
      refine wk_vret C hr hlk dX0_countDelivered_52 ?_
      exact (by first | (simp [lk_got, am_up_app, hc15, hc44]; done) | (simp [lk_got, am_up_app, Int.not_lt.mpr hc15, hc44]; done))
    · skip
      refine wk_aload_n C rfl dX0_countDelivered_47 ?_
      refine wk_iload_n C rfl dX0_countDelivered_48 ?_
      refine wk_put C (k := 9) (ci := 0) (j := 9) (T := TX0) rfl (show _ < (24:Nat) by omega) rfl in_c_X0_countDelivered_X0 tyX0 tyX0_ok nmX0 (by decide) (by decide +kernel) rfl rfl (by decide +kernel) dX0_countDelivered_49 ?_
      refine wk_vret C hr hlk dX0_countDelivered_52 ?_
      exact (by first | (simp [lk_got, am_up_app, hc15, hc44]; done) | (simp [lk_got, am_up_app, Int.not_lt.mpr hc15, hc44]; done))
  · skip
    refine wk_aload_n C rfl dX0_countDelivered_18 ?_
    refine wk_dup C dX0_countDelivered_19 ?_
    refine wk_geti C (k := 9) (ci := 0) (j := 7) (T := TX0) rfl (show _ < (24:Nat) by omega) rfl in_c_X0_countDelivered_X0 (by decide) (by decide +kernel) rfl dX0_countDelivered_20 ?_
    refine wk_iconst C dX0_countDelivered_23 ?_
    refine wk_iadd C dX0_countDelivered_24 ?_
    refine wk_put C (k := 9) (ci := 0) (j := 7) (T := TX0) rfl (show _ < (24:Nat) by omega) rfl in_c_X0_countDelivered_X0 tyX0 tyX0_ok nmX0 (by decide) (by decide +kernel) rfl rfl (by decide +kernel) dX0_countDelivered_25 ?_
    refine wk_goto C 36 (by decide) dX0_countDelivered_28 ?_
    refine wk_aload_n C rfl dX0_countDelivered_36 ?_
    refine wk_geti C (k := 9) (ci := 0) (j := 5) (T := TX0) rfl (show _ < (24:Nat) by omega) rfl in_c_X0_countDelivered_X0 (by decide) (by decide +kernel) rfl dX0_countDelivered_37 ?_
    refine wk_aload_n C rfl dX0_countDelivered_40 ?_
    refine wk_geti C (k := 9) (ci := 0) (j := 2) (T := TX0) rfl (show _ < (24:Nat) by omega) rfl in_c_X0_countDelivered_X0 (by decide) (by decide +kernel) rfl dX0_countDelivered_41 ?_
    simp [am_up_app]
    refine wk_icmp_ne C 52 (by omega) (by omega) (by decide) dX0_countDelivered_44 (fun hc44 => ?_) (fun hc44 => ?_)
    · skip
      refine wk_vret C hr hlk dX0_countDelivered_52 ?_
      exact (by first | (simp [lk_got, am_up_app, hc15, hc44]; done) | (simp [lk_got, am_up_app, Int.not_lt.mpr hc15, hc44]; done))
    · skip
      refine wk_aload_n C rfl dX0_countDelivered_47 ?_
      refine wk_iload_n C rfl dX0_countDelivered_48 ?_
      refine wk_put C (k := 9) (ci := 0) (j := 9) (T := TX0) rfl (show _ < (24:Nat) by omega) rfl in_c_X0_countDelivered_X0 tyX0 tyX0_ok nmX0 (by decide) (by decide +kernel) rfl rfl (by decide +kernel) dX0_countDelivered_49 ?_
      refine wk_vret C hr hlk dX0_countDelivered_52 ?_
      exact (by first | (simp [lk_got, am_up_app, hc15, hc44]; done) | (simp [lk_got, am_up_app, Int.not_lt.mpr hc15, hc44]; done))

theorem in_c_X1_clear_X1 : ∀ w ∈ u_ws RX1 TX1 4, w ∈ wsX1_clear := by decide +kernel
set_option maxRecDepth 100000 in
set_option maxHeartbeats 4000000 in
/-- Host.clear -/
theorem c_X1_clear (l : Launch) (g : am_g) (hI : am_inj (gC g)) (σ : am_M) (h : Nat) (hh : h < 16)  : Met l yX1_clear wsX1_clear ({ frames := 0, cells := 0, slots := 0, locals := 0 }) (am_P (gC g) σ [.inr (10, h)]) (am_QV (gC g) (fun σ' => σ' = am_up (am_up σ 10 h 2 0) 10 h 3 (-1))) 0 0 (am_FA (gC g)) := by
  refine wk_start (cc := cX1_clear) (nL := 1) (ret := none) (own := RX1) (by decide) rfl hI rfl (Nat.le_of_ble_eq_true rfl) ?_
  intro p e s m below meth c C hr hlk
  change wk _ p l e _ s m _ below meth c 0 0 _ _ _ _ 0 [some (.inr (10, h))] [] σ
  refine wk_aload_n C rfl dX1_clear_0 ?_
  refine wk_iconst C dX1_clear_1 ?_
  refine wk_put C (k := 10) (ci := 1) (j := 2) (T := TX1) rfl (show _ < (16:Nat) by omega) rfl in_c_X1_clear_X1 tyX1 tyX1_ok nmX1 (by decide) (by decide +kernel) rfl rfl (by decide +kernel) dX1_clear_2 ?_
  refine wk_aload_n C rfl dX1_clear_5 ?_
  refine wk_iconst C dX1_clear_6 ?_
  refine wk_put C (k := 10) (ci := 1) (j := 3) (T := TX1) rfl (show _ < (16:Nat) by omega) rfl in_c_X1_clear_X1 tyX1 tyX1_ok nmX1 (by decide) (by decide +kernel) rfl rfl (by decide +kernel) dX1_clear_7 ?_
  refine wk_vret C hr hlk dX1_clear_10 ?_
  exact (by first | rfl | simp [am_up_app])

theorem in_c_X5_northOf_X5 : ∀ w ∈ u_ws RX5 TX5 13, w ∈ wsX5_northOf := by decide +kernel
set_option maxRecDepth 100000 in
set_option maxHeartbeats 4000000 in
/-- northOf -/
theorem c_X5_northOf (l : Launch) (g : am_g) (hI : am_inj (gC g)) (σ : am_M) (a c2 : Nat) (ha : a < 4) (hc2 : c2 < 4)  : Met l yX5_northOf wsX5_northOf ({ frames := 0, cells := 0, slots := 0, locals := 0 }) (am_P (gC g) σ [.inr (0, 0), .inl ((a : Nat) : Int), .inl ((c2 : Nat) : Int)]) (am_QR (gC g) (fun r σ' => σ' = σ ∧ r = (11, 32 + 4 * a + c2))) 0 0 (am_FA (gC g)) := by
  refine wk_start (cc := cX5_northOf) (nL := 3) (ret := (some (.object "Fabricsim$Link"))) (own := RX5) (by decide) rfl hI rfl (Nat.le_of_ble_eq_true rfl) ?_
  intro p e s m below meth c C hr hlk
  change wk _ p l e _ s m _ below meth c 0 0 _ _ _ _ 0 [some (.inr (0, 0)), some (.inl ((a : Nat) : Int)), some (.inl ((c2 : Nat) : Int))] [] σ
  refine wk_aload_n C rfl dX5_northOf_0 ?_
  refine wk_getr C (k := 0) (ci := 5) (j := 3) (T := TX5) rfl (show 0 < (1:Nat) by decide) rfl in_c_X5_northOf_X5 (by decide) (by decide +kernel) rfl dX5_northOf_1 ?_
  refine wk_iload_n C rfl dX5_northOf_4 ?_
  refine wk_iconst C dX5_northOf_5 ?_
  refine wk_imul C dX5_northOf_6 ?_
  refine wk_iload_n C rfl dX5_northOf_7 ?_
  refine wk_iadd C dX5_northOf_8 ?_
  refine wk_aald C (k := 4) rfl rfl (show 0 < (1:Nat) by decide) (Nat.le_of_ble_eq_true rfl) (4 * a + c2) (by omega) (show _ < (16:Nat) by omega) dX5_northOf_9 ?_
  refine wk_aret C hr hlk dX5_northOf_10 ?_
  refine ⟨rfl, ?_⟩
  show (11, 32 + (4 * a + c2)) = _
  rw [Nat.add_assoc]

theorem in_c_X5_southOf_X5 : ∀ w ∈ u_ws RX5 TX5 13, w ∈ wsX5_southOf := by decide +kernel
set_option maxRecDepth 100000 in
set_option maxHeartbeats 4000000 in
/-- southOf -/
theorem c_X5_southOf (l : Launch) (g : am_g) (hI : am_inj (gC g)) (σ : am_M) (a c2 : Nat) (ha : a < 4) (hc2 : c2 < 4)  : Met l yX5_southOf wsX5_southOf ({ frames := 0, cells := 0, slots := 0, locals := 0 }) (am_P (gC g) σ [.inr (0, 0), .inl ((a : Nat) : Int), .inl ((c2 : Nat) : Int)]) (am_QR (gC g) (fun r σ' => σ' = σ ∧ r = (11, 48 + 4 * a + c2))) 0 0 (am_FA (gC g)) := by
  refine wk_start (cc := cX5_southOf) (nL := 3) (ret := (some (.object "Fabricsim$Link"))) (own := RX5) (by decide) rfl hI rfl (Nat.le_of_ble_eq_true rfl) ?_
  intro p e s m below meth c C hr hlk
  change wk _ p l e _ s m _ below meth c 0 0 _ _ _ _ 0 [some (.inr (0, 0)), some (.inl ((a : Nat) : Int)), some (.inl ((c2 : Nat) : Int))] [] σ
  refine wk_aload_n C rfl dX5_southOf_0 ?_
  refine wk_getr C (k := 0) (ci := 5) (j := 4) (T := TX5) rfl (show 0 < (1:Nat) by decide) rfl in_c_X5_southOf_X5 (by decide) (by decide +kernel) rfl dX5_southOf_1 ?_
  refine wk_iload_n C rfl dX5_southOf_4 ?_
  refine wk_iconst C dX5_southOf_5 ?_
  refine wk_imul C dX5_southOf_6 ?_
  refine wk_iload_n C rfl dX5_southOf_7 ?_
  refine wk_iadd C dX5_southOf_8 ?_
  refine wk_aald C (k := 5) rfl rfl (show 0 < (1:Nat) by decide) (Nat.le_of_ble_eq_true rfl) (4 * a + c2) (by omega) (show _ < (16:Nat) by omega) dX5_southOf_9 ?_
  refine wk_aret C hr hlk dX5_southOf_10 ?_
  refine ⟨rfl, ?_⟩
  show (11, 48 + (4 * a + c2)) = _
  rw [Nat.add_assoc]

theorem in_c_X5_isCut_X5 : ∀ w ∈ u_ws RX5 TX5 13, w ∈ wsX5_isCut := by decide +kernel
set_option maxRecDepth 100000 in
set_option maxHeartbeats 4000000 in
/-- isCut -/
theorem c_X5_isCut (l : Launch) (g : am_g) (hI : am_inj (gC g)) (σ : am_M) (a s2 : Nat) (ha : a < 4) (hs2 : s2 < 4) (S : ab_S) (b : Int) (hC : ab_C S σ) (hS : ab_I S b) : Met l yX5_isCut wsX5_isCut ({ frames := 0, cells := 0, slots := 0, locals := 0 }) (am_P (gC g) σ [.inr (0, 0), .inl ((a : Nat) : Int), .inl ((s2 : Nat) : Int)]) (am_QI (gC g) (fun r σ' => σ' = σ ∧ r = S 18 (4 * a + s2))) 0 0 (am_FA (gC g)) := by
  refine wk_start (cc := cX5_isCut) (nL := 3) (ret := (some .boolean)) (own := RX5) (by decide) rfl hI rfl (Nat.le_of_ble_eq_true rfl) ?_
  intro p e s m below meth c C hr hlk
  change wk _ p l e _ s m _ below meth c 0 0 _ _ _ _ 0 [some (.inr (0, 0)), some (.inl ((a : Nat) : Int)), some (.inl ((s2 : Nat) : Int))] [] σ
  have hq := hS.2.2.2.2.2.2.1
  have hm := hC.2.2.2.2.2.2 a ha
  have h18 := hq (4 * a + s2) (by omega)
  refine wk_aload_n C rfl dX5_isCut_0 ?_
  refine wk_getr C (k := 0) (ci := 5) (j := 7) (T := TX5) rfl (show 0 < (1:Nat) by decide) rfl in_c_X5_isCut_X5 (by decide) (by decide +kernel) rfl dX5_isCut_1 ?_
  refine wk_iload_n C rfl dX5_isCut_4 ?_
  refine wk_iald C (k := 8) rfl (show 0 < (1:Nat) by decide) (Nat.le_of_ble_eq_true rfl) (a) (by omega) (show _ < (4:Nat) by omega) dX5_isCut_5 ?_
  rw [hm]
  refine wk_iload_n C rfl dX5_isCut_6 ?_
  refine wk_ishr C ((((ab_mask S a).toNat / 2 ^ s2 : Nat) : Int)) (ab_mk_shr hq ha hs2) dX5_isCut_7 ?_
  refine wk_iconst C dX5_isCut_8 ?_
  refine wk_iand C (1 - S 18 (4 * a + s2)) (ab_mk_bit hq ha hs2) dX5_isCut_9 ?_
  refine wk_if_ne C 17 (by omega) (by decide) dX5_isCut_10 (fun hc10 => ?_) (fun hc10 => ?_)
  · skip
    refine wk_iconst C dX5_isCut_17 ?_
    refine wk_zret C hr hlk (by omega) dX5_isCut_18 ?_
    exact ⟨rfl, by omega⟩
  · skip
    refine wk_iconst C dX5_isCut_13 ?_
    refine wk_goto C 18 (by decide) dX5_isCut_14 ?_
    refine wk_zret C hr hlk (by omega) dX5_isCut_18 ?_
    exact ⟨rfl, by omega⟩

theorem in_c_X5_usableSpines_X5 : ∀ w ∈ u_ws RX5 TX5 13, w ∈ wsX5_usableSpines := by decide +kernel
set_option maxRecDepth 100000 in
set_option maxHeartbeats 4000000 in
/-- usableSpines -/
theorem c_X5_usableSpines (l : Launch) (g : am_g) (hI : am_inj (gC g)) (σ : am_M) (a b2 : Nat) (ha : a < 4) (hb2 : b2 < 4) (S : ab_S) (b : Int) (hC : ab_C S σ) (hS : ab_I S b) : Met l yX5_usableSpines wsX5_usableSpines ({ frames := 0, cells := 0, slots := 0, locals := 0 }) (am_P (gC g) σ [.inr (0, 0), .inl ((a : Nat) : Int), .inl ((b2 : Nat) : Int)]) (am_QI (gC g) (fun r σ' => σ' = σ ∧ r = ab_um S a b2)) 0 0 (am_FA (gC g)) := by
  refine wk_start (cc := cX5_usableSpines) (nL := 3) (ret := (some .int)) (own := RX5) (by decide) rfl hI rfl (Nat.le_of_ble_eq_true rfl) ?_
  intro p e s m below meth c C hr hlk
  change wk _ p l e _ s m _ below meth c 0 0 _ _ _ _ 0 [some (.inr (0, 0)), some (.inl ((a : Nat) : Int)), some (.inl ((b2 : Nat) : Int))] [] σ
  have hq := hS.2.2.2.2.2.2.1
  have hm := hC.2.2.2.2.2.2 a ha
  have hm2 := hC.2.2.2.2.2.2 b2 hb2
  refine wk_aload_n C rfl dX5_usableSpines_0 ?_
  refine wk_getr C (k := 0) (ci := 5) (j := 7) (T := TX5) rfl (show 0 < (1:Nat) by decide) rfl in_c_X5_usableSpines_X5 (by decide) (by decide +kernel) rfl dX5_usableSpines_1 ?_
  refine wk_iload_n C rfl dX5_usableSpines_4 ?_
  refine wk_iald C (k := 8) rfl (show 0 < (1:Nat) by decide) (Nat.le_of_ble_eq_true rfl) (a) (by omega) (show _ < (4:Nat) by omega) dX5_usableSpines_5 ?_
  rw [hm]
  refine wk_aload_n C rfl dX5_usableSpines_6 ?_
  refine wk_getr C (k := 0) (ci := 5) (j := 7) (T := TX5) rfl (show 0 < (1:Nat) by decide) rfl in_c_X5_usableSpines_X5 (by decide) (by decide +kernel) rfl dX5_usableSpines_7 ?_
  refine wk_iload_n C rfl dX5_usableSpines_10 ?_
  refine wk_iald C (k := 8) rfl (show 0 < (1:Nat) by decide) (Nat.le_of_ble_eq_true rfl) (b2) (by omega) (show _ < (4:Nat) by omega) dX5_usableSpines_11 ?_
  rw [hm2]
  refine wk_iand C (ab_um S a b2) (ab_um_and hq ha hb2) dX5_usableSpines_12 ?_
  refine wk_iret C hr hlk dX5_usableSpines_13 ?_
  exact ⟨rfl, rfl⟩

set_option maxRecDepth 100000 in
set_option maxHeartbeats 4000000 in
/-- isUsable -/
theorem c_X5_isUsable (l : Launch) (g : am_g) (hI : am_inj (gC g)) (σ : am_M) (s2 a b2 : Nat) (hs2 : s2 < 4) (ha : a < 4) (hb2 : b2 < 4) (S : ab_S) (b : Int) (hC : ab_C S σ) (hS : ab_I S b) : Met l yX5_isUsable wsX5_isUsable ({ frames := 1, cells := 0, slots := 0, locals := 22 }) (am_P (gC g) σ [.inr (0, 0), .inl ((s2 : Nat) : Int), .inl ((a : Nat) : Int), .inl ((b2 : Nat) : Int)]) (am_QI (gC g) (fun r σ' => σ' = σ ∧ r = ab_1 (ab_us S a b2 s2))) 0 0 (am_FA (gC g)) := by
  refine wk_start (cc := cX5_isUsable) (nL := 4) (ret := (some .boolean)) (own := RX5) (by decide) rfl hI rfl (Nat.le_of_ble_eq_true rfl) ?_
  intro p e s m below meth c C hr hlk
  change wk _ p l e _ s m _ below meth c 0 0 _ _ _ _ 0 [some (.inr (0, 0)), some (.inl ((s2 : Nat) : Int)), some (.inl ((a : Nat) : Int)), some (.inl ((b2 : Nat) : Int))] [] σ
  have hu := ab_um_rng S a b2
  have h1r := ab_1r (ab_us S a b2 s2)
  refine wk_aload_n C rfl dX5_isUsable_0 ?_
  refine wk_iload_n C rfl dX5_isUsable_1 ?_
  refine wk_iload_n C rfl dX5_isUsable_2 ?_
  refine wk_ofI C (wk_runV (index := 193) (ci := 5) (st := []) C (c_X5_usableSpines l g hI _ a b2 ha hb2 S b hC hS) (cwV 2 C.2.2.2.2.1 gX5_isUsable_X5_usableSpines rfl rfl rfl (by decide +kernel) ⟨Nat.le_of_ble_eq_true rfl, Nat.le_of_ble_eq_true rfl⟩) rfl (show 0 < (1:Nat) by decide) rfl rfl rfl (Nat.le_of_ble_eq_true rfl) dX5_isUsable_3 ⟨Nat.zero_le _, Nat.zero_le _⟩) (fun r3 σ3 hp3 => ?_)
  obtain ⟨rfl, rfl⟩ := hp3
  refine wk_iload_n C rfl dX5_isUsable_6 ?_
  refine wk_ishr C ((((ab_um S a b2).toNat / 2 ^ s2 : Nat) : Int)) (ab_um_shr S a b2 hs2) dX5_isUsable_7 ?_
  refine wk_iconst C dX5_isUsable_8 ?_
  refine wk_iand C (ab_1 (ab_us S a b2 s2)) (ab_um_bit S a b2 hs2) dX5_isUsable_9 ?_
  refine wk_iconst C dX5_isUsable_10 ?_
  refine wk_icmp_ne C 18 (by omega) (by omega) (by decide) dX5_isUsable_11 (fun hc11 => ?_) (fun hc11 => ?_)
  · skip
    refine wk_iconst C dX5_isUsable_18 ?_
    refine wk_zret C hr hlk (by omega) dX5_isUsable_19 ?_
    exact ⟨rfl, by omega⟩
  · skip
    refine wk_iconst C dX5_isUsable_14 ?_
    refine wk_goto C 19 (by decide) dX5_isUsable_15 ?_
    refine wk_zret C hr hlk (by omega) dX5_isUsable_19 ?_
    exact ⟨rfl, by omega⟩
