/-! the model: its public calls -/
theorem in_c_X6_thrown_X6 : ∀ w ∈ u_ws RX6 TX6 36, w ∈ wsX6_thrown := by decide +kernel
set_option maxRecDepth 100000 in
set_option maxHeartbeats 4000000 in
theorem c_X6_thrown (l : Launch) (g : am_g) (hI : am_inj (gR g)) (σ : am_M)  : Met l yX6_thrown wsX6_thrown ({ frames := 0, cells := 0, slots := 0, locals := 0 }) (am_P (gR g) σ [.inr (20, 0)]) (am_QI (gR g) (fun r σ' => σ' = σ ∧ r = σ 20 0 35)) 0 0 (am_FA (gR g)) := by
  refine wk_start (cc := cX6_thrown) (nL := 1) (ret := (some .int)) (own := RX6) (by decide) rfl hI rfl (Nat.le_of_ble_eq_true rfl) ?_
  intro p e s m below meth c C hr hlk
  change wk _ p l e _ s m _ below meth c 0 0 _ _ _ _ 0 [some (.inr (20, 0))] [] σ
  refine wk_aload_n C rfl dX6_thrown_0 ?_
  refine wk_geti C (k := 20) (ci := 6) (j := 35) (T := TX6) rfl (show 0 < (1:Nat) by decide) rfl in_c_X6_thrown_X6 (by decide) (by decide +kernel) rfl dX6_thrown_1 ?_
  refine wk_iret C hr hlk dX6_thrown_4 ?_
  exact ⟨rfl, rfl⟩

theorem in_c_X6_goes_X6 : ∀ w ∈ u_ws RX6 TX6 36, w ∈ wsX6_goes := by decide +kernel
set_option maxRecDepth 100000 in
set_option maxHeartbeats 4000000 in
theorem c_X6_goes (l : Launch) (g : am_g) (hI : am_inj (gR g)) (σ : am_M) (w : Int) (hw : -2147483648 ≤ w ∧ w < 2147483648)  : Met l yX6_goes wsX6_goes ({ frames := 0, cells := 0, slots := 0, locals := 0 }) (am_P (gR g) σ [.inr (20, 0), .inl (w)]) (am_QI (gR g) (fun r σ' => σ' = am_up σ 20 0 35 w ∧ ((w = 0 ∧ r = 1) ∨ (¬ w = 0 ∧ r = 0)))) 0 0 (am_FA (gR g)) := by
  refine wk_start (cc := cX6_goes) (nL := 2) (ret := (some .boolean)) (own := RX6) (by decide) rfl hI rfl (Nat.le_of_ble_eq_true rfl) ?_
  intro p e s m below meth c C hr hlk
  change wk _ p l e _ s m _ below meth c 0 0 _ _ _ _ 0 [some (.inr (20, 0)), some (.inl (w))] [] σ
  refine wk_aload_n C rfl dX6_goes_0 ?_
  refine wk_iload_n C rfl dX6_goes_1 ?_
  refine wk_put C (k := 20) (ci := 6) (j := 35) (T := TX6) rfl (show 0 < (1:Nat) by decide) rfl in_c_X6_goes_X6 tyX6 tyX6_ok nmX6 (by decide) (by decide +kernel) rfl rfl (by decide +kernel) dX6_goes_2 ?_
  refine wk_iload_n C rfl dX6_goes_5 ?_
  refine wk_if_ne C 13 (by omega) (by decide) dX6_goes_6 (fun hc6 => ?_) (fun hc6 => ?_)
  · skip
    refine wk_iconst C dX6_goes_13 ?_
    refine wk_zret C hr hlk (by omega) dX6_goes_14 ?_
    exact ⟨rfl, by omega⟩
  · skip
    refine wk_iconst C dX6_goes_9 ?_
    refine wk_goto C 14 (by decide) dX6_goes_10 ?_
    refine wk_zret C hr hlk (by omega) dX6_goes_14 ?_
    exact ⟨rfl, by omega⟩

set_option maxRecDepth 100000 in
set_option maxHeartbeats 4000000 in
theorem c_X6_isIn (l : Launch) (g : am_g) (hI : am_inj (gR g)) (σ : am_M) (v lo hi : Int) (hv : -2147483648 ≤ v ∧ v < 2147483648) (hlo : -2147483648 ≤ lo ∧ lo < 2147483648) (hhi : -2147483648 ≤ hi ∧ hi < 2147483648)  : Met l yX6_isIn wsX6_isIn ({ frames := 0, cells := 0, slots := 0, locals := 0 }) (am_P (gR g) σ [.inl (v), .inl (lo), .inl (hi)]) (am_QI (gR g) (fun r σ' => σ' = σ ∧ r = if lo ≤ v ∧ v ≤ hi then 1 else 0)) 0 0 (am_FA (gR g)) := by
  refine wk_start (cc := cX6_isIn) (nL := 3) (ret := (some .boolean)) (own := RX6) (by decide) rfl hI rfl (Nat.le_of_ble_eq_true rfl) ?_
  intro p e s m below meth c C hr hlk
  change wk _ p l e _ s m _ below meth c 0 0 _ _ _ _ 0 [some (.inl (v)), some (.inl (lo)), some (.inl (hi))] [] σ
  refine wk_iload_n C rfl dX6_isIn_0 ?_
  refine wk_iload_n C rfl dX6_isIn_1 ?_
  refine wk_icmp_lt C 14 (by omega) (by omega) (by decide) dX6_isIn_2 (fun hc2 => ?_) (fun hc2 => ?_)
  · skip
    refine wk_iconst C dX6_isIn_14 ?_
    refine wk_zret C hr hlk (by omega) dX6_isIn_15 ?_
    refine ⟨rfl, ?_⟩
    split <;> omega
  · skip
    refine wk_iload_n C rfl dX6_isIn_5 ?_
    refine wk_iload_n C rfl dX6_isIn_6 ?_
    refine wk_icmp_gt C 14 (by omega) (by omega) (by decide) dX6_isIn_7 (fun hc7 => ?_) (fun hc7 => ?_)
    · skip
      refine wk_iconst C dX6_isIn_14 ?_
      refine wk_zret C hr hlk (by omega) dX6_isIn_15 ?_
      refine ⟨rfl, ?_⟩
      split <;> omega
    · skip
      refine wk_iconst C dX6_isIn_10 ?_
      refine wk_goto C 15 (by decide) dX6_isIn_11 ?_
      refine wk_zret C hr hlk (by omega) dX6_isIn_15 ?_
      refine ⟨rfl, ?_⟩
      split <;> omega

set_option maxRecDepth 100000 in
set_option maxHeartbeats 4000000 in
theorem c_X6_isHost (l : Launch) (g : am_g) (hI : am_inj (gR g)) (σ : am_M) (p1 : Int) (hp1 : -2147483648 ≤ p1 ∧ p1 < 2147483648)  : Met l yX6_isHost wsX6_isHost ({ frames := 1, cells := 0, slots := 0, locals := 22 }) (am_P (gR g) σ [.inl (p1)]) (am_QI (gR g) (fun r σ' => σ' = σ ∧ r = if (0 ≤ p1 ∧ p1 < 16) then 1 else 0)) 0 0 (am_FA (gR g)) := by
  refine wk_start (cc := cX6_isHost) (nL := 1) (ret := (some .boolean)) (own := RX6) (by decide) rfl hI rfl (Nat.le_of_ble_eq_true rfl) ?_
  intro p e s m below meth c C hr hlk
  change wk _ p l e _ s m _ below meth c 0 0 _ _ _ _ 0 [some (.inl (p1))] [] σ
  refine wk_iload_n C rfl dX6_isHost_0 ?_
  refine wk_iconst C dX6_isHost_1 ?_
  refine wk_bipush C (n := 15) (by decide) dX6_isHost_2 ?_
  refine wk_ofI C (wk_runS (index := 114) (st := []) C (c_X6_isIn l g hI _ p1 0 15 (by omega) (by omega) (by omega)) (cwS 3 C.2.2.2.2.1 gX6_isHost_X6_isIn rfl rfl rfl (by decide +kernel) ⟨Nat.le_of_ble_eq_true rfl, Nat.le_of_ble_eq_true rfl⟩) rfl rfl (Nat.le_of_ble_eq_true rfl) dX6_isHost_4 ⟨Nat.zero_le _, Nat.zero_le _⟩) (fun r4 σ4 hp4 => ?_)
  obtain ⟨hsg4, hr4⟩ := hp4
  rw [hsg4]
  have hb4 : (r4 = 1 ∧ (0 ≤ p1 ∧ p1 ≤ 15)) ∨ (r4 = 0 ∧ ¬ (0 ≤ p1 ∧ p1 ≤ 15)) := by
    rw [hr4]
    split
    · rename_i z; exact Or.inl ⟨rfl, z⟩
    · rename_i z; exact Or.inr ⟨rfl, z⟩
  refine wk_zret C hr hlk (by omega) dX6_isHost_7 ?_
  refine ⟨rfl, ?_⟩
  split <;> omega

set_option maxRecDepth 100000 in
set_option maxHeartbeats 4000000 in
theorem c_X6_areFour (l : Launch) (g : am_g) (hI : am_inj (gR g)) (σ : am_M) (p1 p2 : Int) (hp1 : -2147483648 ≤ p1 ∧ p1 < 2147483648) (hp2 : -2147483648 ≤ p2 ∧ p2 < 2147483648)  : Met l yX6_areFour wsX6_areFour ({ frames := 1, cells := 0, slots := 0, locals := 22 }) (am_P (gR g) σ [.inl (p1), .inl (p2)]) (am_QI (gR g) (fun r σ' => σ' = σ ∧ r = if ((0 ≤ p1 ∧ p1 < 4) ∧ (0 ≤ p2 ∧ p2 < 4)) then 1 else 0)) 0 0 (am_FA (gR g)) := by
  refine wk_start (cc := cX6_areFour) (nL := 2) (ret := (some .boolean)) (own := RX6) (by decide) rfl hI rfl (Nat.le_of_ble_eq_true rfl) ?_
  intro p e s m below meth c C hr hlk
  change wk _ p l e _ s m _ below meth c 0 0 _ _ _ _ 0 [some (.inl (p1)), some (.inl (p2))] [] σ
  refine wk_iload_n C rfl dX6_areFour_0 ?_
  refine wk_iconst C dX6_areFour_1 ?_
  refine wk_iconst C dX6_areFour_2 ?_
  refine wk_ofI C (wk_runS (index := 114) (st := []) C (c_X6_isIn l g hI _ p1 0 3 (by omega) (by omega) (by omega)) (cwS 3 C.2.2.2.2.1 gX6_areFour_X6_isIn rfl rfl rfl (by decide +kernel) ⟨Nat.le_of_ble_eq_true rfl, Nat.le_of_ble_eq_true rfl⟩) rfl rfl (Nat.le_of_ble_eq_true rfl) dX6_areFour_3 ⟨Nat.zero_le _, Nat.zero_le _⟩) (fun r3 σ3 hp3 => ?_)
  obtain ⟨hsg3, hr3⟩ := hp3
  rw [hsg3]
  have hb3 : (r3 = 1 ∧ (0 ≤ p1 ∧ p1 ≤ 3)) ∨ (r3 = 0 ∧ ¬ (0 ≤ p1 ∧ p1 ≤ 3)) := by
    rw [hr3]
    split
    · rename_i z; exact Or.inl ⟨rfl, z⟩
    · rename_i z; exact Or.inr ⟨rfl, z⟩
  refine wk_if_eq C 22 (by omega) (by decide) dX6_areFour_6 (fun hc6 => ?_) (fun hc6 => ?_)
  · skip
    refine wk_iconst C dX6_areFour_22 ?_
    refine wk_zret C hr hlk (by omega) dX6_areFour_23 ?_
    refine ⟨rfl, ?_⟩
    split <;> omega
  · skip
    refine wk_iload_n C rfl dX6_areFour_9 ?_
    refine wk_iconst C dX6_areFour_10 ?_
    refine wk_iconst C dX6_areFour_11 ?_
    refine wk_ofI C (wk_runS (index := 114) (st := []) C (c_X6_isIn l g hI _ p2 0 3 (by omega) (by omega) (by omega)) (cwS 3 C.2.2.2.2.1 gX6_areFour_X6_isIn rfl rfl rfl (by decide +kernel) ⟨Nat.le_of_ble_eq_true rfl, Nat.le_of_ble_eq_true rfl⟩) rfl rfl (Nat.le_of_ble_eq_true rfl) dX6_areFour_12 ⟨Nat.zero_le _, Nat.zero_le _⟩) (fun r12 σ12 hp12 => ?_)
    obtain ⟨hsg12, hr12⟩ := hp12
    rw [hsg12]
    have hb12 : (r12 = 1 ∧ (0 ≤ p2 ∧ p2 ≤ 3)) ∨ (r12 = 0 ∧ ¬ (0 ≤ p2 ∧ p2 ≤ 3)) := by
      rw [hr12]
      split
      · rename_i z; exact Or.inl ⟨rfl, z⟩
      · rename_i z; exact Or.inr ⟨rfl, z⟩
    refine wk_if_eq C 22 (by omega) (by decide) dX6_areFour_15 (fun hc15 => ?_) (fun hc15 => ?_)
    · skip
      refine wk_iconst C dX6_areFour_22 ?_
      refine wk_zret C hr hlk (by omega) dX6_areFour_23 ?_
      refine ⟨rfl, ?_⟩
      split <;> omega
    · skip
      refine wk_iconst C dX6_areFour_18 ?_
      refine wk_goto C 23 (by decide) dX6_areFour_19 ?_
      refine wk_zret C hr hlk (by omega) dX6_areFour_23 ?_
      refine ⟨rfl, ?_⟩
      split <;> omega

theorem in_c_X6_isFlow_X6 : ∀ w ∈ u_ws RX6 TX6 36, w ∈ wsX6_isFlow := by decide +kernel
set_option maxRecDepth 100000 in
set_option maxHeartbeats 4000000 in
theorem c_X6_isFlow (l : Launch) (g : am_g) (hI : am_inj (gR g)) (σ : am_M) (p1 : Int) (hp1 : -2147483648 ≤ p1 ∧ p1 < 2147483648) (S : ab_S) (b : Int) (hR : ab_R S σ) (hS : ab_I S b) : Met l yX6_isFlow wsX6_isFlow ({ frames := 1, cells := 0, slots := 0, locals := 22 }) (am_P (gR g) σ [.inr (20, 0), .inl (p1)]) (am_QI (gR g) (fun r σ' => σ' = σ ∧ r = if (0 ≤ p1 ∧ p1 < S 19 4) then 1 else 0)) 0 0 (am_FA (gR g)) := by
  refine wk_start (cc := cX6_isFlow) (nL := 2) (ret := (some .boolean)) (own := RX6) (by decide) rfl hI rfl (Nat.le_of_ble_eq_true rfl) ?_
  intro p e s m below meth c C hr hlk
  change wk _ p l e _ s m _ below meth c 0 0 _ _ _ _ 0 [some (.inr (20, 0)), some (.inl (p1))] [] σ
  have hn24 := hS.2.1.2.2.2.2
  refine wk_iload_n C rfl dX6_isFlow_0 ?_
  refine wk_iconst C dX6_isFlow_1 ?_
  refine wk_aload_n C rfl dX6_isFlow_2 ?_
  refine wk_geti C (k := 20) (ci := 6) (j := 4) (T := TX6) rfl (show 0 < (1:Nat) by decide) rfl in_c_X6_isFlow_X6 (by decide) (by decide +kernel) rfl dX6_isFlow_3 ?_
  rw [hR.1.1]
  refine wk_iconst C dX6_isFlow_6 ?_
  refine wk_isub C dX6_isFlow_7 ?_
  refine wk_ofI C (wk_runS (index := 114) (st := []) C (c_X6_isIn l g hI _ p1 0 (S 19 4 - 1) (by omega) (by omega) (by omega)) (cwS 3 C.2.2.2.2.1 gX6_isFlow_X6_isIn rfl rfl rfl (by decide +kernel) ⟨Nat.le_of_ble_eq_true rfl, Nat.le_of_ble_eq_true rfl⟩) rfl rfl (Nat.le_of_ble_eq_true rfl) dX6_isFlow_8 ⟨Nat.zero_le _, Nat.zero_le _⟩) (fun r8 σ8 hp8 => ?_)
  obtain ⟨hsg8, hr8⟩ := hp8
  rw [hsg8]
  have hb8 : (r8 = 1 ∧ (0 ≤ p1 ∧ p1 ≤ S 19 4 - 1)) ∨ (r8 = 0 ∧ ¬ (0 ≤ p1 ∧ p1 ≤ S 19 4 - 1)) := by
    rw [hr8]
    split
    · rename_i z; exact Or.inl ⟨rfl, z⟩
    · rename_i z; exact Or.inr ⟨rfl, z⟩
  refine wk_zret C hr hlk (by omega) dX6_isFlow_11 ?_
  refine ⟨rfl, ?_⟩
  split <;> omega

set_option maxRecDepth 100000 in
set_option maxHeartbeats 4000000 in
theorem c_X6_asks (l : Launch) (g : am_g) (hI : am_inj (gR g)) (σ : am_M) (p1 : Int) (hp1 : -2147483648 ≤ p1 ∧ p1 < 2147483648) (S : ab_S) (b : Int) (hR : ab_R S σ) (hS : ab_I S b) : Met l yX6_asks wsX6_asks ({ frames := 2, cells := 0, slots := 0, locals := 43 }) (am_P (gR g) σ [.inr (20, 0), .inl (p1)]) (am_QI (gR g) (fun r σ' => ((0 ≤ p1 ∧ p1 < S 19 4) ∧ σ' = am_up σ 20 0 35 0 ∧ r = 1) ∨ (¬ ((0 ≤ p1 ∧ p1 < S 19 4)) ∧ σ' = am_up σ 20 0 35 1 ∧ r = 0))) 0 0 (am_FA (gR g)) := by
  refine wk_start (cc := cX6_asks) (nL := 2) (ret := (some .boolean)) (own := RX6) (by decide) rfl hI rfl (Nat.le_of_ble_eq_true rfl) ?_
  intro p e s m below meth c C hr hlk
  change wk _ p l e _ s m _ below meth c 0 0 _ _ _ _ 0 [some (.inr (20, 0)), some (.inl (p1))] [] σ
  have hj14 : ∀ w : Int, (w = 0 ∧ ((0 ≤ p1 ∧ p1 < S 19 4))) ∨ (w = 1 ∧ ¬ ((0 ≤ p1 ∧ p1 < S 19 4))) → wk (gR g) p l e (headSpec wsX6_asks ({ frames := 2, cells := 0, slots := 0, locals := 43 })).room s m ([.inr (20, 0), .inl (p1)].map (am_tv (gR g))).toArray below meth c 0 0 (MQ below (am_QI (gR g) (fun r σ' => ((0 ≤ p1 ∧ p1 < S 19 4) ∧ σ' = am_up σ 20 0 35 0 ∧ r = 1) ∨ (¬ ((0 ≤ p1 ∧ p1 < S 19 4)) ∧ σ' = am_up σ 20 0 35 1 ∧ r = 0))) ([.inr (20, 0), .inl (p1)].map (am_tv (gR g))).toArray s 0 0 (am_FA (gR g))) (am_FA (gR g)) s.heap 2 14 [some (.inr (20, 0)), some (.inl (p1))] [.inl (w), .inr (20, 0)] σ := by
    intro w hw
    refine wk_ofI C (wk_runV (index := 124) (ci := 6) (st := []) C (c_X6_goes l g hI _ w (by omega)) (cwV 1 C.2.2.2.2.1 gX6_asks_X6_goes rfl rfl rfl (by decide +kernel) ⟨Nat.le_of_ble_eq_true rfl, Nat.le_of_ble_eq_true rfl⟩) rfl (show 0 < (1:Nat) by decide) rfl rfl rfl (Nat.le_of_ble_eq_true rfl) dX6_asks_14 ⟨Nat.zero_le _, Nat.zero_le _⟩) (fun r14 σ14 hp14 => ?_)
    obtain ⟨rfl, hg14⟩ := hp14
    refine wk_zret C hr hlk (by omega) dX6_asks_17 ?_
    rcases hw with hw | hw
    · obtain ⟨rfl, hok⟩ := hw
      exact Or.inl ⟨hok, rfl, by omega⟩
    · obtain ⟨rfl, hok⟩ := hw
      exact Or.inr ⟨hok, rfl, by omega⟩
  refine wk_aload_n C rfl dX6_asks_0 ?_
  refine wk_aload_n C rfl dX6_asks_1 ?_
  refine wk_iload_n C rfl dX6_asks_2 ?_
  refine wk_ofI C (wk_runV (index := 212) (ci := 6) (st := [_]) C (c_X6_isFlow l g hI _ p1 hp1 S b hR hS) (cwV 1 C.2.2.2.2.1 gX6_asks_X6_isFlow rfl rfl rfl (by decide +kernel) ⟨Nat.le_of_ble_eq_true rfl, Nat.le_of_ble_eq_true rfl⟩) rfl (show 0 < (1:Nat) by decide) rfl rfl rfl (Nat.le_of_ble_eq_true rfl) dX6_asks_3 ⟨Nat.zero_le _, Nat.zero_le _⟩) (fun r3 σ3 hp3 => ?_)
  obtain ⟨hsg3, hr3⟩ := hp3
  rw [hsg3]
  have hb3 : (r3 = 1 ∧ ((0 ≤ p1 ∧ p1 < S 19 4))) ∨ (r3 = 0 ∧ ¬ ((0 ≤ p1 ∧ p1 < S 19 4))) := by
    rw [hr3]
    split
    · rename_i z; exact Or.inl ⟨rfl, z⟩
    · rename_i z; exact Or.inr ⟨rfl, z⟩
  refine wk_if_eq C 13 (by omega) (by decide) dX6_asks_6 (fun hc6 => ?_) (fun hc6 => ?_)
  · skip
    refine wk_iconst C dX6_asks_13 ?_
    exact hj14 _ (by omega)
  · skip
    refine wk_iconst C dX6_asks_9 ?_
    refine wk_goto C 14 (by decide) dX6_asks_10 ?_
    exact hj14 _ (by omega)

theorem in_c_X6_sent_X6 : ∀ w ∈ u_ws RX6 TX6 36, w ∈ wsX6_sent := by decide +kernel
set_option maxRecDepth 100000 in
set_option maxHeartbeats 4000000 in
theorem c_X6_sent (l : Launch) (g : am_g) (hI : am_inj (gR g)) (σ : am_M) (p1 : Int) (hp1 : -2147483648 ≤ p1 ∧ p1 < 2147483648) (S : ab_S) (b : Int) (hR : ab_R S σ) (hS : ab_I S b) : Met l yX6_sent wsX6_sent ({ frames := 3, cells := 0, slots := 0, locals := 64 }) (am_P (gR g) σ [.inr (20, 0), .inl (p1)]) (am_QI (gR g) (fun r σ' => ((0 ≤ p1 ∧ p1 < S 19 4) ∧ ab_R (ab_u S 19 5 0) σ' ∧ r = S 4 p1.toNat) ∨ (¬ ((0 ≤ p1 ∧ p1 < S 19 4)) ∧ ab_R (ab_u S 19 5 1) σ'))) 0 0 (am_FA (gR g)) := by
  refine wk_start (cc := cX6_sent) (nL := 2) (ret := (some .int)) (own := RX6) (by decide) rfl hI rfl (Nat.le_of_ble_eq_true rfl) ?_
  intro p e s m below meth c C hr hlk
  change wk _ p l e _ s m _ below meth c 0 0 _ _ _ _ 0 [some (.inr (20, 0)), some (.inl (p1))] [] σ
  have hn24 := hS.2.1.2.2.2.2
  refine wk_aload_n C rfl dX6_sent_0 ?_
  refine wk_iload_n C rfl dX6_sent_1 ?_
  refine wk_ofI C (wk_runV (index := 215) (ci := 6) (st := []) C (c_X6_asks l g hI _ p1 hp1 S b hR hS) (cwV 1 C.2.2.2.2.1 gX6_sent_X6_asks rfl rfl rfl (by decide +kernel) ⟨Nat.le_of_ble_eq_true rfl, Nat.le_of_ble_eq_true rfl⟩) rfl (show 0 < (1:Nat) by decide) rfl rfl rfl (Nat.le_of_ble_eq_true rfl) dX6_sent_2 ⟨Nat.zero_le _, Nat.zero_le _⟩) (fun r2 σ2 hp2 => ?_)
  have hb2 : r2 = 0 ∨ r2 = 1 := by omega
  refine wk_if_eq C 17 (by omega) (by decide) dX6_sent_5 (fun hc5 => ?_) (fun hc5 => ?_)
  · skip
    have hp2 := hp2.resolve_left (fun z => by have := z.2.2; omega)
    obtain ⟨hok, hsg, hr0⟩ := hp2
    rw [hsg]
    refine wk_iconst C dX6_sent_17 ?_
    refine wk_iret C hr hlk dX6_sent_18 ?_
    first
      | exact Or.inr ⟨hok, R_th hR _⟩
      | exact Or.inl ⟨hok, R_th hR _, rfl⟩
  · skip
    have hp2 := hp2.resolve_right (fun z => by have := z.2.2; omega)
    obtain ⟨hok, hsg, hr0⟩ := hp2
    rw [hsg]
    refine wk_aload_n C rfl dX6_sent_8 ?_
    refine wk_getr C (k := 20) (ci := 6) (j := 9) (T := TX6) rfl (show 0 < (1:Nat) by decide) rfl in_c_X6_sent_X6 (by decide) (by decide +kernel) rfl dX6_sent_9 ?_
    refine wk_iload_n C rfl dX6_sent_12 ?_
    refine wk_iald C (k := 29) rfl (show 0 < (1:Nat) by decide) (Nat.le_of_ble_eq_true rfl) (p1.toNat) (Int.toNat_of_nonneg hok.1).symm (show _ < (24:Nat) by omega) dX6_sent_13 ?_
    rw [am_up_app, if_neg (by omega), show σ 29 0 p1.toNat = S 4 p1.toNat from hR.2.1 _ 4 (by omega) (by omega)]
    refine wk_goto C 18 (by decide) dX6_sent_14 ?_
    refine wk_iret C hr hlk dX6_sent_18 ?_
    first
      | exact Or.inr ⟨hok, R_th hR _⟩
      | exact Or.inl ⟨hok, R_th hR _, rfl⟩

theorem in_c_X6_delivered_X6 : ∀ w ∈ u_ws RX6 TX6 36, w ∈ wsX6_delivered := by decide +kernel
set_option maxRecDepth 100000 in
set_option maxHeartbeats 4000000 in
theorem c_X6_delivered (l : Launch) (g : am_g) (hI : am_inj (gR g)) (σ : am_M) (p1 : Int) (hp1 : -2147483648 ≤ p1 ∧ p1 < 2147483648) (S : ab_S) (b : Int) (hR : ab_R S σ) (hS : ab_I S b) : Met l yX6_delivered wsX6_delivered ({ frames := 3, cells := 0, slots := 0, locals := 64 }) (am_P (gR g) σ [.inr (20, 0), .inl (p1)]) (am_QI (gR g) (fun r σ' => ((0 ≤ p1 ∧ p1 < S 19 4) ∧ ab_R (ab_u S 19 5 0) σ' ∧ r = S 5 p1.toNat) ∨ (¬ ((0 ≤ p1 ∧ p1 < S 19 4)) ∧ ab_R (ab_u S 19 5 1) σ'))) 0 0 (am_FA (gR g)) := by
  refine wk_start (cc := cX6_delivered) (nL := 2) (ret := (some .int)) (own := RX6) (by decide) rfl hI rfl (Nat.le_of_ble_eq_true rfl) ?_
  intro p e s m below meth c C hr hlk
  change wk _ p l e _ s m _ below meth c 0 0 _ _ _ _ 0 [some (.inr (20, 0)), some (.inl (p1))] [] σ
  have hn24 := hS.2.1.2.2.2.2
  refine wk_aload_n C rfl dX6_delivered_0 ?_
  refine wk_iload_n C rfl dX6_delivered_1 ?_
  refine wk_ofI C (wk_runV (index := 215) (ci := 6) (st := []) C (c_X6_asks l g hI _ p1 hp1 S b hR hS) (cwV 1 C.2.2.2.2.1 gX6_delivered_X6_asks rfl rfl rfl (by decide +kernel) ⟨Nat.le_of_ble_eq_true rfl, Nat.le_of_ble_eq_true rfl⟩) rfl (show 0 < (1:Nat) by decide) rfl rfl rfl (Nat.le_of_ble_eq_true rfl) dX6_delivered_2 ⟨Nat.zero_le _, Nat.zero_le _⟩) (fun r2 σ2 hp2 => ?_)
  have hb2 : r2 = 0 ∨ r2 = 1 := by omega
  refine wk_if_eq C 17 (by omega) (by decide) dX6_delivered_5 (fun hc5 => ?_) (fun hc5 => ?_)
  · skip
    have hp2 := hp2.resolve_left (fun z => by have := z.2.2; omega)
    obtain ⟨hok, hsg, hr0⟩ := hp2
    rw [hsg]
    refine wk_iconst C dX6_delivered_17 ?_
    refine wk_iret C hr hlk dX6_delivered_18 ?_
    first
      | exact Or.inr ⟨hok, R_th hR _⟩
      | exact Or.inl ⟨hok, R_th hR _, rfl⟩
  · skip
    have hp2 := hp2.resolve_right (fun z => by have := z.2.2; omega)
    obtain ⟨hok, hsg, hr0⟩ := hp2
    rw [hsg]
    refine wk_aload_n C rfl dX6_delivered_8 ?_
    refine wk_getr C (k := 20) (ci := 6) (j := 10) (T := TX6) rfl (show 0 < (1:Nat) by decide) rfl in_c_X6_delivered_X6 (by decide) (by decide +kernel) rfl dX6_delivered_9 ?_
    refine wk_iload_n C rfl dX6_delivered_12 ?_
    refine wk_iald C (k := 30) rfl (show 0 < (1:Nat) by decide) (Nat.le_of_ble_eq_true rfl) (p1.toNat) (Int.toNat_of_nonneg hok.1).symm (show _ < (24:Nat) by omega) dX6_delivered_13 ?_
    rw [am_up_app, if_neg (by omega), show σ 30 0 p1.toNat = S 5 p1.toNat from hR.2.1 _ 5 (by omega) (by omega)]
    refine wk_goto C 18 (by decide) dX6_delivered_14 ?_
    refine wk_iret C hr hlk dX6_delivered_18 ?_
    first
      | exact Or.inr ⟨hok, R_th hR _⟩
      | exact Or.inl ⟨hok, R_th hR _, rfl⟩

theorem in_c_X6_lost_X6 : ∀ w ∈ u_ws RX6 TX6 36, w ∈ wsX6_lost := by decide +kernel
set_option maxRecDepth 100000 in
set_option maxHeartbeats 4000000 in
theorem c_X6_lost (l : Launch) (g : am_g) (hI : am_inj (gR g)) (σ : am_M) (p1 : Int) (hp1 : -2147483648 ≤ p1 ∧ p1 < 2147483648) (S : ab_S) (b : Int) (hR : ab_R S σ) (hS : ab_I S b) : Met l yX6_lost wsX6_lost ({ frames := 3, cells := 0, slots := 0, locals := 64 }) (am_P (gR g) σ [.inr (20, 0), .inl (p1)]) (am_QI (gR g) (fun r σ' => ((0 ≤ p1 ∧ p1 < S 19 4) ∧ ab_R (ab_u S 19 5 0) σ' ∧ r = S 6 p1.toNat) ∨ (¬ ((0 ≤ p1 ∧ p1 < S 19 4)) ∧ ab_R (ab_u S 19 5 1) σ'))) 0 0 (am_FA (gR g)) := by
  refine wk_start (cc := cX6_lost) (nL := 2) (ret := (some .int)) (own := RX6) (by decide) rfl hI rfl (Nat.le_of_ble_eq_true rfl) ?_
  intro p e s m below meth c C hr hlk
  change wk _ p l e _ s m _ below meth c 0 0 _ _ _ _ 0 [some (.inr (20, 0)), some (.inl (p1))] [] σ
  have hn24 := hS.2.1.2.2.2.2
  refine wk_aload_n C rfl dX6_lost_0 ?_
  refine wk_iload_n C rfl dX6_lost_1 ?_
  refine wk_ofI C (wk_runV (index := 215) (ci := 6) (st := []) C (c_X6_asks l g hI _ p1 hp1 S b hR hS) (cwV 1 C.2.2.2.2.1 gX6_lost_X6_asks rfl rfl rfl (by decide +kernel) ⟨Nat.le_of_ble_eq_true rfl, Nat.le_of_ble_eq_true rfl⟩) rfl (show 0 < (1:Nat) by decide) rfl rfl rfl (Nat.le_of_ble_eq_true rfl) dX6_lost_2 ⟨Nat.zero_le _, Nat.zero_le _⟩) (fun r2 σ2 hp2 => ?_)
  have hb2 : r2 = 0 ∨ r2 = 1 := by omega
  refine wk_if_eq C 17 (by omega) (by decide) dX6_lost_5 (fun hc5 => ?_) (fun hc5 => ?_)
  · skip
    have hp2 := hp2.resolve_left (fun z => by have := z.2.2; omega)
    obtain ⟨hok, hsg, hr0⟩ := hp2
    rw [hsg]
    refine wk_iconst C dX6_lost_17 ?_
    refine wk_iret C hr hlk dX6_lost_18 ?_
    first
      | exact Or.inr ⟨hok, R_th hR _⟩
      | exact Or.inl ⟨hok, R_th hR _, rfl⟩
  · skip
    have hp2 := hp2.resolve_right (fun z => by have := z.2.2; omega)
    obtain ⟨hok, hsg, hr0⟩ := hp2
    rw [hsg]
    refine wk_aload_n C rfl dX6_lost_8 ?_
    refine wk_getr C (k := 20) (ci := 6) (j := 11) (T := TX6) rfl (show 0 < (1:Nat) by decide) rfl in_c_X6_lost_X6 (by decide) (by decide +kernel) rfl dX6_lost_9 ?_
    refine wk_iload_n C rfl dX6_lost_12 ?_
    refine wk_iald C (k := 31) rfl (show 0 < (1:Nat) by decide) (Nat.le_of_ble_eq_true rfl) (p1.toNat) (Int.toNat_of_nonneg hok.1).symm (show _ < (24:Nat) by omega) dX6_lost_13 ?_
    rw [am_up_app, if_neg (by omega), show σ 31 0 p1.toNat = S 6 p1.toNat from hR.2.1 _ 6 (by omega) (by omega)]
    refine wk_goto C 18 (by decide) dX6_lost_14 ?_
    refine wk_iret C hr hlk dX6_lost_18 ?_
    first
      | exact Or.inr ⟨hok, R_th hR _⟩
      | exact Or.inl ⟨hok, R_th hR _, rfl⟩

theorem in_c_X6_outOfOrder_X6 : ∀ w ∈ u_ws RX6 TX6 36, w ∈ wsX6_outOfOrder := by decide +kernel
set_option maxRecDepth 100000 in
set_option maxHeartbeats 4000000 in
theorem c_X6_outOfOrder (l : Launch) (g : am_g) (hI : am_inj (gR g)) (σ : am_M) (p1 : Int) (hp1 : -2147483648 ≤ p1 ∧ p1 < 2147483648) (S : ab_S) (b : Int) (hR : ab_R S σ) (hS : ab_I S b) : Met l yX6_outOfOrder wsX6_outOfOrder ({ frames := 3, cells := 0, slots := 0, locals := 64 }) (am_P (gR g) σ [.inr (20, 0), .inl (p1)]) (am_QI (gR g) (fun r σ' => ((0 ≤ p1 ∧ p1 < S 19 4) ∧ ab_R (ab_u S 19 5 0) σ' ∧ r = S 7 p1.toNat) ∨ (¬ ((0 ≤ p1 ∧ p1 < S 19 4)) ∧ ab_R (ab_u S 19 5 1) σ'))) 0 0 (am_FA (gR g)) := by
  refine wk_start (cc := cX6_outOfOrder) (nL := 2) (ret := (some .int)) (own := RX6) (by decide) rfl hI rfl (Nat.le_of_ble_eq_true rfl) ?_
  intro p e s m below meth c C hr hlk
  change wk _ p l e _ s m _ below meth c 0 0 _ _ _ _ 0 [some (.inr (20, 0)), some (.inl (p1))] [] σ
  have hn24 := hS.2.1.2.2.2.2
  refine wk_aload_n C rfl dX6_outOfOrder_0 ?_
  refine wk_iload_n C rfl dX6_outOfOrder_1 ?_
  refine wk_ofI C (wk_runV (index := 215) (ci := 6) (st := []) C (c_X6_asks l g hI _ p1 hp1 S b hR hS) (cwV 1 C.2.2.2.2.1 gX6_outOfOrder_X6_asks rfl rfl rfl (by decide +kernel) ⟨Nat.le_of_ble_eq_true rfl, Nat.le_of_ble_eq_true rfl⟩) rfl (show 0 < (1:Nat) by decide) rfl rfl rfl (Nat.le_of_ble_eq_true rfl) dX6_outOfOrder_2 ⟨Nat.zero_le _, Nat.zero_le _⟩) (fun r2 σ2 hp2 => ?_)
  have hb2 : r2 = 0 ∨ r2 = 1 := by omega
  refine wk_if_eq C 17 (by omega) (by decide) dX6_outOfOrder_5 (fun hc5 => ?_) (fun hc5 => ?_)
  · skip
    have hp2 := hp2.resolve_left (fun z => by have := z.2.2; omega)
    obtain ⟨hok, hsg, hr0⟩ := hp2
    rw [hsg]
    refine wk_iconst C dX6_outOfOrder_17 ?_
    refine wk_iret C hr hlk dX6_outOfOrder_18 ?_
    first
      | exact Or.inr ⟨hok, R_th hR _⟩
      | exact Or.inl ⟨hok, R_th hR _, rfl⟩
  · skip
    have hp2 := hp2.resolve_right (fun z => by have := z.2.2; omega)
    obtain ⟨hok, hsg, hr0⟩ := hp2
    rw [hsg]
    refine wk_aload_n C rfl dX6_outOfOrder_8 ?_
    refine wk_getr C (k := 20) (ci := 6) (j := 12) (T := TX6) rfl (show 0 < (1:Nat) by decide) rfl in_c_X6_outOfOrder_X6 (by decide) (by decide +kernel) rfl dX6_outOfOrder_9 ?_
    refine wk_iload_n C rfl dX6_outOfOrder_12 ?_
    refine wk_iald C (k := 32) rfl (show 0 < (1:Nat) by decide) (Nat.le_of_ble_eq_true rfl) (p1.toNat) (Int.toNat_of_nonneg hok.1).symm (show _ < (24:Nat) by omega) dX6_outOfOrder_13 ?_
    rw [am_up_app, if_neg (by omega), show σ 32 0 p1.toNat = S 7 p1.toNat from hR.2.1 _ 7 (by omega) (by omega)]
    refine wk_goto C 18 (by decide) dX6_outOfOrder_14 ?_
    refine wk_iret C hr hlk dX6_outOfOrder_18 ?_
    first
      | exact Or.inr ⟨hok, R_th hR _⟩
      | exact Or.inl ⟨hok, R_th hR _, rfl⟩

theorem in_c_X6_doneIn_X6 : ∀ w ∈ u_ws RX6 TX6 36, w ∈ wsX6_doneIn := by decide +kernel
set_option maxRecDepth 100000 in
set_option maxHeartbeats 4000000 in
theorem c_X6_doneIn (l : Launch) (g : am_g) (hI : am_inj (gR g)) (σ : am_M) (p1 : Int) (hp1 : -2147483648 ≤ p1 ∧ p1 < 2147483648) (S : ab_S) (b : Int) (hR : ab_R S σ) (hS : ab_I S b) : Met l yX6_doneIn wsX6_doneIn ({ frames := 3, cells := 0, slots := 0, locals := 64 }) (am_P (gR g) σ [.inr (20, 0), .inl (p1)]) (am_QI (gR g) (fun r σ' => ((0 ≤ p1 ∧ p1 < S 19 4) ∧ ab_R (ab_u S 19 5 0) σ' ∧ r = S 9 p1.toNat) ∨ (¬ ((0 ≤ p1 ∧ p1 < S 19 4)) ∧ ab_R (ab_u S 19 5 1) σ'))) 0 0 (am_FA (gR g)) := by
  refine wk_start (cc := cX6_doneIn) (nL := 2) (ret := (some .int)) (own := RX6) (by decide) rfl hI rfl (Nat.le_of_ble_eq_true rfl) ?_
  intro p e s m below meth c C hr hlk
  change wk _ p l e _ s m _ below meth c 0 0 _ _ _ _ 0 [some (.inr (20, 0)), some (.inl (p1))] [] σ
  have hn24 := hS.2.1.2.2.2.2
  refine wk_aload_n C rfl dX6_doneIn_0 ?_
  refine wk_iload_n C rfl dX6_doneIn_1 ?_
  refine wk_ofI C (wk_runV (index := 215) (ci := 6) (st := []) C (c_X6_asks l g hI _ p1 hp1 S b hR hS) (cwV 1 C.2.2.2.2.1 gX6_doneIn_X6_asks rfl rfl rfl (by decide +kernel) ⟨Nat.le_of_ble_eq_true rfl, Nat.le_of_ble_eq_true rfl⟩) rfl (show 0 < (1:Nat) by decide) rfl rfl rfl (Nat.le_of_ble_eq_true rfl) dX6_doneIn_2 ⟨Nat.zero_le _, Nat.zero_le _⟩) (fun r2 σ2 hp2 => ?_)
  have hb2 : r2 = 0 ∨ r2 = 1 := by omega
  refine wk_if_eq C 17 (by omega) (by decide) dX6_doneIn_5 (fun hc5 => ?_) (fun hc5 => ?_)
  · skip
    have hp2 := hp2.resolve_left (fun z => by have := z.2.2; omega)
    obtain ⟨hok, hsg, hr0⟩ := hp2
    rw [hsg]
    refine wk_iconst C dX6_doneIn_17 ?_
    refine wk_iret C hr hlk dX6_doneIn_18 ?_
    first
      | exact Or.inr ⟨hok, R_th hR _⟩
      | exact Or.inl ⟨hok, R_th hR _, rfl⟩
  · skip
    have hp2 := hp2.resolve_right (fun z => by have := z.2.2; omega)
    obtain ⟨hok, hsg, hr0⟩ := hp2
    rw [hsg]
    refine wk_aload_n C rfl dX6_doneIn_8 ?_
    refine wk_getr C (k := 20) (ci := 6) (j := 14) (T := TX6) rfl (show 0 < (1:Nat) by decide) rfl in_c_X6_doneIn_X6 (by decide) (by decide +kernel) rfl dX6_doneIn_9 ?_
    refine wk_iload_n C rfl dX6_doneIn_12 ?_
    refine wk_iald C (k := 34) rfl (show 0 < (1:Nat) by decide) (Nat.le_of_ble_eq_true rfl) (p1.toNat) (Int.toNat_of_nonneg hok.1).symm (show _ < (24:Nat) by omega) dX6_doneIn_13 ?_
    rw [am_up_app, if_neg (by omega), show σ 34 0 p1.toNat = S 9 p1.toNat from hR.2.1 _ 9 (by omega) (by omega)]
    refine wk_goto C 18 (by decide) dX6_doneIn_14 ?_
    refine wk_iret C hr hlk dX6_doneIn_18 ?_
    first
      | exact Or.inr ⟨hok, R_th hR _⟩
      | exact Or.inl ⟨hok, R_th hR _, rfl⟩

theorem in_c_X6_flowlets_X6 : ∀ w ∈ u_ws RX6 TX6 36, w ∈ wsX6_flowlets := by decide +kernel
set_option maxRecDepth 100000 in
set_option maxHeartbeats 4000000 in
theorem c_X6_flowlets (l : Launch) (g : am_g) (hI : am_inj (gR g)) (σ : am_M) (p1 : Int) (hp1 : -2147483648 ≤ p1 ∧ p1 < 2147483648) (S : ab_S) (b : Int) (hR : ab_R S σ) (hS : ab_I S b) : Met l yX6_flowlets wsX6_flowlets ({ frames := 3, cells := 0, slots := 0, locals := 64 }) (am_P (gR g) σ [.inr (20, 0), .inl (p1)]) (am_QI (gR g) (fun r σ' => ((0 ≤ p1 ∧ p1 < S 19 4) ∧ ab_R (ab_u S 19 5 0) σ' ∧ r = S 10 p1.toNat) ∨ (¬ ((0 ≤ p1 ∧ p1 < S 19 4)) ∧ ab_R (ab_u S 19 5 1) σ'))) 0 0 (am_FA (gR g)) := by
  refine wk_start (cc := cX6_flowlets) (nL := 2) (ret := (some .int)) (own := RX6) (by decide) rfl hI rfl (Nat.le_of_ble_eq_true rfl) ?_
  intro p e s m below meth c C hr hlk
  change wk _ p l e _ s m _ below meth c 0 0 _ _ _ _ 0 [some (.inr (20, 0)), some (.inl (p1))] [] σ
  have hn24 := hS.2.1.2.2.2.2
  refine wk_aload_n C rfl dX6_flowlets_0 ?_
  refine wk_iload_n C rfl dX6_flowlets_1 ?_
  refine wk_ofI C (wk_runV (index := 215) (ci := 6) (st := []) C (c_X6_asks l g hI _ p1 hp1 S b hR hS) (cwV 1 C.2.2.2.2.1 gX6_flowlets_X6_asks rfl rfl rfl (by decide +kernel) ⟨Nat.le_of_ble_eq_true rfl, Nat.le_of_ble_eq_true rfl⟩) rfl (show 0 < (1:Nat) by decide) rfl rfl rfl (Nat.le_of_ble_eq_true rfl) dX6_flowlets_2 ⟨Nat.zero_le _, Nat.zero_le _⟩) (fun r2 σ2 hp2 => ?_)
  have hb2 : r2 = 0 ∨ r2 = 1 := by omega
  refine wk_if_eq C 17 (by omega) (by decide) dX6_flowlets_5 (fun hc5 => ?_) (fun hc5 => ?_)
  · skip
    have hp2 := hp2.resolve_left (fun z => by have := z.2.2; omega)
    obtain ⟨hok, hsg, hr0⟩ := hp2
    rw [hsg]
    refine wk_iconst C dX6_flowlets_17 ?_
    refine wk_iret C hr hlk dX6_flowlets_18 ?_
    first
      | exact Or.inr ⟨hok, R_th hR _⟩
      | exact Or.inl ⟨hok, R_th hR _, rfl⟩
  · skip
    have hp2 := hp2.resolve_right (fun z => by have := z.2.2; omega)
    obtain ⟨hok, hsg, hr0⟩ := hp2
    rw [hsg]
    refine wk_aload_n C rfl dX6_flowlets_8 ?_
    refine wk_getr C (k := 20) (ci := 6) (j := 15) (T := TX6) rfl (show 0 < (1:Nat) by decide) rfl in_c_X6_flowlets_X6 (by decide) (by decide +kernel) rfl dX6_flowlets_9 ?_
    refine wk_iload_n C rfl dX6_flowlets_12 ?_
    refine wk_iald C (k := 35) rfl (show 0 < (1:Nat) by decide) (Nat.le_of_ble_eq_true rfl) (p1.toNat) (Int.toNat_of_nonneg hok.1).symm (show _ < (24:Nat) by omega) dX6_flowlets_13 ?_
    rw [am_up_app, if_neg (by omega), show σ 35 0 p1.toNat = S 10 p1.toNat from hR.2.1 _ 10 (by omega) (by omega)]
    refine wk_goto C 18 (by decide) dX6_flowlets_14 ?_
    refine wk_iret C hr hlk dX6_flowlets_18 ?_
    first
      | exact Or.inr ⟨hok, R_th hR _⟩
      | exact Or.inl ⟨hok, R_th hR _, rfl⟩

theorem in_c_X6_spineOf_X6 : ∀ w ∈ u_ws RX6 TX6 36, w ∈ wsX6_spineOf := by decide +kernel
set_option maxRecDepth 100000 in
set_option maxHeartbeats 4000000 in
theorem c_X6_spineOf (l : Launch) (g : am_g) (hI : am_inj (gR g)) (σ : am_M) (p1 : Int) (hp1 : -2147483648 ≤ p1 ∧ p1 < 2147483648) (S : ab_S) (b : Int) (hR : ab_R S σ) (hS : ab_I S b) : Met l yX6_spineOf wsX6_spineOf ({ frames := 3, cells := 0, slots := 0, locals := 64 }) (am_P (gR g) σ [.inr (20, 0), .inl (p1)]) (am_QI (gR g) (fun r σ' => ((0 ≤ p1 ∧ p1 < S 19 4) ∧ ab_R (ab_u S 19 5 0) σ' ∧ r = S 11 p1.toNat) ∨ (¬ ((0 ≤ p1 ∧ p1 < S 19 4)) ∧ ab_R (ab_u S 19 5 1) σ'))) 0 0 (am_FA (gR g)) := by
  refine wk_start (cc := cX6_spineOf) (nL := 2) (ret := (some .int)) (own := RX6) (by decide) rfl hI rfl (Nat.le_of_ble_eq_true rfl) ?_
  intro p e s m below meth c C hr hlk
  change wk _ p l e _ s m _ below meth c 0 0 _ _ _ _ 0 [some (.inr (20, 0)), some (.inl (p1))] [] σ
  have hn24 := hS.2.1.2.2.2.2
  refine wk_aload_n C rfl dX6_spineOf_0 ?_
  refine wk_iload_n C rfl dX6_spineOf_1 ?_
  refine wk_ofI C (wk_runV (index := 215) (ci := 6) (st := []) C (c_X6_asks l g hI _ p1 hp1 S b hR hS) (cwV 1 C.2.2.2.2.1 gX6_spineOf_X6_asks rfl rfl rfl (by decide +kernel) ⟨Nat.le_of_ble_eq_true rfl, Nat.le_of_ble_eq_true rfl⟩) rfl (show 0 < (1:Nat) by decide) rfl rfl rfl (Nat.le_of_ble_eq_true rfl) dX6_spineOf_2 ⟨Nat.zero_le _, Nat.zero_le _⟩) (fun r2 σ2 hp2 => ?_)
  have hb2 : r2 = 0 ∨ r2 = 1 := by omega
  refine wk_if_eq C 17 (by omega) (by decide) dX6_spineOf_5 (fun hc5 => ?_) (fun hc5 => ?_)
  · skip
    have hp2 := hp2.resolve_left (fun z => by have := z.2.2; omega)
    obtain ⟨hok, hsg, hr0⟩ := hp2
    rw [hsg]
    refine wk_iconst C dX6_spineOf_17 ?_
    refine wk_iret C hr hlk dX6_spineOf_18 ?_
    first
      | exact Or.inr ⟨hok, R_th hR _⟩
      | exact Or.inl ⟨hok, R_th hR _, rfl⟩
  · skip
    have hp2 := hp2.resolve_right (fun z => by have := z.2.2; omega)
    obtain ⟨hok, hsg, hr0⟩ := hp2
    rw [hsg]
    refine wk_aload_n C rfl dX6_spineOf_8 ?_
    refine wk_getr C (k := 20) (ci := 6) (j := 16) (T := TX6) rfl (show 0 < (1:Nat) by decide) rfl in_c_X6_spineOf_X6 (by decide) (by decide +kernel) rfl dX6_spineOf_9 ?_
    refine wk_iload_n C rfl dX6_spineOf_12 ?_
    refine wk_iald C (k := 36) rfl (show 0 < (1:Nat) by decide) (Nat.le_of_ble_eq_true rfl) (p1.toNat) (Int.toNat_of_nonneg hok.1).symm (show _ < (24:Nat) by omega) dX6_spineOf_13 ?_
    rw [am_up_app, if_neg (by omega), show σ 36 0 p1.toNat = S 11 p1.toNat from hR.2.1 _ 11 (by omega) (by omega)]
    refine wk_goto C 18 (by decide) dX6_spineOf_14 ?_
    refine wk_iret C hr hlk dX6_spineOf_18 ?_
    first
      | exact Or.inr ⟨hok, R_th hR _⟩
      | exact Or.inl ⟨hok, R_th hR _, rfl⟩

theorem in_c_X6_upQueue_X6 : ∀ w ∈ u_ws RX6 TX6 36, w ∈ wsX6_upQueue := by decide +kernel
set_option maxRecDepth 100000 in
set_option maxHeartbeats 4000000 in
theorem c_X6_upQueue (l : Launch) (g : am_g) (hI : am_inj (gR g)) (σ : am_M) (p1 : Int) (hp1 : -2147483648 ≤ p1 ∧ p1 < 2147483648) (S : ab_S) (b : Int) (hR : ab_R S σ) (hS : ab_I S b) : Met l yX6_upQueue wsX6_upQueue ({ frames := 2, cells := 0, slots := 0, locals := 42 }) (am_P (gR g) σ [.inr (20, 0), .inl (p1)]) (am_QI (gR g) (fun r σ' => ((0 ≤ p1 ∧ p1 < 16) ∧ ab_R (ab_u S 19 5 0) σ' ∧ r = S 14 (p1.toNat)) ∨ (¬ ((0 ≤ p1 ∧ p1 < 16)) ∧ ab_R (ab_u S 19 5 1) σ'))) 0 0 (am_FA (gR g)) := by
  refine wk_start (cc := cX6_upQueue) (nL := 2) (ret := (some .int)) (own := RX6) (by decide) rfl hI rfl (Nat.le_of_ble_eq_true rfl) ?_
  intro p e s m below meth c C hr hlk
  change wk _ p l e _ s m _ below meth c 0 0 _ _ _ _ 0 [some (.inr (20, 0)), some (.inl (p1))] [] σ
  have hj13 : ∀ w : Int, (w = 0 ∧ ((0 ≤ p1 ∧ p1 < 16))) ∨ (w = 1 ∧ ¬ ((0 ≤ p1 ∧ p1 < 16))) → wk (gR g) p l e (headSpec wsX6_upQueue ({ frames := 2, cells := 0, slots := 0, locals := 42 })).room s m ([.inr (20, 0), .inl (p1)].map (am_tv (gR g))).toArray below meth c 0 0 (MQ below (am_QI (gR g) (fun r σ' => ((0 ≤ p1 ∧ p1 < 16) ∧ ab_R (ab_u S 19 5 0) σ' ∧ r = S 14 (p1.toNat)) ∨ (¬ ((0 ≤ p1 ∧ p1 < 16)) ∧ ab_R (ab_u S 19 5 1) σ'))) ([.inr (20, 0), .inl (p1)].map (am_tv (gR g))).toArray s 0 0 (am_FA (gR g))) (am_FA (gR g)) s.heap 2 13 [some (.inr (20, 0)), some (.inl (p1))] [.inl (w), .inr (20, 0)] σ := by
    intro w hw
    refine wk_ofI C (wk_runV (index := 124) (ci := 6) (st := []) C (c_X6_goes l g hI _ w (by omega)) (cwV 1 C.2.2.2.2.1 gX6_upQueue_X6_goes rfl rfl rfl (by decide +kernel) ⟨Nat.le_of_ble_eq_true rfl, Nat.le_of_ble_eq_true rfl⟩) rfl (show 0 < (1:Nat) by decide) rfl rfl rfl (Nat.le_of_ble_eq_true rfl) dX6_upQueue_13 ⟨Nat.zero_le _, Nat.zero_le _⟩) (fun r13 σ13 hp13 => ?_)
    obtain ⟨rfl, hg13⟩ := hp13
    refine wk_if_eq C 28 (by omega) (by decide) dX6_upQueue_16 (fun hc16 => ?_) (fun hc16 => ?_)
    · skip
      have hw := hw.resolve_left (fun z => by omega)
      obtain ⟨rfl, hok⟩ := hw
      refine wk_iconst C dX6_upQueue_28 ?_
      refine wk_iret C hr hlk dX6_upQueue_29 ?_
      first
        | exact Or.inr ⟨hok, R_th hR _⟩
        | exact Or.inl ⟨hok, R_th hR _, by rw [Int.toNat_natCast]⟩
    · skip
      have hw := hw.resolve_right (fun z => by omega)
      obtain ⟨rfl, hok⟩ := hw
      refine wk_aload_n C rfl dX6_upQueue_19 ?_
      refine wk_getr C (k := 20) (ci := 6) (j := 19) (T := TX6) rfl (show 0 < (1:Nat) by decide) rfl in_c_X6_upQueue_X6 (by decide) (by decide +kernel) rfl dX6_upQueue_20 ?_
      refine wk_iload_n C rfl dX6_upQueue_23 ?_
      obtain ⟨h, rfl⟩ : ∃ h : Nat, p1 = (h : Int) := ⟨p1.toNat, (Int.toNat_of_nonneg hok.1).symm⟩
      refine wk_iald C (k := 39) rfl (show 0 < (1:Nat) by decide) (Nat.le_of_ble_eq_true rfl) ((h)) (by omega) (show _ < (64:Nat) by omega) dX6_upQueue_24 ?_
      rw [am_up_app, if_neg (by omega), show σ 39 0 (h) = S 14 (h) from (hR.2.2.2.1 (h) (by omega)).1]
      refine wk_goto C 29 (by decide) dX6_upQueue_25 ?_
      refine wk_iret C hr hlk dX6_upQueue_29 ?_
      first
        | exact Or.inr ⟨hok, R_th hR _⟩
        | exact Or.inl ⟨hok, R_th hR _, by rw [Int.toNat_natCast]⟩
  refine wk_aload_n C rfl dX6_upQueue_0 ?_
  refine wk_iload_n C rfl dX6_upQueue_1 ?_
  refine wk_ofI C (wk_runS (index := 131) (st := [_]) C (c_X6_isHost l g hI _ p1 hp1) (cwS 1 C.2.2.2.2.1 gX6_upQueue_X6_isHost rfl rfl rfl (by decide +kernel) ⟨Nat.le_of_ble_eq_true rfl, Nat.le_of_ble_eq_true rfl⟩) rfl rfl (Nat.le_of_ble_eq_true rfl) dX6_upQueue_2 ⟨Nat.zero_le _, Nat.zero_le _⟩) (fun r2 σ2 hp2 => ?_)
  obtain ⟨hsg2, hr2⟩ := hp2
  rw [hsg2]
  have hb2 : (r2 = 1 ∧ ((0 ≤ p1 ∧ p1 < 16))) ∨ (r2 = 0 ∧ ¬ ((0 ≤ p1 ∧ p1 < 16))) := by
    rw [hr2]
    split
    · rename_i z; exact Or.inl ⟨rfl, z⟩
    · rename_i z; exact Or.inr ⟨rfl, z⟩
  refine wk_if_eq C 12 (by omega) (by decide) dX6_upQueue_5 (fun hc5 => ?_) (fun hc5 => ?_)
  · skip
    refine wk_iconst C dX6_upQueue_12 ?_
    exact hj13 _ (by omega)
  · skip
    refine wk_iconst C dX6_upQueue_8 ?_
    refine wk_goto C 13 (by decide) dX6_upQueue_9 ?_
    exact hj13 _ (by omega)

theorem in_c_X6_downQueue_X6 : ∀ w ∈ u_ws RX6 TX6 36, w ∈ wsX6_downQueue := by decide +kernel
set_option maxRecDepth 100000 in
set_option maxHeartbeats 4000000 in
theorem c_X6_downQueue (l : Launch) (g : am_g) (hI : am_inj (gR g)) (σ : am_M) (p1 : Int) (hp1 : -2147483648 ≤ p1 ∧ p1 < 2147483648) (S : ab_S) (b : Int) (hR : ab_R S σ) (hS : ab_I S b) : Met l yX6_downQueue wsX6_downQueue ({ frames := 2, cells := 0, slots := 0, locals := 42 }) (am_P (gR g) σ [.inr (20, 0), .inl (p1)]) (am_QI (gR g) (fun r σ' => ((0 ≤ p1 ∧ p1 < 16) ∧ ab_R (ab_u S 19 5 0) σ' ∧ r = S 14 (16 + p1.toNat)) ∨ (¬ ((0 ≤ p1 ∧ p1 < 16)) ∧ ab_R (ab_u S 19 5 1) σ'))) 0 0 (am_FA (gR g)) := by
  refine wk_start (cc := cX6_downQueue) (nL := 2) (ret := (some .int)) (own := RX6) (by decide) rfl hI rfl (Nat.le_of_ble_eq_true rfl) ?_
  intro p e s m below meth c C hr hlk
  change wk _ p l e _ s m _ below meth c 0 0 _ _ _ _ 0 [some (.inr (20, 0)), some (.inl (p1))] [] σ
  have hj13 : ∀ w : Int, (w = 0 ∧ ((0 ≤ p1 ∧ p1 < 16))) ∨ (w = 1 ∧ ¬ ((0 ≤ p1 ∧ p1 < 16))) → wk (gR g) p l e (headSpec wsX6_downQueue ({ frames := 2, cells := 0, slots := 0, locals := 42 })).room s m ([.inr (20, 0), .inl (p1)].map (am_tv (gR g))).toArray below meth c 0 0 (MQ below (am_QI (gR g) (fun r σ' => ((0 ≤ p1 ∧ p1 < 16) ∧ ab_R (ab_u S 19 5 0) σ' ∧ r = S 14 (16 + p1.toNat)) ∨ (¬ ((0 ≤ p1 ∧ p1 < 16)) ∧ ab_R (ab_u S 19 5 1) σ'))) ([.inr (20, 0), .inl (p1)].map (am_tv (gR g))).toArray s 0 0 (am_FA (gR g))) (am_FA (gR g)) s.heap 2 13 [some (.inr (20, 0)), some (.inl (p1))] [.inl (w), .inr (20, 0)] σ := by
    intro w hw
    refine wk_ofI C (wk_runV (index := 124) (ci := 6) (st := []) C (c_X6_goes l g hI _ w (by omega)) (cwV 1 C.2.2.2.2.1 gX6_downQueue_X6_goes rfl rfl rfl (by decide +kernel) ⟨Nat.le_of_ble_eq_true rfl, Nat.le_of_ble_eq_true rfl⟩) rfl (show 0 < (1:Nat) by decide) rfl rfl rfl (Nat.le_of_ble_eq_true rfl) dX6_downQueue_13 ⟨Nat.zero_le _, Nat.zero_le _⟩) (fun r13 σ13 hp13 => ?_)
    obtain ⟨rfl, hg13⟩ := hp13
    refine wk_if_eq C 31 (by omega) (by decide) dX6_downQueue_16 (fun hc16 => ?_) (fun hc16 => ?_)
    · skip
      have hw := hw.resolve_left (fun z => by omega)
      obtain ⟨rfl, hok⟩ := hw
      refine wk_iconst C dX6_downQueue_31 ?_
      refine wk_iret C hr hlk dX6_downQueue_32 ?_
      first
        | exact Or.inr ⟨hok, R_th hR _⟩
        | exact Or.inl ⟨hok, R_th hR _, by rw [Int.toNat_natCast]⟩
    · skip
      have hw := hw.resolve_right (fun z => by omega)
      obtain ⟨rfl, hok⟩ := hw
      refine wk_aload_n C rfl dX6_downQueue_19 ?_
      refine wk_getr C (k := 20) (ci := 6) (j := 19) (T := TX6) rfl (show 0 < (1:Nat) by decide) rfl in_c_X6_downQueue_X6 (by decide) (by decide +kernel) rfl dX6_downQueue_20 ?_
      refine wk_bipush C (n := 16) (by decide) dX6_downQueue_23 ?_
      refine wk_iload_n C rfl dX6_downQueue_25 ?_
      refine wk_iadd C dX6_downQueue_26 ?_
      obtain ⟨h, rfl⟩ : ∃ h : Nat, p1 = (h : Int) := ⟨p1.toNat, (Int.toNat_of_nonneg hok.1).symm⟩
      refine wk_iald C (k := 39) rfl (show 0 < (1:Nat) by decide) (Nat.le_of_ble_eq_true rfl) ((16 + h)) (by omega) (show _ < (64:Nat) by omega) dX6_downQueue_27 ?_
      rw [am_up_app, if_neg (by omega), show σ 39 0 (16 + h) = S 14 (16 + h) from (hR.2.2.2.1 (16 + h) (by omega)).1]
      refine wk_goto C 32 (by decide) dX6_downQueue_28 ?_
      refine wk_iret C hr hlk dX6_downQueue_32 ?_
      first
        | exact Or.inr ⟨hok, R_th hR _⟩
        | exact Or.inl ⟨hok, R_th hR _, by rw [Int.toNat_natCast]⟩
  refine wk_aload_n C rfl dX6_downQueue_0 ?_
  refine wk_iload_n C rfl dX6_downQueue_1 ?_
  refine wk_ofI C (wk_runS (index := 131) (st := [_]) C (c_X6_isHost l g hI _ p1 hp1) (cwS 1 C.2.2.2.2.1 gX6_downQueue_X6_isHost rfl rfl rfl (by decide +kernel) ⟨Nat.le_of_ble_eq_true rfl, Nat.le_of_ble_eq_true rfl⟩) rfl rfl (Nat.le_of_ble_eq_true rfl) dX6_downQueue_2 ⟨Nat.zero_le _, Nat.zero_le _⟩) (fun r2 σ2 hp2 => ?_)
  obtain ⟨hsg2, hr2⟩ := hp2
  rw [hsg2]
  have hb2 : (r2 = 1 ∧ ((0 ≤ p1 ∧ p1 < 16))) ∨ (r2 = 0 ∧ ¬ ((0 ≤ p1 ∧ p1 < 16))) := by
    rw [hr2]
    split
    · rename_i z; exact Or.inl ⟨rfl, z⟩
    · rename_i z; exact Or.inr ⟨rfl, z⟩
  refine wk_if_eq C 12 (by omega) (by decide) dX6_downQueue_5 (fun hc5 => ?_) (fun hc5 => ?_)
  · skip
    refine wk_iconst C dX6_downQueue_12 ?_
    exact hj13 _ (by omega)
  · skip
    refine wk_iconst C dX6_downQueue_8 ?_
    refine wk_goto C 13 (by decide) dX6_downQueue_9 ?_
    exact hj13 _ (by omega)

theorem in_c_X6_upCredits_X6 : ∀ w ∈ u_ws RX6 TX6 36, w ∈ wsX6_upCredits := by decide +kernel
set_option maxRecDepth 100000 in
set_option maxHeartbeats 4000000 in
theorem c_X6_upCredits (l : Launch) (g : am_g) (hI : am_inj (gR g)) (σ : am_M) (p1 : Int) (hp1 : -2147483648 ≤ p1 ∧ p1 < 2147483648) (S : ab_S) (b : Int) (hR : ab_R S σ) (hS : ab_I S b) : Met l yX6_upCredits wsX6_upCredits ({ frames := 2, cells := 0, slots := 0, locals := 42 }) (am_P (gR g) σ [.inr (20, 0), .inl (p1)]) (am_QI (gR g) (fun r σ' => ((0 ≤ p1 ∧ p1 < 16) ∧ ab_R (ab_u S 19 5 0) σ' ∧ r = S 13 (p1.toNat)) ∨ (¬ ((0 ≤ p1 ∧ p1 < 16)) ∧ ab_R (ab_u S 19 5 1) σ'))) 0 0 (am_FA (gR g)) := by
  refine wk_start (cc := cX6_upCredits) (nL := 2) (ret := (some .int)) (own := RX6) (by decide) rfl hI rfl (Nat.le_of_ble_eq_true rfl) ?_
  intro p e s m below meth c C hr hlk
  change wk _ p l e _ s m _ below meth c 0 0 _ _ _ _ 0 [some (.inr (20, 0)), some (.inl (p1))] [] σ
  have hj13 : ∀ w : Int, (w = 0 ∧ ((0 ≤ p1 ∧ p1 < 16))) ∨ (w = 1 ∧ ¬ ((0 ≤ p1 ∧ p1 < 16))) → wk (gR g) p l e (headSpec wsX6_upCredits ({ frames := 2, cells := 0, slots := 0, locals := 42 })).room s m ([.inr (20, 0), .inl (p1)].map (am_tv (gR g))).toArray below meth c 0 0 (MQ below (am_QI (gR g) (fun r σ' => ((0 ≤ p1 ∧ p1 < 16) ∧ ab_R (ab_u S 19 5 0) σ' ∧ r = S 13 (p1.toNat)) ∨ (¬ ((0 ≤ p1 ∧ p1 < 16)) ∧ ab_R (ab_u S 19 5 1) σ'))) ([.inr (20, 0), .inl (p1)].map (am_tv (gR g))).toArray s 0 0 (am_FA (gR g))) (am_FA (gR g)) s.heap 2 13 [some (.inr (20, 0)), some (.inl (p1))] [.inl (w), .inr (20, 0)] σ := by
    intro w hw
    refine wk_ofI C (wk_runV (index := 124) (ci := 6) (st := []) C (c_X6_goes l g hI _ w (by omega)) (cwV 1 C.2.2.2.2.1 gX6_upCredits_X6_goes rfl rfl rfl (by decide +kernel) ⟨Nat.le_of_ble_eq_true rfl, Nat.le_of_ble_eq_true rfl⟩) rfl (show 0 < (1:Nat) by decide) rfl rfl rfl (Nat.le_of_ble_eq_true rfl) dX6_upCredits_13 ⟨Nat.zero_le _, Nat.zero_le _⟩) (fun r13 σ13 hp13 => ?_)
    obtain ⟨rfl, hg13⟩ := hp13
    refine wk_if_eq C 28 (by omega) (by decide) dX6_upCredits_16 (fun hc16 => ?_) (fun hc16 => ?_)
    · skip
      have hw := hw.resolve_left (fun z => by omega)
      obtain ⟨rfl, hok⟩ := hw
      refine wk_iconst C dX6_upCredits_28 ?_
      refine wk_iret C hr hlk dX6_upCredits_29 ?_
      first
        | exact Or.inr ⟨hok, R_th hR _⟩
        | exact Or.inl ⟨hok, R_th hR _, by rw [Int.toNat_natCast]⟩
    · skip
      have hw := hw.resolve_right (fun z => by omega)
      obtain ⟨rfl, hok⟩ := hw
      refine wk_aload_n C rfl dX6_upCredits_19 ?_
      refine wk_getr C (k := 20) (ci := 6) (j := 18) (T := TX6) rfl (show 0 < (1:Nat) by decide) rfl in_c_X6_upCredits_X6 (by decide) (by decide +kernel) rfl dX6_upCredits_20 ?_
      refine wk_iload_n C rfl dX6_upCredits_23 ?_
      obtain ⟨h, rfl⟩ : ∃ h : Nat, p1 = (h : Int) := ⟨p1.toNat, (Int.toNat_of_nonneg hok.1).symm⟩
      refine wk_iald C (k := 38) rfl (show 0 < (1:Nat) by decide) (Nat.le_of_ble_eq_true rfl) ((h)) (by omega) (show _ < (64:Nat) by omega) dX6_upCredits_24 ?_
      rw [am_up_app, if_neg (by omega), show σ 38 0 (h) = S 13 (h) from (hR.2.2.2.1 (h) (by omega)).2.1]
      refine wk_goto C 29 (by decide) dX6_upCredits_25 ?_
      refine wk_iret C hr hlk dX6_upCredits_29 ?_
      first
        | exact Or.inr ⟨hok, R_th hR _⟩
        | exact Or.inl ⟨hok, R_th hR _, by rw [Int.toNat_natCast]⟩
  refine wk_aload_n C rfl dX6_upCredits_0 ?_
  refine wk_iload_n C rfl dX6_upCredits_1 ?_
  refine wk_ofI C (wk_runS (index := 131) (st := [_]) C (c_X6_isHost l g hI _ p1 hp1) (cwS 1 C.2.2.2.2.1 gX6_upCredits_X6_isHost rfl rfl rfl (by decide +kernel) ⟨Nat.le_of_ble_eq_true rfl, Nat.le_of_ble_eq_true rfl⟩) rfl rfl (Nat.le_of_ble_eq_true rfl) dX6_upCredits_2 ⟨Nat.zero_le _, Nat.zero_le _⟩) (fun r2 σ2 hp2 => ?_)
  obtain ⟨hsg2, hr2⟩ := hp2
  rw [hsg2]
  have hb2 : (r2 = 1 ∧ ((0 ≤ p1 ∧ p1 < 16))) ∨ (r2 = 0 ∧ ¬ ((0 ≤ p1 ∧ p1 < 16))) := by
    rw [hr2]
    split
    · rename_i z; exact Or.inl ⟨rfl, z⟩
    · rename_i z; exact Or.inr ⟨rfl, z⟩
  refine wk_if_eq C 12 (by omega) (by decide) dX6_upCredits_5 (fun hc5 => ?_) (fun hc5 => ?_)
  · skip
    refine wk_iconst C dX6_upCredits_12 ?_
    exact hj13 _ (by omega)
  · skip
    refine wk_iconst C dX6_upCredits_8 ?_
    refine wk_goto C 13 (by decide) dX6_upCredits_9 ?_
    exact hj13 _ (by omega)

theorem in_c_X6_open_X6 : ∀ w ∈ u_ws RX6 TX6 36, w ∈ wsX6_open := by decide +kernel
set_option maxRecDepth 100000 in
set_option maxHeartbeats 4000000 in
theorem c_X6_open (l : Launch) (g : am_g) (hI : am_inj (gR g)) (σ : am_M) (p1 : Int) (hp1 : -2147483648 ≤ p1 ∧ p1 < 2147483648) (S : ab_S) (b : Int) (hR : ab_R S σ) (hS : ab_I S b) : Met l yX6_open wsX6_open ({ frames := 2, cells := 0, slots := 0, locals := 42 }) (am_P (gR g) σ [.inr (20, 0), .inl (p1)]) (am_QI (gR g) (fun r σ' => ((0 ≤ p1 ∧ p1 < 16) ∧ ab_R (ab_u S 19 5 0) σ' ∧ r = S 16 (p1.toNat)) ∨ (¬ ((0 ≤ p1 ∧ p1 < 16)) ∧ ab_R (ab_u S 19 5 1) σ'))) 0 0 (am_FA (gR g)) := by
  refine wk_start (cc := cX6_open) (nL := 2) (ret := (some .int)) (own := RX6) (by decide) rfl hI rfl (Nat.le_of_ble_eq_true rfl) ?_
  intro p e s m below meth c C hr hlk
  change wk _ p l e _ s m _ below meth c 0 0 _ _ _ _ 0 [some (.inr (20, 0)), some (.inl (p1))] [] σ
  have hj13 : ∀ w : Int, (w = 0 ∧ ((0 ≤ p1 ∧ p1 < 16))) ∨ (w = 1 ∧ ¬ ((0 ≤ p1 ∧ p1 < 16))) → wk (gR g) p l e (headSpec wsX6_open ({ frames := 2, cells := 0, slots := 0, locals := 42 })).room s m ([.inr (20, 0), .inl (p1)].map (am_tv (gR g))).toArray below meth c 0 0 (MQ below (am_QI (gR g) (fun r σ' => ((0 ≤ p1 ∧ p1 < 16) ∧ ab_R (ab_u S 19 5 0) σ' ∧ r = S 16 (p1.toNat)) ∨ (¬ ((0 ≤ p1 ∧ p1 < 16)) ∧ ab_R (ab_u S 19 5 1) σ'))) ([.inr (20, 0), .inl (p1)].map (am_tv (gR g))).toArray s 0 0 (am_FA (gR g))) (am_FA (gR g)) s.heap 2 13 [some (.inr (20, 0)), some (.inl (p1))] [.inl (w), .inr (20, 0)] σ := by
    intro w hw
    refine wk_ofI C (wk_runV (index := 124) (ci := 6) (st := []) C (c_X6_goes l g hI _ w (by omega)) (cwV 1 C.2.2.2.2.1 gX6_open_X6_goes rfl rfl rfl (by decide +kernel) ⟨Nat.le_of_ble_eq_true rfl, Nat.le_of_ble_eq_true rfl⟩) rfl (show 0 < (1:Nat) by decide) rfl rfl rfl (Nat.le_of_ble_eq_true rfl) dX6_open_13 ⟨Nat.zero_le _, Nat.zero_le _⟩) (fun r13 σ13 hp13 => ?_)
    obtain ⟨rfl, hg13⟩ := hp13
    refine wk_if_eq C 28 (by omega) (by decide) dX6_open_16 (fun hc16 => ?_) (fun hc16 => ?_)
    · skip
      have hw := hw.resolve_left (fun z => by omega)
      obtain ⟨rfl, hok⟩ := hw
      refine wk_iconst C dX6_open_28 ?_
      refine wk_iret C hr hlk dX6_open_29 ?_
      first
        | exact Or.inr ⟨hok, R_th hR _⟩
        | exact Or.inl ⟨hok, R_th hR _, by rw [Int.toNat_natCast]⟩
    · skip
      have hw := hw.resolve_right (fun z => by omega)
      obtain ⟨rfl, hok⟩ := hw
      refine wk_aload_n C rfl dX6_open_19 ?_
      refine wk_getr C (k := 20) (ci := 6) (j := 30) (T := TX6) rfl (show 0 < (1:Nat) by decide) rfl in_c_X6_open_X6 (by decide) (by decide +kernel) rfl dX6_open_20 ?_
      refine wk_iload_n C rfl dX6_open_23 ?_
      obtain ⟨h, rfl⟩ : ∃ h : Nat, p1 = (h : Int) := ⟨p1.toNat, (Int.toNat_of_nonneg hok.1).symm⟩
      refine wk_iald C (k := 50) rfl (show 0 < (1:Nat) by decide) (Nat.le_of_ble_eq_true rfl) ((h)) (by omega) (show _ < (16:Nat) by omega) dX6_open_24 ?_
      rw [am_up_app, if_neg (by omega), show σ 50 0 (h) = S 16 (h) from (hR.2.2.1 h (by omega)).1]
      refine wk_goto C 29 (by decide) dX6_open_25 ?_
      refine wk_iret C hr hlk dX6_open_29 ?_
      first
        | exact Or.inr ⟨hok, R_th hR _⟩
        | exact Or.inl ⟨hok, R_th hR _, by rw [Int.toNat_natCast]⟩
  refine wk_aload_n C rfl dX6_open_0 ?_
  refine wk_iload_n C rfl dX6_open_1 ?_
  refine wk_ofI C (wk_runS (index := 131) (st := [_]) C (c_X6_isHost l g hI _ p1 hp1) (cwS 1 C.2.2.2.2.1 gX6_open_X6_isHost rfl rfl rfl (by decide +kernel) ⟨Nat.le_of_ble_eq_true rfl, Nat.le_of_ble_eq_true rfl⟩) rfl rfl (Nat.le_of_ble_eq_true rfl) dX6_open_2 ⟨Nat.zero_le _, Nat.zero_le _⟩) (fun r2 σ2 hp2 => ?_)
  obtain ⟨hsg2, hr2⟩ := hp2
  rw [hsg2]
  have hb2 : (r2 = 1 ∧ ((0 ≤ p1 ∧ p1 < 16))) ∨ (r2 = 0 ∧ ¬ ((0 ≤ p1 ∧ p1 < 16))) := by
    rw [hr2]
    split
    · rename_i z; exact Or.inl ⟨rfl, z⟩
    · rename_i z; exact Or.inr ⟨rfl, z⟩
  refine wk_if_eq C 12 (by omega) (by decide) dX6_open_5 (fun hc5 => ?_) (fun hc5 => ?_)
  · skip
    refine wk_iconst C dX6_open_12 ?_
    exact hj13 _ (by omega)
  · skip
    refine wk_iconst C dX6_open_8 ?_
    refine wk_goto C 13 (by decide) dX6_open_9 ?_
    exact hj13 _ (by omega)

theorem in_c_X6_northQueue_X6 : ∀ w ∈ u_ws RX6 TX6 36, w ∈ wsX6_northQueue := by decide +kernel
set_option maxRecDepth 100000 in
set_option maxHeartbeats 4000000 in
theorem c_X6_northQueue (l : Launch) (g : am_g) (hI : am_inj (gR g)) (σ : am_M) (p1 p2 : Int) (hp1 : -2147483648 ≤ p1 ∧ p1 < 2147483648) (hp2 : -2147483648 ≤ p2 ∧ p2 < 2147483648) (S : ab_S) (b : Int) (hR : ab_R S σ) (hS : ab_I S b) : Met l yX6_northQueue wsX6_northQueue ({ frames := 2, cells := 0, slots := 0, locals := 43 }) (am_P (gR g) σ [.inr (20, 0), .inl (p1), .inl (p2)]) (am_QI (gR g) (fun r σ' => (((0 ≤ p1 ∧ p1 < 4) ∧ (0 ≤ p2 ∧ p2 < 4)) ∧ ab_R (ab_u S 19 5 0) σ' ∧ r = S 14 (32 + 4 * p1.toNat + p2.toNat)) ∨ (¬ (((0 ≤ p1 ∧ p1 < 4) ∧ (0 ≤ p2 ∧ p2 < 4))) ∧ ab_R (ab_u S 19 5 1) σ'))) 0 0 (am_FA (gR g)) := by
  refine wk_start (cc := cX6_northQueue) (nL := 3) (ret := (some .int)) (own := RX6) (by decide) rfl hI rfl (Nat.le_of_ble_eq_true rfl) ?_
  intro p e s m below meth c C hr hlk
  change wk _ p l e _ s m _ below meth c 0 0 _ _ _ _ 0 [some (.inr (20, 0)), some (.inl (p1)), some (.inl (p2))] [] σ
  have hj14 : ∀ w : Int, (w = 0 ∧ (((0 ≤ p1 ∧ p1 < 4) ∧ (0 ≤ p2 ∧ p2 < 4)))) ∨ (w = 1 ∧ ¬ (((0 ≤ p1 ∧ p1 < 4) ∧ (0 ≤ p2 ∧ p2 < 4)))) → wk (gR g) p l e (headSpec wsX6_northQueue ({ frames := 2, cells := 0, slots := 0, locals := 43 })).room s m ([.inr (20, 0), .inl (p1), .inl (p2)].map (am_tv (gR g))).toArray below meth c 0 0 (MQ below (am_QI (gR g) (fun r σ' => (((0 ≤ p1 ∧ p1 < 4) ∧ (0 ≤ p2 ∧ p2 < 4)) ∧ ab_R (ab_u S 19 5 0) σ' ∧ r = S 14 (32 + 4 * p1.toNat + p2.toNat)) ∨ (¬ (((0 ≤ p1 ∧ p1 < 4) ∧ (0 ≤ p2 ∧ p2 < 4))) ∧ ab_R (ab_u S 19 5 1) σ'))) ([.inr (20, 0), .inl (p1), .inl (p2)].map (am_tv (gR g))).toArray s 0 0 (am_FA (gR g))) (am_FA (gR g)) s.heap 3 14 [some (.inr (20, 0)), some (.inl (p1)), some (.inl (p2))] [.inl (w), .inr (20, 0)] σ := by
    intro w hw
    refine wk_ofI C (wk_runV (index := 124) (ci := 6) (st := []) C (c_X6_goes l g hI _ w (by omega)) (cwV 1 C.2.2.2.2.1 gX6_northQueue_X6_goes rfl rfl rfl (by decide +kernel) ⟨Nat.le_of_ble_eq_true rfl, Nat.le_of_ble_eq_true rfl⟩) rfl (show 0 < (1:Nat) by decide) rfl rfl rfl (Nat.le_of_ble_eq_true rfl) dX6_northQueue_14 ⟨Nat.zero_le _, Nat.zero_le _⟩) (fun r14 σ14 hp14 => ?_)
    obtain ⟨rfl, hg14⟩ := hp14
    refine wk_if_eq C 33 (by omega) (by decide) dX6_northQueue_17 (fun hc17 => ?_) (fun hc17 => ?_)
    · skip
      have hw := hw.resolve_left (fun z => by omega)
      obtain ⟨rfl, hok⟩ := hw
      refine wk_iconst C dX6_northQueue_33 ?_
      refine wk_iret C hr hlk dX6_northQueue_34 ?_
      first
        | exact Or.inr ⟨hok, R_th hR _⟩
        | exact Or.inl ⟨hok, R_th hR _, by rw [Int.toNat_natCast, Int.toNat_natCast]⟩
    · skip
      have hw := hw.resolve_right (fun z => by omega)
      obtain ⟨rfl, hok⟩ := hw
      refine wk_aload_n C rfl dX6_northQueue_20 ?_
      refine wk_getr C (k := 20) (ci := 6) (j := 19) (T := TX6) rfl (show 0 < (1:Nat) by decide) rfl in_c_X6_northQueue_X6 (by decide) (by decide +kernel) rfl dX6_northQueue_21 ?_
      refine wk_iload_n C rfl dX6_northQueue_24 ?_
      refine wk_iload_n C rfl dX6_northQueue_25 ?_
      obtain ⟨a, rfl⟩ : ∃ a : Nat, p1 = (a : Int) := ⟨p1.toNat, by omega⟩
      obtain ⟨c2, rfl⟩ : ∃ c2 : Nat, p2 = (c2 : Int) := ⟨p2.toNat, by omega⟩
      refine wk_ofI C (wk_runS (index := 138) (st := [_]) C (c_X6_north l g hI _ a c2 (by omega) (by omega)) (cwS 2 C.2.2.2.2.1 gX6_northQueue_X6_north rfl rfl rfl (by decide +kernel) ⟨Nat.le_of_ble_eq_true rfl, Nat.le_of_ble_eq_true rfl⟩) rfl rfl (Nat.le_of_ble_eq_true rfl) dX6_northQueue_26 ⟨Nat.zero_le _, Nat.zero_le _⟩) (fun r26 σ26 hp26 => ?_)
      obtain ⟨hsg26, rfl⟩ := hp26
      rw [hsg26]
      refine wk_iald C (k := 39) rfl (show 0 < (1:Nat) by decide) (Nat.le_of_ble_eq_true rfl) ((32 + 4 * a + c2)) (by omega) (show _ < (64:Nat) by omega) dX6_northQueue_29 ?_
      rw [am_up_app, if_neg (by omega), show σ 39 0 (32 + 4 * a + c2) = S 14 (32 + 4 * a + c2) from (hR.2.2.2.1 (32 + 4 * a + c2) (by omega)).1]
      refine wk_goto C 34 (by decide) dX6_northQueue_30 ?_
      refine wk_iret C hr hlk dX6_northQueue_34 ?_
      first
        | exact Or.inr ⟨hok, R_th hR _⟩
        | exact Or.inl ⟨hok, R_th hR _, by rw [Int.toNat_natCast, Int.toNat_natCast]⟩
  refine wk_aload_n C rfl dX6_northQueue_0 ?_
  refine wk_iload_n C rfl dX6_northQueue_1 ?_
  refine wk_iload_n C rfl dX6_northQueue_2 ?_
  refine wk_ofI C (wk_runS (index := 134) (st := [_]) C (c_X6_areFour l g hI _ p1 p2 hp1 hp2) (cwS 2 C.2.2.2.2.1 gX6_northQueue_X6_areFour rfl rfl rfl (by decide +kernel) ⟨Nat.le_of_ble_eq_true rfl, Nat.le_of_ble_eq_true rfl⟩) rfl rfl (Nat.le_of_ble_eq_true rfl) dX6_northQueue_3 ⟨Nat.zero_le _, Nat.zero_le _⟩) (fun r3 σ3 hp3 => ?_)
  obtain ⟨hsg3, hr3⟩ := hp3
  rw [hsg3]
  have hb3 : (r3 = 1 ∧ (((0 ≤ p1 ∧ p1 < 4) ∧ (0 ≤ p2 ∧ p2 < 4)))) ∨ (r3 = 0 ∧ ¬ (((0 ≤ p1 ∧ p1 < 4) ∧ (0 ≤ p2 ∧ p2 < 4)))) := by
    rw [hr3]
    split
    · rename_i z; exact Or.inl ⟨rfl, z⟩
    · rename_i z; exact Or.inr ⟨rfl, z⟩
  refine wk_if_eq C 13 (by omega) (by decide) dX6_northQueue_6 (fun hc6 => ?_) (fun hc6 => ?_)
  · skip
    refine wk_iconst C dX6_northQueue_13 ?_
    exact hj14 _ (by omega)
  · skip
    refine wk_iconst C dX6_northQueue_9 ?_
    refine wk_goto C 14 (by decide) dX6_northQueue_10 ?_
    exact hj14 _ (by omega)

theorem in_c_X6_southQueue_X6 : ∀ w ∈ u_ws RX6 TX6 36, w ∈ wsX6_southQueue := by decide +kernel
set_option maxRecDepth 100000 in
set_option maxHeartbeats 4000000 in
theorem c_X6_southQueue (l : Launch) (g : am_g) (hI : am_inj (gR g)) (σ : am_M) (p1 p2 : Int) (hp1 : -2147483648 ≤ p1 ∧ p1 < 2147483648) (hp2 : -2147483648 ≤ p2 ∧ p2 < 2147483648) (S : ab_S) (b : Int) (hR : ab_R S σ) (hS : ab_I S b) : Met l yX6_southQueue wsX6_southQueue ({ frames := 2, cells := 0, slots := 0, locals := 43 }) (am_P (gR g) σ [.inr (20, 0), .inl (p1), .inl (p2)]) (am_QI (gR g) (fun r σ' => (((0 ≤ p1 ∧ p1 < 4) ∧ (0 ≤ p2 ∧ p2 < 4)) ∧ ab_R (ab_u S 19 5 0) σ' ∧ r = S 14 (48 + 4 * p1.toNat + p2.toNat)) ∨ (¬ (((0 ≤ p1 ∧ p1 < 4) ∧ (0 ≤ p2 ∧ p2 < 4))) ∧ ab_R (ab_u S 19 5 1) σ'))) 0 0 (am_FA (gR g)) := by
  refine wk_start (cc := cX6_southQueue) (nL := 3) (ret := (some .int)) (own := RX6) (by decide) rfl hI rfl (Nat.le_of_ble_eq_true rfl) ?_
  intro p e s m below meth c C hr hlk
  change wk _ p l e _ s m _ below meth c 0 0 _ _ _ _ 0 [some (.inr (20, 0)), some (.inl (p1)), some (.inl (p2))] [] σ
  have hj14 : ∀ w : Int, (w = 0 ∧ (((0 ≤ p1 ∧ p1 < 4) ∧ (0 ≤ p2 ∧ p2 < 4)))) ∨ (w = 1 ∧ ¬ (((0 ≤ p1 ∧ p1 < 4) ∧ (0 ≤ p2 ∧ p2 < 4)))) → wk (gR g) p l e (headSpec wsX6_southQueue ({ frames := 2, cells := 0, slots := 0, locals := 43 })).room s m ([.inr (20, 0), .inl (p1), .inl (p2)].map (am_tv (gR g))).toArray below meth c 0 0 (MQ below (am_QI (gR g) (fun r σ' => (((0 ≤ p1 ∧ p1 < 4) ∧ (0 ≤ p2 ∧ p2 < 4)) ∧ ab_R (ab_u S 19 5 0) σ' ∧ r = S 14 (48 + 4 * p1.toNat + p2.toNat)) ∨ (¬ (((0 ≤ p1 ∧ p1 < 4) ∧ (0 ≤ p2 ∧ p2 < 4))) ∧ ab_R (ab_u S 19 5 1) σ'))) ([.inr (20, 0), .inl (p1), .inl (p2)].map (am_tv (gR g))).toArray s 0 0 (am_FA (gR g))) (am_FA (gR g)) s.heap 3 14 [some (.inr (20, 0)), some (.inl (p1)), some (.inl (p2))] [.inl (w), .inr (20, 0)] σ := by
    intro w hw
    refine wk_ofI C (wk_runV (index := 124) (ci := 6) (st := []) C (c_X6_goes l g hI _ w (by omega)) (cwV 1 C.2.2.2.2.1 gX6_southQueue_X6_goes rfl rfl rfl (by decide +kernel) ⟨Nat.le_of_ble_eq_true rfl, Nat.le_of_ble_eq_true rfl⟩) rfl (show 0 < (1:Nat) by decide) rfl rfl rfl (Nat.le_of_ble_eq_true rfl) dX6_southQueue_14 ⟨Nat.zero_le _, Nat.zero_le _⟩) (fun r14 σ14 hp14 => ?_)
    obtain ⟨rfl, hg14⟩ := hp14
    refine wk_if_eq C 33 (by omega) (by decide) dX6_southQueue_17 (fun hc17 => ?_) (fun hc17 => ?_)
    · skip
      have hw := hw.resolve_left (fun z => by omega)
      obtain ⟨rfl, hok⟩ := hw
      refine wk_iconst C dX6_southQueue_33 ?_
      refine wk_iret C hr hlk dX6_southQueue_34 ?_
      first
        | exact Or.inr ⟨hok, R_th hR _⟩
        | exact Or.inl ⟨hok, R_th hR _, by rw [Int.toNat_natCast, Int.toNat_natCast]⟩
    · skip
      have hw := hw.resolve_right (fun z => by omega)
      obtain ⟨rfl, hok⟩ := hw
      refine wk_aload_n C rfl dX6_southQueue_20 ?_
      refine wk_getr C (k := 20) (ci := 6) (j := 19) (T := TX6) rfl (show 0 < (1:Nat) by decide) rfl in_c_X6_southQueue_X6 (by decide) (by decide +kernel) rfl dX6_southQueue_21 ?_
      refine wk_iload_n C rfl dX6_southQueue_24 ?_
      refine wk_iload_n C rfl dX6_southQueue_25 ?_
      obtain ⟨a, rfl⟩ : ∃ a : Nat, p1 = (a : Int) := ⟨p1.toNat, by omega⟩
      obtain ⟨c2, rfl⟩ : ∃ c2 : Nat, p2 = (c2 : Int) := ⟨p2.toNat, by omega⟩
      refine wk_ofI C (wk_runS (index := 142) (st := [_]) C (c_X6_south l g hI _ a c2 (by omega) (by omega)) (cwS 2 C.2.2.2.2.1 gX6_southQueue_X6_south rfl rfl rfl (by decide +kernel) ⟨Nat.le_of_ble_eq_true rfl, Nat.le_of_ble_eq_true rfl⟩) rfl rfl (Nat.le_of_ble_eq_true rfl) dX6_southQueue_26 ⟨Nat.zero_le _, Nat.zero_le _⟩) (fun r26 σ26 hp26 => ?_)
      obtain ⟨hsg26, rfl⟩ := hp26
      rw [hsg26]
      refine wk_iald C (k := 39) rfl (show 0 < (1:Nat) by decide) (Nat.le_of_ble_eq_true rfl) ((48 + 4 * a + c2)) (by omega) (show _ < (64:Nat) by omega) dX6_southQueue_29 ?_
      rw [am_up_app, if_neg (by omega), show σ 39 0 (48 + 4 * a + c2) = S 14 (48 + 4 * a + c2) from (hR.2.2.2.1 (48 + 4 * a + c2) (by omega)).1]
      refine wk_goto C 34 (by decide) dX6_southQueue_30 ?_
      refine wk_iret C hr hlk dX6_southQueue_34 ?_
      first
        | exact Or.inr ⟨hok, R_th hR _⟩
        | exact Or.inl ⟨hok, R_th hR _, by rw [Int.toNat_natCast, Int.toNat_natCast]⟩
  refine wk_aload_n C rfl dX6_southQueue_0 ?_
  refine wk_iload_n C rfl dX6_southQueue_1 ?_
  refine wk_iload_n C rfl dX6_southQueue_2 ?_
  refine wk_ofI C (wk_runS (index := 134) (st := [_]) C (c_X6_areFour l g hI _ p1 p2 hp1 hp2) (cwS 2 C.2.2.2.2.1 gX6_southQueue_X6_areFour rfl rfl rfl (by decide +kernel) ⟨Nat.le_of_ble_eq_true rfl, Nat.le_of_ble_eq_true rfl⟩) rfl rfl (Nat.le_of_ble_eq_true rfl) dX6_southQueue_3 ⟨Nat.zero_le _, Nat.zero_le _⟩) (fun r3 σ3 hp3 => ?_)
  obtain ⟨hsg3, hr3⟩ := hp3
  rw [hsg3]
  have hb3 : (r3 = 1 ∧ (((0 ≤ p1 ∧ p1 < 4) ∧ (0 ≤ p2 ∧ p2 < 4)))) ∨ (r3 = 0 ∧ ¬ (((0 ≤ p1 ∧ p1 < 4) ∧ (0 ≤ p2 ∧ p2 < 4)))) := by
    rw [hr3]
    split
    · rename_i z; exact Or.inl ⟨rfl, z⟩
    · rename_i z; exact Or.inr ⟨rfl, z⟩
  refine wk_if_eq C 13 (by omega) (by decide) dX6_southQueue_6 (fun hc6 => ?_) (fun hc6 => ?_)
  · skip
    refine wk_iconst C dX6_southQueue_13 ?_
    exact hj14 _ (by omega)
  · skip
    refine wk_iconst C dX6_southQueue_9 ?_
    refine wk_goto C 14 (by decide) dX6_southQueue_10 ?_
    exact hj14 _ (by omega)

theorem in_c_X6_northCredits_X6 : ∀ w ∈ u_ws RX6 TX6 36, w ∈ wsX6_northCredits := by decide +kernel
set_option maxRecDepth 100000 in
set_option maxHeartbeats 4000000 in
theorem c_X6_northCredits (l : Launch) (g : am_g) (hI : am_inj (gR g)) (σ : am_M) (p1 p2 : Int) (hp1 : -2147483648 ≤ p1 ∧ p1 < 2147483648) (hp2 : -2147483648 ≤ p2 ∧ p2 < 2147483648) (S : ab_S) (b : Int) (hR : ab_R S σ) (hS : ab_I S b) : Met l yX6_northCredits wsX6_northCredits ({ frames := 2, cells := 0, slots := 0, locals := 43 }) (am_P (gR g) σ [.inr (20, 0), .inl (p1), .inl (p2)]) (am_QI (gR g) (fun r σ' => (((0 ≤ p1 ∧ p1 < 4) ∧ (0 ≤ p2 ∧ p2 < 4)) ∧ ab_R (ab_u S 19 5 0) σ' ∧ r = S 13 (32 + 4 * p1.toNat + p2.toNat)) ∨ (¬ (((0 ≤ p1 ∧ p1 < 4) ∧ (0 ≤ p2 ∧ p2 < 4))) ∧ ab_R (ab_u S 19 5 1) σ'))) 0 0 (am_FA (gR g)) := by
  refine wk_start (cc := cX6_northCredits) (nL := 3) (ret := (some .int)) (own := RX6) (by decide) rfl hI rfl (Nat.le_of_ble_eq_true rfl) ?_
  intro p e s m below meth c C hr hlk
  change wk _ p l e _ s m _ below meth c 0 0 _ _ _ _ 0 [some (.inr (20, 0)), some (.inl (p1)), some (.inl (p2))] [] σ
  have hj14 : ∀ w : Int, (w = 0 ∧ (((0 ≤ p1 ∧ p1 < 4) ∧ (0 ≤ p2 ∧ p2 < 4)))) ∨ (w = 1 ∧ ¬ (((0 ≤ p1 ∧ p1 < 4) ∧ (0 ≤ p2 ∧ p2 < 4)))) → wk (gR g) p l e (headSpec wsX6_northCredits ({ frames := 2, cells := 0, slots := 0, locals := 43 })).room s m ([.inr (20, 0), .inl (p1), .inl (p2)].map (am_tv (gR g))).toArray below meth c 0 0 (MQ below (am_QI (gR g) (fun r σ' => (((0 ≤ p1 ∧ p1 < 4) ∧ (0 ≤ p2 ∧ p2 < 4)) ∧ ab_R (ab_u S 19 5 0) σ' ∧ r = S 13 (32 + 4 * p1.toNat + p2.toNat)) ∨ (¬ (((0 ≤ p1 ∧ p1 < 4) ∧ (0 ≤ p2 ∧ p2 < 4))) ∧ ab_R (ab_u S 19 5 1) σ'))) ([.inr (20, 0), .inl (p1), .inl (p2)].map (am_tv (gR g))).toArray s 0 0 (am_FA (gR g))) (am_FA (gR g)) s.heap 3 14 [some (.inr (20, 0)), some (.inl (p1)), some (.inl (p2))] [.inl (w), .inr (20, 0)] σ := by
    intro w hw
    refine wk_ofI C (wk_runV (index := 124) (ci := 6) (st := []) C (c_X6_goes l g hI _ w (by omega)) (cwV 1 C.2.2.2.2.1 gX6_northCredits_X6_goes rfl rfl rfl (by decide +kernel) ⟨Nat.le_of_ble_eq_true rfl, Nat.le_of_ble_eq_true rfl⟩) rfl (show 0 < (1:Nat) by decide) rfl rfl rfl (Nat.le_of_ble_eq_true rfl) dX6_northCredits_14 ⟨Nat.zero_le _, Nat.zero_le _⟩) (fun r14 σ14 hp14 => ?_)
    obtain ⟨rfl, hg14⟩ := hp14
    refine wk_if_eq C 33 (by omega) (by decide) dX6_northCredits_17 (fun hc17 => ?_) (fun hc17 => ?_)
    · skip
      have hw := hw.resolve_left (fun z => by omega)
      obtain ⟨rfl, hok⟩ := hw
      refine wk_iconst C dX6_northCredits_33 ?_
      refine wk_iret C hr hlk dX6_northCredits_34 ?_
      first
        | exact Or.inr ⟨hok, R_th hR _⟩
        | exact Or.inl ⟨hok, R_th hR _, by rw [Int.toNat_natCast, Int.toNat_natCast]⟩
    · skip
      have hw := hw.resolve_right (fun z => by omega)
      obtain ⟨rfl, hok⟩ := hw
      refine wk_aload_n C rfl dX6_northCredits_20 ?_
      refine wk_getr C (k := 20) (ci := 6) (j := 18) (T := TX6) rfl (show 0 < (1:Nat) by decide) rfl in_c_X6_northCredits_X6 (by decide) (by decide +kernel) rfl dX6_northCredits_21 ?_
      refine wk_iload_n C rfl dX6_northCredits_24 ?_
      refine wk_iload_n C rfl dX6_northCredits_25 ?_
      obtain ⟨a, rfl⟩ : ∃ a : Nat, p1 = (a : Int) := ⟨p1.toNat, by omega⟩
      obtain ⟨c2, rfl⟩ : ∃ c2 : Nat, p2 = (c2 : Int) := ⟨p2.toNat, by omega⟩
      refine wk_ofI C (wk_runS (index := 138) (st := [_]) C (c_X6_north l g hI _ a c2 (by omega) (by omega)) (cwS 2 C.2.2.2.2.1 gX6_northCredits_X6_north rfl rfl rfl (by decide +kernel) ⟨Nat.le_of_ble_eq_true rfl, Nat.le_of_ble_eq_true rfl⟩) rfl rfl (Nat.le_of_ble_eq_true rfl) dX6_northCredits_26 ⟨Nat.zero_le _, Nat.zero_le _⟩) (fun r26 σ26 hp26 => ?_)
      obtain ⟨hsg26, rfl⟩ := hp26
      rw [hsg26]
      refine wk_iald C (k := 38) rfl (show 0 < (1:Nat) by decide) (Nat.le_of_ble_eq_true rfl) ((32 + 4 * a + c2)) (by omega) (show _ < (64:Nat) by omega) dX6_northCredits_29 ?_
      rw [am_up_app, if_neg (by omega), show σ 38 0 (32 + 4 * a + c2) = S 13 (32 + 4 * a + c2) from (hR.2.2.2.1 (32 + 4 * a + c2) (by omega)).2.1]
      refine wk_goto C 34 (by decide) dX6_northCredits_30 ?_
      refine wk_iret C hr hlk dX6_northCredits_34 ?_
      first
        | exact Or.inr ⟨hok, R_th hR _⟩
        | exact Or.inl ⟨hok, R_th hR _, by rw [Int.toNat_natCast, Int.toNat_natCast]⟩
  refine wk_aload_n C rfl dX6_northCredits_0 ?_
  refine wk_iload_n C rfl dX6_northCredits_1 ?_
  refine wk_iload_n C rfl dX6_northCredits_2 ?_
  refine wk_ofI C (wk_runS (index := 134) (st := [_]) C (c_X6_areFour l g hI _ p1 p2 hp1 hp2) (cwS 2 C.2.2.2.2.1 gX6_northCredits_X6_areFour rfl rfl rfl (by decide +kernel) ⟨Nat.le_of_ble_eq_true rfl, Nat.le_of_ble_eq_true rfl⟩) rfl rfl (Nat.le_of_ble_eq_true rfl) dX6_northCredits_3 ⟨Nat.zero_le _, Nat.zero_le _⟩) (fun r3 σ3 hp3 => ?_)
  obtain ⟨hsg3, hr3⟩ := hp3
  rw [hsg3]
  have hb3 : (r3 = 1 ∧ (((0 ≤ p1 ∧ p1 < 4) ∧ (0 ≤ p2 ∧ p2 < 4)))) ∨ (r3 = 0 ∧ ¬ (((0 ≤ p1 ∧ p1 < 4) ∧ (0 ≤ p2 ∧ p2 < 4)))) := by
    rw [hr3]
    split
    · rename_i z; exact Or.inl ⟨rfl, z⟩
    · rename_i z; exact Or.inr ⟨rfl, z⟩
  refine wk_if_eq C 13 (by omega) (by decide) dX6_northCredits_6 (fun hc6 => ?_) (fun hc6 => ?_)
  · skip
    refine wk_iconst C dX6_northCredits_13 ?_
    exact hj14 _ (by omega)
  · skip
    refine wk_iconst C dX6_northCredits_9 ?_
    refine wk_goto C 14 (by decide) dX6_northCredits_10 ?_
    exact hj14 _ (by omega)

set_option maxRecDepth 100000 in
set_option maxHeartbeats 4000000 in
theorem c_X6_usable (l : Launch) (g : am_g) (hI : am_inj (gR g)) (σ : am_M) (p1 p2 : Int) (hp1 : -2147483648 ≤ p1 ∧ p1 < 2147483648) (hp2 : -2147483648 ≤ p2 ∧ p2 < 2147483648) (S : ab_S) (b : Int) (hR : ab_R S σ) (hS : ab_I S b) : Met l yX6_usable wsX6_usable ({ frames := 2, cells := 0, slots := 0, locals := 47 }) (am_P (gR g) σ [.inr (20, 0), .inl (p1), .inl (p2)]) (am_QI (gR g) (fun r σ' => (((0 ≤ p1 ∧ p1 < 4) ∧ (0 ≤ p2 ∧ p2 < 4) ∧ ¬ p1 = p2) ∧ ab_R (ab_u S 19 5 0) σ' ∧ r = ab_um S p1.toNat p2.toNat) ∨ (¬ (((0 ≤ p1 ∧ p1 < 4) ∧ (0 ≤ p2 ∧ p2 < 4) ∧ ¬ p1 = p2)) ∧ ab_R (ab_u S 19 5 1) σ'))) 0 0 (am_FA (gR g)) := by
  refine wk_start (cc := cX6_usable) (nL := 3) (ret := (some .int)) (own := RX6) (by decide) rfl hI rfl (Nat.le_of_ble_eq_true rfl) ?_
  intro p e s m below meth c C hr hlk
  change wk _ p l e _ s m _ below meth c 0 0 _ _ _ _ 0 [some (.inr (20, 0)), some (.inl (p1)), some (.inl (p2))] [] σ
  have hj19 : ∀ w : Int, (w = 0 ∧ (((0 ≤ p1 ∧ p1 < 4) ∧ (0 ≤ p2 ∧ p2 < 4) ∧ ¬ p1 = p2))) ∨ (w = 1 ∧ ¬ (((0 ≤ p1 ∧ p1 < 4) ∧ (0 ≤ p2 ∧ p2 < 4) ∧ ¬ p1 = p2))) → wk (gR g) p l e (headSpec wsX6_usable ({ frames := 2, cells := 0, slots := 0, locals := 47 })).room s m ([.inr (20, 0), .inl (p1), .inl (p2)].map (am_tv (gR g))).toArray below meth c 0 0 (MQ below (am_QI (gR g) (fun r σ' => (((0 ≤ p1 ∧ p1 < 4) ∧ (0 ≤ p2 ∧ p2 < 4) ∧ ¬ p1 = p2) ∧ ab_R (ab_u S 19 5 0) σ' ∧ r = ab_um S p1.toNat p2.toNat) ∨ (¬ (((0 ≤ p1 ∧ p1 < 4) ∧ (0 ≤ p2 ∧ p2 < 4) ∧ ¬ p1 = p2)) ∧ ab_R (ab_u S 19 5 1) σ'))) ([.inr (20, 0), .inl (p1), .inl (p2)].map (am_tv (gR g))).toArray s 0 0 (am_FA (gR g))) (am_FA (gR g)) s.heap 3 19 [some (.inr (20, 0)), some (.inl (p1)), some (.inl (p2))] [.inl (w), .inr (20, 0)] σ := by
    intro w hw
    refine wk_ofI C (wk_runV (index := 124) (ci := 6) (st := []) C (c_X6_goes l g hI _ w (by omega)) (cwV 1 C.2.2.2.2.1 gX6_usable_X6_goes rfl rfl rfl (by decide +kernel) ⟨Nat.le_of_ble_eq_true rfl, Nat.le_of_ble_eq_true rfl⟩) rfl (show 0 < (1:Nat) by decide) rfl rfl rfl (Nat.le_of_ble_eq_true rfl) dX6_usable_19 ⟨Nat.zero_le _, Nat.zero_le _⟩) (fun r19 σ19 hp19 => ?_)
    obtain ⟨rfl, hg19⟩ := hp19
    refine wk_if_eq C 34 (by omega) (by decide) dX6_usable_22 (fun hc22 => ?_) (fun hc22 => ?_)
    · skip
      have hw := hw.resolve_left (fun z => by omega)
      obtain ⟨rfl, hok⟩ := hw
      refine wk_iconst C dX6_usable_34 ?_
      refine wk_iret C hr hlk dX6_usable_35 ?_
      first
        | exact Or.inr ⟨hok, R_th hR _⟩
        | exact Or.inl ⟨hok, R_th hR _, by rw [Int.toNat_natCast, Int.toNat_natCast]⟩
    · skip
      have hw := hw.resolve_right (fun z => by omega)
      obtain ⟨rfl, hok⟩ := hw
      refine wk_aload_n C rfl dX6_usable_25 ?_
      refine wk_iload_n C rfl dX6_usable_26 ?_
      refine wk_iload_n C rfl dX6_usable_27 ?_
      obtain ⟨a, rfl⟩ : ∃ a : Nat, p1 = (a : Int) := ⟨p1.toNat, by omega⟩
      obtain ⟨c2, rfl⟩ : ∃ c2 : Nat, p2 = (c2 : Int) := ⟨p2.toNat, by omega⟩
      refine wk_ofI C (wk_runV (index := 171) (ci := 6) (st := []) C (c_X6_usableSet l g hI _ a c2 (by omega) (by omega) S b (Rv_up (by omega) (Rv_of hR)) hS) (cwV 2 C.2.2.2.2.1 gX6_usable_X6_usableSet rfl rfl rfl (by decide +kernel) ⟨Nat.le_of_ble_eq_true rfl, Nat.le_of_ble_eq_true rfl⟩) rfl (show 0 < (1:Nat) by decide) rfl rfl rfl (Nat.le_of_ble_eq_true rfl) dX6_usable_28 ⟨Nat.zero_le _, Nat.zero_le _⟩) (fun r28 σ28 hp28 => ?_)
      obtain ⟨hsg28, rfl⟩ := hp28
      rw [hsg28]
      refine wk_goto C 35 (by decide) dX6_usable_31 ?_
      refine wk_iret C hr hlk dX6_usable_35 ?_
      first
        | exact Or.inr ⟨hok, R_th hR _⟩
        | exact Or.inl ⟨hok, R_th hR _, by rw [Int.toNat_natCast, Int.toNat_natCast]⟩
  refine wk_aload_n C rfl dX6_usable_0 ?_
  refine wk_iload_n C rfl dX6_usable_1 ?_
  refine wk_iload_n C rfl dX6_usable_2 ?_
  refine wk_ofI C (wk_runS (index := 134) (st := [_]) C (c_X6_areFour l g hI _ p1 p2 hp1 hp2) (cwS 2 C.2.2.2.2.1 gX6_usable_X6_areFour rfl rfl rfl (by decide +kernel) ⟨Nat.le_of_ble_eq_true rfl, Nat.le_of_ble_eq_true rfl⟩) rfl rfl (Nat.le_of_ble_eq_true rfl) dX6_usable_3 ⟨Nat.zero_le _, Nat.zero_le _⟩) (fun r3 σ3 hp3 => ?_)
  obtain ⟨hsg3, hr3⟩ := hp3
  rw [hsg3]
  have hb3 : (r3 = 1 ∧ (((0 ≤ p1 ∧ p1 < 4) ∧ (0 ≤ p2 ∧ p2 < 4)))) ∨ (r3 = 0 ∧ ¬ (((0 ≤ p1 ∧ p1 < 4) ∧ (0 ≤ p2 ∧ p2 < 4)))) := by
    rw [hr3]
    split
    · rename_i z; exact Or.inl ⟨rfl, z⟩
    · rename_i z; exact Or.inr ⟨rfl, z⟩
  refine wk_if_eq C 18 (by omega) (by decide) dX6_usable_6 (fun hc6 => ?_) (fun hc6 => ?_)
  · skip
    refine wk_iconst C dX6_usable_18 ?_
    exact hj19 _ (by omega)
  · skip
    refine wk_iload_n C rfl dX6_usable_9 ?_
    refine wk_iload_n C rfl dX6_usable_10 ?_
    refine wk_icmp_eq C 18 (by omega) (by omega) (by decide) dX6_usable_11 (fun hc11 => ?_) (fun hc11 => ?_)
    · skip
      refine wk_iconst C dX6_usable_18 ?_
      exact hj19 _ (by omega)
    · skip
      refine wk_iconst C dX6_usable_14 ?_
      refine wk_goto C 19 (by decide) dX6_usable_15 ?_
      exact hj19 _ (by omega)

theorem in_c_X6_clock_X6 : ∀ w ∈ u_ws RX6 TX6 36, w ∈ wsX6_clock := by decide +kernel
set_option maxRecDepth 100000 in
set_option maxHeartbeats 4000000 in
theorem c_X6_clock (l : Launch) (g : am_g) (hI : am_inj (gR g)) (σ : am_M) (S : ab_S) (b : Int) (hR : ab_R S σ) (hS : ab_I S b) : Met l yX6_clock wsX6_clock ({ frames := 0, cells := 0, slots := 0, locals := 0 }) (am_P (gR g) σ [.inr (20, 0)]) (am_QI (gR g) (fun r σ' => ab_R (ab_u S 19 5 0) σ' ∧ r = S 19 3)) 0 0 (am_FA (gR g)) := by
  refine wk_start (cc := cX6_clock) (nL := 1) (ret := (some .int)) (own := RX6) (by decide) rfl hI rfl (Nat.le_of_ble_eq_true rfl) ?_
  intro p e s m below meth c C hr hlk
  change wk _ p l e _ s m _ below meth c 0 0 _ _ _ _ 0 [some (.inr (20, 0))] [] σ
  refine wk_aload_n C rfl dX6_clock_0 ?_
  refine wk_iconst C dX6_clock_1 ?_
  refine wk_put C (k := 20) (ci := 6) (j := 35) (T := TX6) rfl (show 0 < (1:Nat) by decide) rfl in_c_X6_clock_X6 tyX6 tyX6_ok nmX6 (by decide) (by decide +kernel) rfl rfl (by decide +kernel) dX6_clock_2 ?_
  refine wk_aload_n C rfl dX6_clock_5 ?_
  refine wk_geti C (k := 20) (ci := 6) (j := 3) (T := TX6) rfl (show 0 < (1:Nat) by decide) rfl in_c_X6_clock_X6 (by decide) (by decide +kernel) rfl dX6_clock_6 ?_
  rw [am_up_app, if_neg (by omega), hR.1.2.1]
  refine wk_iret C hr hlk dX6_clock_9 ?_
  exact ⟨R_th hR _, rfl⟩

theorem in_c_X6_flows_X6 : ∀ w ∈ u_ws RX6 TX6 36, w ∈ wsX6_flows := by decide +kernel
set_option maxRecDepth 100000 in
set_option maxHeartbeats 4000000 in
theorem c_X6_flows (l : Launch) (g : am_g) (hI : am_inj (gR g)) (σ : am_M) (S : ab_S) (b : Int) (hR : ab_R S σ) (hS : ab_I S b) : Met l yX6_flows wsX6_flows ({ frames := 0, cells := 0, slots := 0, locals := 0 }) (am_P (gR g) σ [.inr (20, 0)]) (am_QI (gR g) (fun r σ' => ab_R (ab_u S 19 5 0) σ' ∧ r = S 19 4)) 0 0 (am_FA (gR g)) := by
  refine wk_start (cc := cX6_flows) (nL := 1) (ret := (some .int)) (own := RX6) (by decide) rfl hI rfl (Nat.le_of_ble_eq_true rfl) ?_
  intro p e s m below meth c C hr hlk
  change wk _ p l e _ s m _ below meth c 0 0 _ _ _ _ 0 [some (.inr (20, 0))] [] σ
  refine wk_aload_n C rfl dX6_flows_0 ?_
  refine wk_iconst C dX6_flows_1 ?_
  refine wk_put C (k := 20) (ci := 6) (j := 35) (T := TX6) rfl (show 0 < (1:Nat) by decide) rfl in_c_X6_flows_X6 tyX6 tyX6_ok nmX6 (by decide) (by decide +kernel) rfl rfl (by decide +kernel) dX6_flows_2 ?_
  refine wk_aload_n C rfl dX6_flows_5 ?_
  refine wk_geti C (k := 20) (ci := 6) (j := 4) (T := TX6) rfl (show 0 < (1:Nat) by decide) rfl in_c_X6_flows_X6 (by decide) (by decide +kernel) rfl dX6_flows_6 ?_
  rw [am_up_app, if_neg (by omega), hR.1.1]
  refine wk_iret C hr hlk dX6_flows_9 ?_
  exact ⟨R_th hR _, rfl⟩

theorem in_c_X6_returning_X6 : ∀ w ∈ u_ws RX6 TX6 36, w ∈ wsX6_returning := by decide +kernel
set_option maxRecDepth 100000 in
set_option maxHeartbeats 4000000 in
theorem c_X6_returning (l : Launch) (g : am_g) (hI : am_inj (gR g)) (σ : am_M) (S : ab_S) (b : Int) (hR : ab_R S σ) (hS : ab_I S b) : Met l yX6_returning wsX6_returning ({ frames := 0, cells := 0, slots := 0, locals := 0 }) (am_P (gR g) σ [.inr (20, 0)]) (am_QI (gR g) (fun r σ' => ab_R (ab_u S 19 5 0) σ' ∧ r = ab_ret S)) 0 0 (am_FA (gR g)) := by
  refine wk_start (cc := cX6_returning) (nL := 3) (ret := (some .int)) (own := RX6) (by decide) rfl hI rfl (Nat.le_of_ble_eq_true rfl) ?_
  intro p e s m below meth c C hr hlk
  change wk _ p l e _ s m _ below meth c 0 0 _ _ _ _ 0 [some (.inr (20, 0)), none, none] [] σ
  refine wk_aload_n C rfl dX6_returning_0 ?_
  refine wk_iconst C dX6_returning_1 ?_
  refine wk_put C (k := 20) (ci := 6) (j := 35) (T := TX6) rfl (show 0 < (1:Nat) by decide) rfl in_c_X6_returning_X6 tyX6 tyX6_ok nmX6 (by decide) (by decide +kernel) rfl rfl (by decide +kernel) dX6_returning_2 ?_
  refine wk_iconst C dX6_returning_5 ?_
  refine wk_istore_n C (by decide) (Nat.le_of_ble_eq_true rfl) dX6_returning_6 ?_
  refine wk_iconst C dX6_returning_7 ?_
  refine wk_istore_n C (by decide) (Nat.le_of_ble_eq_true rfl) dX6_returning_8 ?_
  have hl9 : ∀ (d k : Nat), 513 ≤ k + d → k ≤ 512 → wk (gR g) p l e (headSpec wsX6_returning ({ frames := 0, cells := 0, slots := 0, locals := 0 })).room s m ([.inr (20, 0)].map (am_tv (gR g))).toArray below meth c 0 0 (MQ below (am_QI (gR g) (fun r σ' => ab_R (ab_u S 19 5 0) σ' ∧ r = ab_ret S)) ([.inr (20, 0)].map (am_tv (gR g))).toArray s 0 0 (am_FA (gR g))) (am_FA (gR g)) s.heap 3 9 [some (.inr (20, 0)), some (.inl (am_sum (σ 42 0) k)), some (.inl ((k : Nat) : Int))] [] (am_up σ 20 0 35 0) := by
    intro d
    induction d with
    | zero => intro k h1 h2; omega
    | succ d ih =>
      intro k h1 h2
      refine wk_iload_n C rfl dX6_returning_9 ?_
      refine wk_sipush C (n := 512) (by decide) dX6_returning_10 ?_
      refine wk_icmp_ge C 31 (by omega) (by omega) (by decide) dX6_returning_13 (fun hc13 => ?_) (fun hc13 => ?_)
      · skip
        refine wk_iload_n C rfl dX6_returning_31 ?_
        refine wk_iret C hr hlk dX6_returning_32 ?_
        have h4 : k = 512 := by omega
        subst h4
        exact ⟨R_th hR _, R_ret hR hS⟩
      · skip
        refine wk_iload_n C rfl dX6_returning_16 ?_
        refine wk_aload_n C rfl dX6_returning_17 ?_
        refine wk_getr C (k := 20) (ci := 6) (j := 22) (T := TX6) rfl (show 0 < (1:Nat) by decide) rfl in_c_X6_returning_X6 (by decide) (by decide +kernel) rfl dX6_returning_18 ?_
        refine wk_iload_n C rfl dX6_returning_21 ?_
        refine wk_iald C (k := 42) rfl (show 0 < (1:Nat) by decide) (Nat.le_of_ble_eq_true rfl) (k) (by omega) (show _ < (512:Nat) by omega) dX6_returning_22 ?_
        rw [am_up_app, if_neg (by omega)]
        refine wk_iadd C dX6_returning_23 ?_
        refine wk_istore_n C (by decide) (Nat.le_of_ble_eq_true rfl) dX6_returning_24 ?_
        refine wk_iinc C rfl (by decide) dX6_returning_25 ?_
        refine wk_goto C 9 (by decide) dX6_returning_28 ?_
        exact ih (k + 1) (by omega) (by omega)
  exact hl9 513 0 (by omega) (by omega)

theorem in_c_X6_queued_X6 : ∀ w ∈ u_ws RX6 TX6 36, w ∈ wsX6_queued := by decide +kernel
set_option maxRecDepth 100000 in
set_option maxHeartbeats 4000000 in
theorem c_X6_queued (l : Launch) (g : am_g) (hI : am_inj (gR g)) (σ : am_M) (S : ab_S) (b : Int) (hR : ab_R S σ) (hS : ab_I S b) : Met l yX6_queued wsX6_queued ({ frames := 0, cells := 0, slots := 0, locals := 0 }) (am_P (gR g) σ [.inr (20, 0)]) (am_QI (gR g) (fun r σ' => ab_R (ab_u S 19 5 0) σ' ∧ r = ab_qd S)) 0 0 (am_FA (gR g)) := by
  refine wk_start (cc := cX6_queued) (nL := 3) (ret := (some .int)) (own := RX6) (by decide) rfl hI rfl (Nat.le_of_ble_eq_true rfl) ?_
  intro p e s m below meth c C hr hlk
  change wk _ p l e _ s m _ below meth c 0 0 _ _ _ _ 0 [some (.inr (20, 0)), none, none] [] σ
  refine wk_aload_n C rfl dX6_queued_0 ?_
  refine wk_iconst C dX6_queued_1 ?_
  refine wk_put C (k := 20) (ci := 6) (j := 35) (T := TX6) rfl (show 0 < (1:Nat) by decide) rfl in_c_X6_queued_X6 tyX6 tyX6_ok nmX6 (by decide) (by decide +kernel) rfl rfl (by decide +kernel) dX6_queued_2 ?_
  refine wk_iconst C dX6_queued_5 ?_
  refine wk_istore_n C (by decide) (Nat.le_of_ble_eq_true rfl) dX6_queued_6 ?_
  refine wk_iconst C dX6_queued_7 ?_
  refine wk_istore_n C (by decide) (Nat.le_of_ble_eq_true rfl) dX6_queued_8 ?_
  have hl9 : ∀ (d k : Nat), 65 ≤ k + d → k ≤ 64 → wk (gR g) p l e (headSpec wsX6_queued ({ frames := 0, cells := 0, slots := 0, locals := 0 })).room s m ([.inr (20, 0)].map (am_tv (gR g))).toArray below meth c 0 0 (MQ below (am_QI (gR g) (fun r σ' => ab_R (ab_u S 19 5 0) σ' ∧ r = ab_qd S)) ([.inr (20, 0)].map (am_tv (gR g))).toArray s 0 0 (am_FA (gR g))) (am_FA (gR g)) s.heap 3 9 [some (.inr (20, 0)), some (.inl (am_sum (fun L => S 14 L) k)), some (.inl ((k : Nat) : Int))] [] (am_up σ 20 0 35 0) := by
    intro d
    induction d with
    | zero => intro k h1 h2; omega
    | succ d ih =>
      intro k h1 h2
      refine wk_iload_n C rfl dX6_queued_9 ?_
      refine wk_bipush C (n := 64) (by decide) dX6_queued_10 ?_
      refine wk_icmp_ge C 30 (by omega) (by omega) (by decide) dX6_queued_12 (fun hc12 => ?_) (fun hc12 => ?_)
      · skip
        refine wk_iload_n C rfl dX6_queued_30 ?_
        refine wk_iret C hr hlk dX6_queued_31 ?_
        have h4 : k = 64 := by omega
        subst h4
        exact ⟨R_th hR _, rfl⟩
      · skip
        refine wk_iload_n C rfl dX6_queued_15 ?_
        refine wk_aload_n C rfl dX6_queued_16 ?_
        refine wk_getr C (k := 20) (ci := 6) (j := 19) (T := TX6) rfl (show 0 < (1:Nat) by decide) rfl in_c_X6_queued_X6 (by decide) (by decide +kernel) rfl dX6_queued_17 ?_
        refine wk_iload_n C rfl dX6_queued_20 ?_
        refine wk_iald C (k := 39) rfl (show 0 < (1:Nat) by decide) (Nat.le_of_ble_eq_true rfl) (k) (by omega) (show _ < (64:Nat) by omega) dX6_queued_21 ?_
        rw [am_up_app, if_neg (by omega), (hR.2.2.2.1 k (by omega)).1]
        refine wk_iadd C dX6_queued_22 ?_
        refine wk_istore_n C (by decide) (Nat.le_of_ble_eq_true rfl) dX6_queued_23 ?_
        refine wk_iinc C rfl (by decide) dX6_queued_24 ?_
        refine wk_goto C 9 (by decide) dX6_queued_27 ?_
        exact ih (k + 1) (by omega) (by omega)
  exact hl9 65 0 (by omega) (by omega)

theorem in_c_X6_begins_X6 : ∀ w ∈ u_ws RX6 TX6 36, w ∈ wsX6_begins := by decide +kernel
set_option maxRecDepth 100000 in
set_option maxHeartbeats 4000000 in
/-- begins -/
theorem c_X6_begins (l : Launch) (g : am_g) (hI : am_inj (gR g)) (σ : am_M)  : Met l yX6_begins wsX6_begins ({ frames := 0, cells := 0, slots := 0, locals := 0 }) (am_P (gR g) σ [.inr (20, 0)]) (am_QV (gR g) (fun σ' => rb3 σ 16 σ')) 0 0 (am_FA (gR g)) := by
  refine wk_start (cc := cX6_begins) (nL := 2) (ret := none) (own := RX6) (by decide) rfl hI rfl (Nat.le_of_ble_eq_true rfl) ?_
  intro p e s m below meth c C hr hlk
  change wk _ p l e _ s m _ below meth c 0 0 _ _ _ _ 0 [some (.inr (20, 0)), none] [] σ
  refine wk_aload_n C rfl dX6_begins_0 ?_
  refine wk_iconst C dX6_begins_1 ?_
  refine wk_put C (k := 20) (ci := 6) (j := 3) (T := TX6) rfl (show 0 < (1:Nat) by decide) rfl in_c_X6_begins_X6 tyX6 tyX6_ok nmX6 (by decide) (by decide +kernel) rfl rfl (by decide +kernel) dX6_begins_2 ?_
  refine wk_aload_n C rfl dX6_begins_5 ?_
  refine wk_iconst C dX6_begins_6 ?_
  refine wk_put C (k := 20) (ci := 6) (j := 4) (T := TX6) rfl (show 0 < (1:Nat) by decide) rfl in_c_X6_begins_X6 tyX6 tyX6_ok nmX6 (by decide) (by decide +kernel) rfl rfl (by decide +kernel) dX6_begins_7 ?_
  have hb0 : rb0 σ (am_up (am_up σ 20 0 3 0) 20 0 4 0) := by simp [rb0, am_up_app]
  refine wk_iconst C dX6_begins_10 ?_
  refine wk_istore_n C (by decide) (Nat.le_of_ble_eq_true rfl) dX6_begins_11 ?_
  have hl12 : ∀ (da ka : Nat) (σa : am_M), 65 ≤ ka + da → ka ≤ 64 → rb1 σ ka σa → wk (gR g) p l e (headSpec wsX6_begins ({ frames := 0, cells := 0, slots := 0, locals := 0 })).room s m ([.inr (20, 0)].map (am_tv (gR g))).toArray below meth c 0 0 (MQ below (am_QV (gR g) (fun σ' => rb3 σ 16 σ')) ([.inr (20, 0)].map (am_tv (gR g))).toArray s 0 0 (am_FA (gR g))) (am_FA (gR g)) s.heap 2 12 [some (.inr (20, 0)), some (.inl ((ka : Nat) : Int))] [] σa := by
    intro da
    induction da with
    | zero => intro ka σa h1a h2a h3a; omega
    | succ da iha =>
      intro ka σa h1a h2a h3a
      refine wk_iload_n C rfl dX6_begins_12 ?_
      refine wk_bipush C (n := 64) (by decide) dX6_begins_13 ?_
      refine wk_icmp_ge C 45 (by omega) (by omega) (by decide) dX6_begins_15 (fun hc15 => ?_) (fun hc15 => ?_)
      · skip
        have h4 : ka = 64 := by omega
        subst h4
        refine wk_iconst C dX6_begins_45 ?_
        refine wk_istore_n C (by decide) (Nat.le_of_ble_eq_true rfl) dX6_begins_46 ?_
        have hl47 : ∀ (db kb : Nat) (σb : am_M), 513 ≤ kb + db → kb ≤ 512 → rb2 σ kb σb → wk (gR g) p l e (headSpec wsX6_begins ({ frames := 0, cells := 0, slots := 0, locals := 0 })).room s m ([.inr (20, 0)].map (am_tv (gR g))).toArray below meth c 0 0 (MQ below (am_QV (gR g) (fun σ' => rb3 σ 16 σ')) ([.inr (20, 0)].map (am_tv (gR g))).toArray s 0 0 (am_FA (gR g))) (am_FA (gR g)) s.heap 2 47 [some (.inr (20, 0)), some (.inl ((kb : Nat) : Int))] [] σb := by
          intro db
          induction db with
          | zero => intro kb σb h1b h2b h3b; omega
          | succ db ihb =>
            intro kb σb h1b h2b h3b
            refine wk_iload_n C rfl dX6_begins_47 ?_
            refine wk_sipush C (n := 512) (by decide) dX6_begins_48 ?_
            refine wk_icmp_ge C 67 (by omega) (by omega) (by decide) dX6_begins_51 (fun hc51 => ?_) (fun hc51 => ?_)
            · skip
              have h5 : kb = 512 := by omega
              subst h5
              refine wk_iconst C dX6_begins_67 ?_
              refine wk_istore_n C (by decide) (Nat.le_of_ble_eq_true rfl) dX6_begins_68 ?_
              have hl69 : ∀ (dc kc : Nat) (σc : am_M), 17 ≤ kc + dc → kc ≤ 16 → rb3 σ kc σc → wk (gR g) p l e (headSpec wsX6_begins ({ frames := 0, cells := 0, slots := 0, locals := 0 })).room s m ([.inr (20, 0)].map (am_tv (gR g))).toArray below meth c 0 0 (MQ below (am_QV (gR g) (fun σ' => rb3 σ 16 σ')) ([.inr (20, 0)].map (am_tv (gR g))).toArray s 0 0 (am_FA (gR g))) (am_FA (gR g)) s.heap 2 69 [some (.inr (20, 0)), some (.inl ((kc : Nat) : Int))] [] σc := by
                intro dc
                induction dc with
                | zero => intro kc σc h1c h2c h3c; omega
                | succ dc ihc =>
                  intro kc σc h1c h2c h3c
                  refine wk_iload_n C rfl dX6_begins_69 ?_
                  refine wk_bipush C (n := 16) (by decide) dX6_begins_70 ?_
                  refine wk_icmp_ge C 102 (by omega) (by omega) (by decide) dX6_begins_72 (fun hc72 => ?_) (fun hc72 => ?_)
                  · skip
                    refine wk_vret C hr hlk dX6_begins_102 ?_
                    have h6 : kc = 16 := by omega
                    subst h6
                    exact h3c
                  · skip
                    refine wk_aload_n C rfl dX6_begins_75 ?_
                    refine wk_getr C (k := 20) (ci := 6) (j := 27) (T := TX6) rfl (show 0 < (1:Nat) by decide) rfl in_c_X6_begins_X6 (by decide) (by decide +kernel) rfl dX6_begins_76 ?_
                    refine wk_iload_n C rfl dX6_begins_79 ?_
                    refine wk_iconst C dX6_begins_80 ?_
                    refine wk_zast C (k := 47) rfl (show 0 < (1:Nat) by decide) (Nat.le_of_ble_eq_true rfl) (kc) (by omega) (show _ < (16:Nat) by omega) (Or.inl rfl) dX6_begins_81 ?_
                    refine wk_aload_n C rfl dX6_begins_82 ?_
                    refine wk_getr C (k := 20) (ci := 6) (j := 28) (T := TX6) rfl (show 0 < (1:Nat) by decide) rfl in_c_X6_begins_X6 (by decide) (by decide +kernel) rfl dX6_begins_83 ?_
                    refine wk_iload_n C rfl dX6_begins_86 ?_
                    refine wk_iconst C dX6_begins_87 ?_
                    refine wk_iast C (k := 48) rfl (show 0 < (1:Nat) by decide) (Nat.le_of_ble_eq_true rfl) (kc) (by omega) (show _ < (16:Nat) by omega) dX6_begins_88 ?_
                    refine wk_aload_n C rfl dX6_begins_89 ?_
                    refine wk_getr C (k := 20) (ci := 6) (j := 30) (T := TX6) rfl (show 0 < (1:Nat) by decide) rfl in_c_X6_begins_X6 (by decide) (by decide +kernel) rfl dX6_begins_90 ?_
                    refine wk_iload_n C rfl dX6_begins_93 ?_
                    refine wk_iconst C dX6_begins_94 ?_
                    refine wk_iast C (k := 50) rfl (show 0 < (1:Nat) by decide) (Nat.le_of_ble_eq_true rfl) (kc) (by omega) (show _ < (16:Nat) by omega) dX6_begins_95 ?_
                    refine wk_iinc C rfl (by decide) dX6_begins_96 ?_
                    refine wk_goto C 69 (by decide) dX6_begins_99 ?_
                    exact ihc (kc + 1) _ (by omega) (by omega) (rb3_S h3c)
              exact hl69 17 0 _ (by omega) (by omega) ⟨h3b, fun _ z => absurd z (Nat.not_lt_zero _)⟩
            · skip
              refine wk_aload_n C rfl dX6_begins_54 ?_
              refine wk_getr C (k := 20) (ci := 6) (j := 22) (T := TX6) rfl (show 0 < (1:Nat) by decide) rfl in_c_X6_begins_X6 (by decide) (by decide +kernel) rfl dX6_begins_55 ?_
              refine wk_iload_n C rfl dX6_begins_58 ?_
              refine wk_iconst C dX6_begins_59 ?_
              refine wk_iast C (k := 42) rfl (show 0 < (1:Nat) by decide) (Nat.le_of_ble_eq_true rfl) (kb) (by omega) (show _ < (512:Nat) by omega) dX6_begins_60 ?_
              refine wk_iinc C rfl (by decide) dX6_begins_61 ?_
              refine wk_goto C 47 (by decide) dX6_begins_64 ?_
              exact ihb (kb + 1) _ (by omega) (by omega) (rb2_S h3b)
        exact hl47 513 0 _ (by omega) (by omega) ⟨h3a, fun _ z => absurd z (Nat.not_lt_zero _)⟩
      · skip
        refine wk_aload_n C rfl dX6_begins_18 ?_
        refine wk_getr C (k := 20) (ci := 6) (j := 18) (T := TX6) rfl (show 0 < (1:Nat) by decide) rfl in_c_X6_begins_X6 (by decide) (by decide +kernel) rfl dX6_begins_19 ?_
        refine wk_iload_n C rfl dX6_begins_22 ?_
        refine wk_iconst C dX6_begins_23 ?_
        refine wk_iast C (k := 38) rfl (show 0 < (1:Nat) by decide) (Nat.le_of_ble_eq_true rfl) (ka) (by omega) (show _ < (64:Nat) by omega) dX6_begins_24 ?_
        refine wk_aload_n C rfl dX6_begins_25 ?_
        refine wk_getr C (k := 20) (ci := 6) (j := 19) (T := TX6) rfl (show 0 < (1:Nat) by decide) rfl in_c_X6_begins_X6 (by decide) (by decide +kernel) rfl dX6_begins_26 ?_
        refine wk_iload_n C rfl dX6_begins_29 ?_
        refine wk_iconst C dX6_begins_30 ?_
        refine wk_iast C (k := 39) rfl (show 0 < (1:Nat) by decide) (Nat.le_of_ble_eq_true rfl) (ka) (by omega) (show _ < (64:Nat) by omega) dX6_begins_31 ?_
        refine wk_aload_n C rfl dX6_begins_32 ?_
        refine wk_getr C (k := 20) (ci := 6) (j := 20) (T := TX6) rfl (show 0 < (1:Nat) by decide) rfl in_c_X6_begins_X6 (by decide) (by decide +kernel) rfl dX6_begins_33 ?_
        refine wk_iload_n C rfl dX6_begins_36 ?_
        refine wk_iconst C dX6_begins_37 ?_
        refine wk_iast C (k := 40) rfl (show 0 < (1:Nat) by decide) (Nat.le_of_ble_eq_true rfl) (ka) (by omega) (show _ < (64:Nat) by omega) dX6_begins_38 ?_
        refine wk_iinc C rfl (by decide) dX6_begins_39 ?_
        refine wk_goto C 12 (by decide) dX6_begins_42 ?_
        exact iha (ka + 1) _ (by omega) (by omega) (rb1_S h3a)
  exact hl12 65 0 _ (by omega) (by omega) ⟨hb0, fun _ z => absurd z (Nat.not_lt_zero _)⟩

theorem in_c_X6_reset_X6 : ∀ w ∈ u_ws RX6 TX6 36, w ∈ wsX6_reset := by decide +kernel
set_option maxRecDepth 100000 in
set_option maxHeartbeats 4000000 in
/-- reset -/
theorem c_X6_reset (l : Launch) (g : am_g) (hI : am_inj (gR g)) (σ : am_M) (p1 p2 p3 : Int) (hp1 : -2147483648 ≤ p1 ∧ p1 < 2147483648) (hp2 : -2147483648 ≤ p2 ∧ p2 < 2147483648) (hp3 : -2147483648 ≤ p3 ∧ p3 < 2147483648) (S : ab_S) (b : Int) (hR : ab_R S σ) (hS : ab_I S b) : Met l yX6_reset wsX6_reset ({ frames := 1, cells := 0, slots := 0, locals := 22 }) (am_P (gR g) σ [.inr (20, 0), .inl (p1), .inl (p2), .inl (p3)]) (am_QV (gR g) (fun σ' => (ab_okR p1 p2 p3 ∧ ab_R (ab_new0 p1 p2 p3) σ') ∨ (¬ ab_okR p1 p2 p3 ∧ ab_R (ab_u S 19 5 1) σ'))) 0 0 (am_FA (gR g)) := by
  refine wk_start (cc := cX6_reset) (nL := 4) (ret := none) (own := RX6) (by decide) rfl hI rfl (Nat.le_of_ble_eq_true rfl) ?_
  intro p e s m below meth c C hr hlk
  change wk _ p l e _ s m _ below meth c 0 0 _ _ _ _ 0 [some (.inr (20, 0)), some (.inl (p1)), some (.inl (p2)), some (.inl (p3))] [] σ
  have hj35 : ∀ w : Int, (w = 0 ∧ ab_okR p1 p2 p3) ∨ (w = 1 ∧ ¬ ab_okR p1 p2 p3) → wk (gR g) p l e (headSpec wsX6_reset ({ frames := 1, cells := 0, slots := 0, locals := 22 })).room s m ([.inr (20, 0), .inl (p1), .inl (p2), .inl (p3)].map (am_tv (gR g))).toArray below meth c 0 0 (MQ below (am_QV (gR g) (fun σ' => (ab_okR p1 p2 p3 ∧ ab_R (ab_new0 p1 p2 p3) σ') ∨ (¬ ab_okR p1 p2 p3 ∧ ab_R (ab_u S 19 5 1) σ'))) ([.inr (20, 0), .inl (p1), .inl (p2), .inl (p3)].map (am_tv (gR g))).toArray s 0 0 (am_FA (gR g))) (am_FA (gR g)) s.heap 4 35 [some (.inr (20, 0)), some (.inl (p1)), some (.inl (p2)), some (.inl (p3))] [.inl (w), .inr (20, 0)] σ := by
    intro w hw
    refine wk_ofI C (wk_runV (index := 124) (ci := 6) (st := []) C (c_X6_goes l g hI _ w (by omega)) (cwV 1 C.2.2.2.2.1 gX6_reset_X6_goes rfl rfl rfl (by decide +kernel) ⟨Nat.le_of_ble_eq_true rfl, Nat.le_of_ble_eq_true rfl⟩) rfl (show 0 < (1:Nat) by decide) rfl rfl rfl (Nat.le_of_ble_eq_true rfl) dX6_reset_35 ⟨Nat.zero_le _, Nat.zero_le _⟩) (fun r35 σ35 hp35 => ?_)
    obtain ⟨rfl, hg35⟩ := hp35
    refine wk_if_eq C 60 (by omega) (by decide) dX6_reset_38 (fun hc38 => ?_) (fun hc38 => ?_)
    · skip
      have hw := hw.resolve_left (fun z => by omega)
      obtain ⟨rfl, hok⟩ := hw
      refine wk_vret C hr hlk dX6_reset_60 ?_
      first
        | exact Or.inr ⟨hok, R_th hR _⟩
        | exact Or.inl ⟨hok, hb3⟩
    · skip
      have hw := hw.resolve_right (fun z => by omega)
      obtain ⟨rfl, hok⟩ := hw
      refine wk_aload_n C rfl dX6_reset_41 ?_
      refine wk_iload_n C rfl dX6_reset_42 ?_
      refine wk_put C (k := 20) (ci := 6) (j := 0) (T := TX6) rfl (show 0 < (1:Nat) by decide) rfl in_c_X6_reset_X6 tyX6 tyX6_ok nmX6 (by decide) (by decide +kernel) rfl rfl (by decide +kernel) dX6_reset_43 ?_
      refine wk_aload_n C rfl dX6_reset_46 ?_
      refine wk_iload_n C rfl dX6_reset_47 ?_
      refine wk_put C (k := 20) (ci := 6) (j := 1) (T := TX6) rfl (show 0 < (1:Nat) by decide) rfl in_c_X6_reset_X6 tyX6 tyX6_ok nmX6 (by decide) (by decide +kernel) rfl rfl (by decide +kernel) dX6_reset_48 ?_
      refine wk_aload_n C rfl dX6_reset_51 ?_
      refine wk_iload_n C rfl dX6_reset_52 ?_
      refine wk_put C (k := 20) (ci := 6) (j := 2) (T := TX6) rfl (show 0 < (1:Nat) by decide) rfl in_c_X6_reset_X6 tyX6 tyX6_ok nmX6 (by decide) (by decide +kernel) rfl rfl (by decide +kernel) dX6_reset_53 ?_
      refine wk_aload_n C rfl dX6_reset_56 ?_
      refine wk_ofV C (wk_runV (index := 108) (ci := 6) (st := []) C (c_X6_begins l g hI _) (cwV 0 C.2.2.2.2.1 gX6_reset_X6_begins rfl rfl rfl (by decide +kernel) ⟨Nat.le_of_ble_eq_true rfl, Nat.le_of_ble_eq_true rfl⟩) rfl (show 0 < (1:Nat) by decide) rfl rfl rfl (Nat.le_of_ble_eq_true rfl) dX6_reset_57 ⟨Nat.zero_le _, Nat.zero_le _⟩) (fun σ57 hp57 => ?_)
      have hb3 := R_new0 hp57 (by simp [am_up_app])
      simp only [am_up_app, Nat.reduceEqDiff, and_true, and_false, true_and, if_true, if_false] at hb3
      refine wk_vret C hr hlk dX6_reset_60 ?_
      first
        | exact Or.inr ⟨hok, R_th hR _⟩
        | exact Or.inl ⟨hok, hb3⟩
  refine wk_aload_n C rfl dX6_reset_0 ?_
  refine wk_iload_n C rfl dX6_reset_1 ?_
  refine wk_iconst C dX6_reset_2 ?_
  refine wk_iconst C dX6_reset_3 ?_
  refine wk_ofI C (wk_runS (index := 114) (st := [_]) C (c_X6_isIn l g hI _ p1 0 5 (by omega) (by omega) (by omega)) (cwS 3 C.2.2.2.2.1 gX6_reset_X6_isIn rfl rfl rfl (by decide +kernel) ⟨Nat.le_of_ble_eq_true rfl, Nat.le_of_ble_eq_true rfl⟩) rfl rfl (Nat.le_of_ble_eq_true rfl) dX6_reset_4 ⟨Nat.zero_le _, Nat.zero_le _⟩) (fun r4 σ4 hp4 => ?_)
  obtain ⟨hsg4, hr4⟩ := hp4
  rw [hsg4]
  have hb4 : (r4 = 1 ∧ (0 ≤ p1 ∧ p1 ≤ 5)) ∨ (r4 = 0 ∧ ¬ (0 ≤ p1 ∧ p1 ≤ 5)) := by
    rw [hr4]
    split
    · rename_i z; exact Or.inl ⟨rfl, z⟩
    · rename_i z; exact Or.inr ⟨rfl, z⟩
  refine wk_if_eq C 34 (by omega) (by decide) dX6_reset_7 (fun hc7 => ?_) (fun hc7 => ?_)
  · skip
    refine wk_iconst C dX6_reset_34 ?_
    exact hj35 _ (by unfold ab_okR; omega)
  · skip
    refine wk_iload_n C rfl dX6_reset_10 ?_
    refine wk_iconst C dX6_reset_11 ?_
    refine wk_bipush C (n := 50) (by decide) dX6_reset_12 ?_
    refine wk_ofI C (wk_runS (index := 114) (st := [_]) C (c_X6_isIn l g hI _ p2 1 50 (by omega) (by omega) (by omega)) (cwS 3 C.2.2.2.2.1 gX6_reset_X6_isIn rfl rfl rfl (by decide +kernel) ⟨Nat.le_of_ble_eq_true rfl, Nat.le_of_ble_eq_true rfl⟩) rfl rfl (Nat.le_of_ble_eq_true rfl) dX6_reset_14 ⟨Nat.zero_le _, Nat.zero_le _⟩) (fun r14 σ14 hp14 => ?_)
    obtain ⟨hsg14, hr14⟩ := hp14
    rw [hsg14]
    have hb14 : (r14 = 1 ∧ (1 ≤ p2 ∧ p2 ≤ 50)) ∨ (r14 = 0 ∧ ¬ (1 ≤ p2 ∧ p2 ≤ 50)) := by
      rw [hr14]
      split
      · rename_i z; exact Or.inl ⟨rfl, z⟩
      · rename_i z; exact Or.inr ⟨rfl, z⟩
    refine wk_if_eq C 34 (by omega) (by decide) dX6_reset_17 (fun hc17 => ?_) (fun hc17 => ?_)
    · skip
      refine wk_iconst C dX6_reset_34 ?_
      exact hj35 _ (by unfold ab_okR; omega)
    · skip
      refine wk_iload_n C rfl dX6_reset_20 ?_
      refine wk_iconst C dX6_reset_21 ?_
      refine wk_bipush C (n := 16) (by decide) dX6_reset_22 ?_
      refine wk_ofI C (wk_runS (index := 114) (st := [_]) C (c_X6_isIn l g hI _ p3 1 16 (by omega) (by omega) (by omega)) (cwS 3 C.2.2.2.2.1 gX6_reset_X6_isIn rfl rfl rfl (by decide +kernel) ⟨Nat.le_of_ble_eq_true rfl, Nat.le_of_ble_eq_true rfl⟩) rfl rfl (Nat.le_of_ble_eq_true rfl) dX6_reset_24 ⟨Nat.zero_le _, Nat.zero_le _⟩) (fun r24 σ24 hp24 => ?_)
      obtain ⟨hsg24, hr24⟩ := hp24
      rw [hsg24]
      have hb24 : (r24 = 1 ∧ (1 ≤ p3 ∧ p3 ≤ 16)) ∨ (r24 = 0 ∧ ¬ (1 ≤ p3 ∧ p3 ≤ 16)) := by
        rw [hr24]
        split
        · rename_i z; exact Or.inl ⟨rfl, z⟩
        · rename_i z; exact Or.inr ⟨rfl, z⟩
      refine wk_if_eq C 34 (by omega) (by decide) dX6_reset_27 (fun hc27 => ?_) (fun hc27 => ?_)
      · skip
        refine wk_iconst C dX6_reset_34 ?_
        exact hj35 _ (by unfold ab_okR; omega)
      · skip
        refine wk_iconst C dX6_reset_30 ?_
        refine wk_goto C 35 (by decide) dX6_reset_31 ?_
        exact hj35 _ (by unfold ab_okR; omega)
