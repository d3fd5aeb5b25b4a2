/-! getters at arguments in range: nothing is thrown, nothing is made -/
set_option maxRecDepth 100000 in
set_option maxHeartbeats 4000000 in
theorem z_X5_checkHost (l : Launch) (g : am_g) (hI : am_inj (gC g)) (σ : am_M) (p1 : Int) (hz : 0 ≤ p1 ∧ p1 < 16) : Met l yX5_checkHost wsX5_checkHost ({ frames := 1, cells := 0, slots := 0, locals := 22 }) (am_P (gC g) σ [.inl (p1)]) (am_QV (gC g) (fun σ' => σ' = σ)) 0 0 (am_FA (gC g)) := by
  refine wk_start (cc := cX5_checkHost) (nL := 1) (ret := none) (own := RX5) (by decide) rfl hI rfl (Nat.le_of_ble_eq_true rfl) ?_
  intro p e s m below meth c C hr hlk
  change wk _ p l e _ s m _ below meth c 0 0 _ _ _ _ 0 [some (.inl (p1))] [] σ
  refine wk_iload_n C rfl dX5_checkHost_0 ?_
  refine wk_iconst C dX5_checkHost_1 ?_
  refine wk_bipush C (n := 15) (by decide) dX5_checkHost_2 ?_
  refine wk_ofI C (wk_runS (index := 103) (st := []) C (c_X5_isOutside l g hI _ p1 0 15 (by omega) (by omega) (by omega)) (cwS 3 C.2.2.2.2.1 gX5_checkHost_X5_isOutside rfl rfl rfl (by decide +kernel) ⟨Nat.le_of_ble_eq_true rfl, Nat.le_of_ble_eq_true rfl⟩) rfl rfl (Nat.le_of_ble_eq_true rfl) dX5_checkHost_4 ⟨Nat.zero_le _, Nat.zero_le _⟩) (fun r4 σ4 hp4 => ?_)
  obtain ⟨hsg4, hr4⟩ := hp4
  rw [hsg4]
  have hb4 : (r4 = 1 ∧ (p1 < 0 ∨ 15 < p1)) ∨ (r4 = 0 ∧ ¬ (p1 < 0 ∨ 15 < p1)) := by
    rw [hr4]
    split
    · rename_i z; exact Or.inl ⟨rfl, z⟩
    · rename_i z; exact Or.inr ⟨rfl, z⟩
  refine wk_if_eq C 21 (by omega) (by decide) dX5_checkHost_7 (fun hc7 => ?_) (fun hc7 => ?_)
  · skip
    refine wk_vret C hr hlk dX5_checkHost_21 ?_
    rfl
  · skip
    exfalso; omega

set_option maxRecDepth 100000 in
set_option maxHeartbeats 4000000 in
theorem z_X5_checkConnection (l : Launch) (g : am_g) (hI : am_inj (gC g)) (σ : am_M) (p1 p2 : Int) (hz : (0 ≤ p1 ∧ p1 < 4) ∧ (0 ≤ p2 ∧ p2 < 4)) : Met l yX5_checkConnection wsX5_checkConnection ({ frames := 1, cells := 0, slots := 0, locals := 22 }) (am_P (gC g) σ [.inl (p1), .inl (p2)]) (am_QV (gC g) (fun σ' => σ' = σ)) 0 0 (am_FA (gC g)) := by
  refine wk_start (cc := cX5_checkConnection) (nL := 2) (ret := none) (own := RX5) (by decide) rfl hI rfl (Nat.le_of_ble_eq_true rfl) ?_
  intro p e s m below meth c C hr hlk
  change wk _ p l e _ s m _ below meth c 0 0 _ _ _ _ 0 [some (.inl (p1)), some (.inl (p2))] [] σ
  refine wk_iload_n C rfl dX5_checkConnection_0 ?_
  refine wk_iconst C dX5_checkConnection_1 ?_
  refine wk_iconst C dX5_checkConnection_2 ?_
  refine wk_ofI C (wk_runS (index := 103) (st := []) C (c_X5_isOutside l g hI _ p1 0 3 (by omega) (by omega) (by omega)) (cwS 3 C.2.2.2.2.1 gX5_checkConnection_X5_isOutside rfl rfl rfl (by decide +kernel) ⟨Nat.le_of_ble_eq_true rfl, Nat.le_of_ble_eq_true rfl⟩) rfl rfl (Nat.le_of_ble_eq_true rfl) dX5_checkConnection_3 ⟨Nat.zero_le _, Nat.zero_le _⟩) (fun r3 σ3 hp3 => ?_)
  obtain ⟨hsg3, hr3⟩ := hp3
  rw [hsg3]
  have hb3 : (r3 = 1 ∧ (p1 < 0 ∨ 3 < p1)) ∨ (r3 = 0 ∧ ¬ (p1 < 0 ∨ 3 < p1)) := by
    rw [hr3]
    split
    · rename_i z; exact Or.inl ⟨rfl, z⟩
    · rename_i z; exact Or.inr ⟨rfl, z⟩
  refine wk_if_ne C 18 (by omega) (by decide) dX5_checkConnection_6 (fun hc6 => ?_) (fun hc6 => ?_)
  · skip
    exfalso; omega
  · skip
    refine wk_iload_n C rfl dX5_checkConnection_9 ?_
    refine wk_iconst C dX5_checkConnection_10 ?_
    refine wk_iconst C dX5_checkConnection_11 ?_
    refine wk_ofI C (wk_runS (index := 103) (st := []) C (c_X5_isOutside l g hI _ p2 0 3 (by omega) (by omega) (by omega)) (cwS 3 C.2.2.2.2.1 gX5_checkConnection_X5_isOutside rfl rfl rfl (by decide +kernel) ⟨Nat.le_of_ble_eq_true rfl, Nat.le_of_ble_eq_true rfl⟩) rfl rfl (Nat.le_of_ble_eq_true rfl) dX5_checkConnection_12 ⟨Nat.zero_le _, Nat.zero_le _⟩) (fun r12 σ12 hp12 => ?_)
    obtain ⟨hsg12, hr12⟩ := hp12
    rw [hsg12]
    have hb12 : (r12 = 1 ∧ (p2 < 0 ∨ 3 < p2)) ∨ (r12 = 0 ∧ ¬ (p2 < 0 ∨ 3 < p2)) := by
      rw [hr12]
      split
      · rename_i z; exact Or.inl ⟨rfl, z⟩
      · rename_i z; exact Or.inr ⟨rfl, z⟩
    refine wk_if_eq C 29 (by omega) (by decide) dX5_checkConnection_15 (fun hc15 => ?_) (fun hc15 => ?_)
    · skip
      refine wk_vret C hr hlk dX5_checkConnection_29 ?_
      rfl
    · skip
      exfalso; omega

theorem in_z_X5_checkFlow_X5 : ∀ w ∈ u_ws RX5 TX5 13, w ∈ wsX5_checkFlow := by decide +kernel
set_option maxRecDepth 100000 in
set_option maxHeartbeats 4000000 in
theorem z_X5_checkFlow (l : Launch) (g : am_g) (hI : am_inj (gC g)) (σ : am_M) (p1 : Int) (S : ab_S) (b : Int) (hC : ab_C S σ) (hS : ab_I S b) (hz : 0 ≤ p1 ∧ p1 < S 19 4) : Met l yX5_checkFlow wsX5_checkFlow ({ frames := 1, cells := 0, slots := 0, locals := 22 }) (am_P (gC g) σ [.inr (0, 0), .inl (p1)]) (am_QV (gC g) (fun σ' => σ' = σ)) 0 0 (am_FA (gC g)) := by
  refine wk_start (cc := cX5_checkFlow) (nL := 2) (ret := none) (own := RX5) (by decide) rfl hI rfl (Nat.le_of_ble_eq_true rfl) ?_
  intro p e s m below meth c C hr hlk
  change wk _ p l e _ s m _ below meth c 0 0 _ _ _ _ 0 [some (.inr (0, 0)), some (.inl (p1))] [] σ
  have hn24 := hS.2.1.2.2.2.2
  refine wk_iload_n C rfl dX5_checkFlow_0 ?_
  refine wk_iconst C dX5_checkFlow_1 ?_
  refine wk_aload_n C rfl dX5_checkFlow_2 ?_
  refine wk_geti C (k := 0) (ci := 5) (j := 8) (T := TX5) rfl (show 0 < (1:Nat) by decide) rfl in_z_X5_checkFlow_X5 (by decide) (by decide +kernel) rfl dX5_checkFlow_3 ?_
  rw [hC.1.1]
  refine wk_iconst C dX5_checkFlow_6 ?_
  refine wk_isub C dX5_checkFlow_7 ?_
  refine wk_ofI C (wk_runS (index := 103) (st := []) C (c_X5_isOutside l g hI _ p1 0 (S 19 4 - 1) (by omega) (by omega) (by omega)) (cwS 3 C.2.2.2.2.1 gX5_checkFlow_X5_isOutside rfl rfl rfl (by decide +kernel) ⟨Nat.le_of_ble_eq_true rfl, Nat.le_of_ble_eq_true rfl⟩) rfl rfl (Nat.le_of_ble_eq_true rfl) dX5_checkFlow_8 ⟨Nat.zero_le _, Nat.zero_le _⟩) (fun r8 σ8 hp8 => ?_)
  obtain ⟨hsg8, hr8⟩ := hp8
  rw [hsg8]
  have hb8 : (r8 = 1 ∧ (p1 < 0 ∨ S 19 4 - 1 < p1)) ∨ (r8 = 0 ∧ ¬ (p1 < 0 ∨ S 19 4 - 1 < p1)) := by
    rw [hr8]
    split
    · rename_i z; exact Or.inl ⟨rfl, z⟩
    · rename_i z; exact Or.inr ⟨rfl, z⟩
  refine wk_if_eq C 25 (by omega) (by decide) dX5_checkFlow_11 (fun hc11 => ?_) (fun hc11 => ?_)
  · skip
    refine wk_vret C hr hlk dX5_checkFlow_25 ?_
    rfl
  · skip
    exfalso; omega

theorem in_z_X5_sent_X0 : ∀ w ∈ u_ws RX0 TX0 13, w ∈ wsX5_sent := by decide +kernel
theorem in_z_X5_sent_X5 : ∀ w ∈ u_ws RX5 TX5 13, w ∈ wsX5_sent := by decide +kernel
set_option maxRecDepth 100000 in
set_option maxHeartbeats 4000000 in
theorem z_X5_sent (l : Launch) (g : am_g) (hI : am_inj (gC g)) (σ : am_M) (p1 : Int) (S : ab_S) (b : Int) (hC : ab_C S σ) (hS : ab_I S b) (hz : 0 ≤ p1 ∧ p1 < S 19 4) : Met l yX5_sent wsX5_sent ({ frames := 2, cells := 0, slots := 0, locals := 43 }) (am_P (gC g) σ [.inr (0, 0), .inl (p1)]) (am_QI (gC g) (fun r σ' => σ' = σ ∧ r = S 4 p1.toNat)) 0 0 (am_FA (gC g)) := by
  refine wk_start (cc := cX5_sent) (nL := 2) (ret := (some .int)) (own := RX5) (by decide) rfl hI rfl (Nat.le_of_ble_eq_true rfl) ?_
  intro p e s m below meth c C hr hlk
  change wk _ p l e _ s m _ below meth c 0 0 _ _ _ _ 0 [some (.inr (0, 0)), some (.inl (p1))] [] σ
  have hn24 := hS.2.1.2.2.2.2
  refine wk_aload_n C rfl dX5_sent_0 ?_
  refine wk_iload_n C rfl dX5_sent_1 ?_
  refine wk_ofV C (wk_runV (index := 158) (ci := 5) (st := []) C (z_X5_checkFlow l g hI _ p1 S b hC hS hz) (cwV 1 C.2.2.2.2.1 gX5_sent_X5_checkFlow rfl rfl rfl (by decide +kernel) ⟨Nat.le_of_ble_eq_true rfl, Nat.le_of_ble_eq_true rfl⟩) rfl (show 0 < (1:Nat) by decide) rfl rfl rfl (Nat.le_of_ble_eq_true rfl) dX5_sent_2 ⟨Nat.zero_le _, Nat.zero_le _⟩) (fun σ2 hp2 => ?_)
  obtain rfl := hp2
  refine wk_aload_n C rfl dX5_sent_5 ?_
  refine wk_getr C (k := 0) (ci := 5) (j := 0) (T := TX5) rfl (show 0 < (1:Nat) by decide) rfl in_z_X5_sent_X5 (by decide) (by decide +kernel) rfl dX5_sent_6 ?_
  refine wk_iload_n C rfl dX5_sent_9 ?_
  refine wk_aald C (k := 1) rfl rfl (show 0 < (1:Nat) by decide) (Nat.le_of_ble_eq_true rfl) (p1.toNat) (Int.toNat_of_nonneg hz.1).symm (show _ < (24:Nat) by omega) dX5_sent_10 ?_
  refine wk_getiN C (k := 9) (ci := 0) (j := 4) (T := TX0) (host := RX5) rfl (show _ < (24:Nat) by omega) rfl in_z_X5_sent_X0 (by decide) (by decide +kernel) rfl dX5_sent_11 ?_
  rw [hC.2.1 p1.toNat 4 (by omega) (by omega)]
  refine wk_iret C hr hlk dX5_sent_14 ?_
  exact ⟨rfl, rfl⟩

theorem in_z_X5_delivered_X0 : ∀ w ∈ u_ws RX0 TX0 13, w ∈ wsX5_delivered := by decide +kernel
theorem in_z_X5_delivered_X5 : ∀ w ∈ u_ws RX5 TX5 13, w ∈ wsX5_delivered := by decide +kernel
set_option maxRecDepth 100000 in
set_option maxHeartbeats 4000000 in
theorem z_X5_delivered (l : Launch) (g : am_g) (hI : am_inj (gC g)) (σ : am_M) (p1 : Int) (S : ab_S) (b : Int) (hC : ab_C S σ) (hS : ab_I S b) (hz : 0 ≤ p1 ∧ p1 < S 19 4) : Met l yX5_delivered wsX5_delivered ({ frames := 2, cells := 0, slots := 0, locals := 43 }) (am_P (gC g) σ [.inr (0, 0), .inl (p1)]) (am_QI (gC g) (fun r σ' => σ' = σ ∧ r = S 5 p1.toNat)) 0 0 (am_FA (gC g)) := by
  refine wk_start (cc := cX5_delivered) (nL := 2) (ret := (some .int)) (own := RX5) (by decide) rfl hI rfl (Nat.le_of_ble_eq_true rfl) ?_
  intro p e s m below meth c C hr hlk
  change wk _ p l e _ s m _ below meth c 0 0 _ _ _ _ 0 [some (.inr (0, 0)), some (.inl (p1))] [] σ
  have hn24 := hS.2.1.2.2.2.2
  refine wk_aload_n C rfl dX5_delivered_0 ?_
  refine wk_iload_n C rfl dX5_delivered_1 ?_
  refine wk_ofV C (wk_runV (index := 158) (ci := 5) (st := []) C (z_X5_checkFlow l g hI _ p1 S b hC hS hz) (cwV 1 C.2.2.2.2.1 gX5_delivered_X5_checkFlow rfl rfl rfl (by decide +kernel) ⟨Nat.le_of_ble_eq_true rfl, Nat.le_of_ble_eq_true rfl⟩) rfl (show 0 < (1:Nat) by decide) rfl rfl rfl (Nat.le_of_ble_eq_true rfl) dX5_delivered_2 ⟨Nat.zero_le _, Nat.zero_le _⟩) (fun σ2 hp2 => ?_)
  obtain rfl := hp2
  refine wk_aload_n C rfl dX5_delivered_5 ?_
  refine wk_getr C (k := 0) (ci := 5) (j := 0) (T := TX5) rfl (show 0 < (1:Nat) by decide) rfl in_z_X5_delivered_X5 (by decide) (by decide +kernel) rfl dX5_delivered_6 ?_
  refine wk_iload_n C rfl dX5_delivered_9 ?_
  refine wk_aald C (k := 1) rfl rfl (show 0 < (1:Nat) by decide) (Nat.le_of_ble_eq_true rfl) (p1.toNat) (Int.toNat_of_nonneg hz.1).symm (show _ < (24:Nat) by omega) dX5_delivered_10 ?_
  refine wk_getiN C (k := 9) (ci := 0) (j := 5) (T := TX0) (host := RX5) rfl (show _ < (24:Nat) by omega) rfl in_z_X5_delivered_X0 (by decide) (by decide +kernel) rfl dX5_delivered_11 ?_
  rw [hC.2.1 p1.toNat 5 (by omega) (by omega)]
  refine wk_iret C hr hlk dX5_delivered_14 ?_
  exact ⟨rfl, rfl⟩

theorem in_z_X5_lost_X0 : ∀ w ∈ u_ws RX0 TX0 13, w ∈ wsX5_lost := by decide +kernel
theorem in_z_X5_lost_X5 : ∀ w ∈ u_ws RX5 TX5 13, w ∈ wsX5_lost := by decide +kernel
set_option maxRecDepth 100000 in
set_option maxHeartbeats 4000000 in
theorem z_X5_lost (l : Launch) (g : am_g) (hI : am_inj (gC g)) (σ : am_M) (p1 : Int) (S : ab_S) (b : Int) (hC : ab_C S σ) (hS : ab_I S b) (hz : 0 ≤ p1 ∧ p1 < S 19 4) : Met l yX5_lost wsX5_lost ({ frames := 2, cells := 0, slots := 0, locals := 43 }) (am_P (gC g) σ [.inr (0, 0), .inl (p1)]) (am_QI (gC g) (fun r σ' => σ' = σ ∧ r = S 6 p1.toNat)) 0 0 (am_FA (gC g)) := by
  refine wk_start (cc := cX5_lost) (nL := 2) (ret := (some .int)) (own := RX5) (by decide) rfl hI rfl (Nat.le_of_ble_eq_true rfl) ?_
  intro p e s m below meth c C hr hlk
  change wk _ p l e _ s m _ below meth c 0 0 _ _ _ _ 0 [some (.inr (0, 0)), some (.inl (p1))] [] σ
  have hn24 := hS.2.1.2.2.2.2
  refine wk_aload_n C rfl dX5_lost_0 ?_
  refine wk_iload_n C rfl dX5_lost_1 ?_
  refine wk_ofV C (wk_runV (index := 158) (ci := 5) (st := []) C (z_X5_checkFlow l g hI _ p1 S b hC hS hz) (cwV 1 C.2.2.2.2.1 gX5_lost_X5_checkFlow rfl rfl rfl (by decide +kernel) ⟨Nat.le_of_ble_eq_true rfl, Nat.le_of_ble_eq_true rfl⟩) rfl (show 0 < (1:Nat) by decide) rfl rfl rfl (Nat.le_of_ble_eq_true rfl) dX5_lost_2 ⟨Nat.zero_le _, Nat.zero_le _⟩) (fun σ2 hp2 => ?_)
  obtain rfl := hp2
  refine wk_aload_n C rfl dX5_lost_5 ?_
  refine wk_getr C (k := 0) (ci := 5) (j := 0) (T := TX5) rfl (show 0 < (1:Nat) by decide) rfl in_z_X5_lost_X5 (by decide) (by decide +kernel) rfl dX5_lost_6 ?_
  refine wk_iload_n C rfl dX5_lost_9 ?_
  refine wk_aald C (k := 1) rfl rfl (show 0 < (1:Nat) by decide) (Nat.le_of_ble_eq_true rfl) (p1.toNat) (Int.toNat_of_nonneg hz.1).symm (show _ < (24:Nat) by omega) dX5_lost_10 ?_
  refine wk_getiN C (k := 9) (ci := 0) (j := 6) (T := TX0) (host := RX5) rfl (show _ < (24:Nat) by omega) rfl in_z_X5_lost_X0 (by decide) (by decide +kernel) rfl dX5_lost_11 ?_
  rw [hC.2.1 p1.toNat 6 (by omega) (by omega)]
  refine wk_iret C hr hlk dX5_lost_14 ?_
  exact ⟨rfl, rfl⟩

theorem in_z_X5_outOfOrder_X0 : ∀ w ∈ u_ws RX0 TX0 13, w ∈ wsX5_outOfOrder := by decide +kernel
theorem in_z_X5_outOfOrder_X5 : ∀ w ∈ u_ws RX5 TX5 13, w ∈ wsX5_outOfOrder := by decide +kernel
set_option maxRecDepth 100000 in
set_option maxHeartbeats 4000000 in
theorem z_X5_outOfOrder (l : Launch) (g : am_g) (hI : am_inj (gC g)) (σ : am_M) (p1 : Int) (S : ab_S) (b : Int) (hC : ab_C S σ) (hS : ab_I S b) (hz : 0 ≤ p1 ∧ p1 < S 19 4) : Met l yX5_outOfOrder wsX5_outOfOrder ({ frames := 2, cells := 0, slots := 0, locals := 43 }) (am_P (gC g) σ [.inr (0, 0), .inl (p1)]) (am_QI (gC g) (fun r σ' => σ' = σ ∧ r = S 7 p1.toNat)) 0 0 (am_FA (gC g)) := by
  refine wk_start (cc := cX5_outOfOrder) (nL := 2) (ret := (some .int)) (own := RX5) (by decide) rfl hI rfl (Nat.le_of_ble_eq_true rfl) ?_
  intro p e s m below meth c C hr hlk
  change wk _ p l e _ s m _ below meth c 0 0 _ _ _ _ 0 [some (.inr (0, 0)), some (.inl (p1))] [] σ
  have hn24 := hS.2.1.2.2.2.2
  refine wk_aload_n C rfl dX5_outOfOrder_0 ?_
  refine wk_iload_n C rfl dX5_outOfOrder_1 ?_
  refine wk_ofV C (wk_runV (index := 158) (ci := 5) (st := []) C (z_X5_checkFlow l g hI _ p1 S b hC hS hz) (cwV 1 C.2.2.2.2.1 gX5_outOfOrder_X5_checkFlow rfl rfl rfl (by decide +kernel) ⟨Nat.le_of_ble_eq_true rfl, Nat.le_of_ble_eq_true rfl⟩) rfl (show 0 < (1:Nat) by decide) rfl rfl rfl (Nat.le_of_ble_eq_true rfl) dX5_outOfOrder_2 ⟨Nat.zero_le _, Nat.zero_le _⟩) (fun σ2 hp2 => ?_)
  obtain rfl := hp2
  refine wk_aload_n C rfl dX5_outOfOrder_5 ?_
  refine wk_getr C (k := 0) (ci := 5) (j := 0) (T := TX5) rfl (show 0 < (1:Nat) by decide) rfl in_z_X5_outOfOrder_X5 (by decide) (by decide +kernel) rfl dX5_outOfOrder_6 ?_
  refine wk_iload_n C rfl dX5_outOfOrder_9 ?_
  refine wk_aald C (k := 1) rfl rfl (show 0 < (1:Nat) by decide) (Nat.le_of_ble_eq_true rfl) (p1.toNat) (Int.toNat_of_nonneg hz.1).symm (show _ < (24:Nat) by omega) dX5_outOfOrder_10 ?_
  refine wk_getiN C (k := 9) (ci := 0) (j := 7) (T := TX0) (host := RX5) rfl (show _ < (24:Nat) by omega) rfl in_z_X5_outOfOrder_X0 (by decide) (by decide +kernel) rfl dX5_outOfOrder_11 ?_
  rw [hC.2.1 p1.toNat 7 (by omega) (by omega)]
  refine wk_iret C hr hlk dX5_outOfOrder_14 ?_
  exact ⟨rfl, rfl⟩

theorem in_z_X5_doneIn_X0 : ∀ w ∈ u_ws RX0 TX0 13, w ∈ wsX5_doneIn := by decide +kernel
theorem in_z_X5_doneIn_X5 : ∀ w ∈ u_ws RX5 TX5 13, w ∈ wsX5_doneIn := by decide +kernel
set_option maxRecDepth 100000 in
set_option maxHeartbeats 4000000 in
theorem z_X5_doneIn (l : Launch) (g : am_g) (hI : am_inj (gC g)) (σ : am_M) (p1 : Int) (S : ab_S) (b : Int) (hC : ab_C S σ) (hS : ab_I S b) (hz : 0 ≤ p1 ∧ p1 < S 19 4) : Met l yX5_doneIn wsX5_doneIn ({ frames := 2, cells := 0, slots := 0, locals := 43 }) (am_P (gC g) σ [.inr (0, 0), .inl (p1)]) (am_QI (gC g) (fun r σ' => σ' = σ ∧ r = S 9 p1.toNat)) 0 0 (am_FA (gC g)) := by
  refine wk_start (cc := cX5_doneIn) (nL := 2) (ret := (some .int)) (own := RX5) (by decide) rfl hI rfl (Nat.le_of_ble_eq_true rfl) ?_
  intro p e s m below meth c C hr hlk
  change wk _ p l e _ s m _ below meth c 0 0 _ _ _ _ 0 [some (.inr (0, 0)), some (.inl (p1))] [] σ
  have hn24 := hS.2.1.2.2.2.2
  refine wk_aload_n C rfl dX5_doneIn_0 ?_
  refine wk_iload_n C rfl dX5_doneIn_1 ?_
  refine wk_ofV C (wk_runV (index := 158) (ci := 5) (st := []) C (z_X5_checkFlow l g hI _ p1 S b hC hS hz) (cwV 1 C.2.2.2.2.1 gX5_doneIn_X5_checkFlow rfl rfl rfl (by decide +kernel) ⟨Nat.le_of_ble_eq_true rfl, Nat.le_of_ble_eq_true rfl⟩) rfl (show 0 < (1:Nat) by decide) rfl rfl rfl (Nat.le_of_ble_eq_true rfl) dX5_doneIn_2 ⟨Nat.zero_le _, Nat.zero_le _⟩) (fun σ2 hp2 => ?_)
  obtain rfl := hp2
  refine wk_aload_n C rfl dX5_doneIn_5 ?_
  refine wk_getr C (k := 0) (ci := 5) (j := 0) (T := TX5) rfl (show 0 < (1:Nat) by decide) rfl in_z_X5_doneIn_X5 (by decide) (by decide +kernel) rfl dX5_doneIn_6 ?_
  refine wk_iload_n C rfl dX5_doneIn_9 ?_
  refine wk_aald C (k := 1) rfl rfl (show 0 < (1:Nat) by decide) (Nat.le_of_ble_eq_true rfl) (p1.toNat) (Int.toNat_of_nonneg hz.1).symm (show _ < (24:Nat) by omega) dX5_doneIn_10 ?_
  refine wk_getiN C (k := 9) (ci := 0) (j := 9) (T := TX0) (host := RX5) rfl (show _ < (24:Nat) by omega) rfl in_z_X5_doneIn_X0 (by decide) (by decide +kernel) rfl dX5_doneIn_11 ?_
  rw [hC.2.1 p1.toNat 9 (by omega) (by omega)]
  refine wk_iret C hr hlk dX5_doneIn_14 ?_
  exact ⟨rfl, rfl⟩

theorem in_z_X5_flowlets_X0 : ∀ w ∈ u_ws RX0 TX0 13, w ∈ wsX5_flowlets := by decide +kernel
theorem in_z_X5_flowlets_X5 : ∀ w ∈ u_ws RX5 TX5 13, w ∈ wsX5_flowlets := by decide +kernel
set_option maxRecDepth 100000 in
set_option maxHeartbeats 4000000 in
theorem z_X5_flowlets (l : Launch) (g : am_g) (hI : am_inj (gC g)) (σ : am_M) (p1 : Int) (S : ab_S) (b : Int) (hC : ab_C S σ) (hS : ab_I S b) (hz : 0 ≤ p1 ∧ p1 < S 19 4) : Met l yX5_flowlets wsX5_flowlets ({ frames := 2, cells := 0, slots := 0, locals := 43 }) (am_P (gC g) σ [.inr (0, 0), .inl (p1)]) (am_QI (gC g) (fun r σ' => σ' = σ ∧ r = S 10 p1.toNat)) 0 0 (am_FA (gC g)) := by
  refine wk_start (cc := cX5_flowlets) (nL := 2) (ret := (some .int)) (own := RX5) (by decide) rfl hI rfl (Nat.le_of_ble_eq_true rfl) ?_
  intro p e s m below meth c C hr hlk
  change wk _ p l e _ s m _ below meth c 0 0 _ _ _ _ 0 [some (.inr (0, 0)), some (.inl (p1))] [] σ
  have hn24 := hS.2.1.2.2.2.2
  refine wk_aload_n C rfl dX5_flowlets_0 ?_
  refine wk_iload_n C rfl dX5_flowlets_1 ?_
  refine wk_ofV C (wk_runV (index := 158) (ci := 5) (st := []) C (z_X5_checkFlow l g hI _ p1 S b hC hS hz) (cwV 1 C.2.2.2.2.1 gX5_flowlets_X5_checkFlow rfl rfl rfl (by decide +kernel) ⟨Nat.le_of_ble_eq_true rfl, Nat.le_of_ble_eq_true rfl⟩) rfl (show 0 < (1:Nat) by decide) rfl rfl rfl (Nat.le_of_ble_eq_true rfl) dX5_flowlets_2 ⟨Nat.zero_le _, Nat.zero_le _⟩) (fun σ2 hp2 => ?_)
  obtain rfl := hp2
  refine wk_aload_n C rfl dX5_flowlets_5 ?_
  refine wk_getr C (k := 0) (ci := 5) (j := 0) (T := TX5) rfl (show 0 < (1:Nat) by decide) rfl in_z_X5_flowlets_X5 (by decide) (by decide +kernel) rfl dX5_flowlets_6 ?_
  refine wk_iload_n C rfl dX5_flowlets_9 ?_
  refine wk_aald C (k := 1) rfl rfl (show 0 < (1:Nat) by decide) (Nat.le_of_ble_eq_true rfl) (p1.toNat) (Int.toNat_of_nonneg hz.1).symm (show _ < (24:Nat) by omega) dX5_flowlets_10 ?_
  refine wk_getiN C (k := 9) (ci := 0) (j := 10) (T := TX0) (host := RX5) rfl (show _ < (24:Nat) by omega) rfl in_z_X5_flowlets_X0 (by decide) (by decide +kernel) rfl dX5_flowlets_11 ?_
  rw [hC.2.1 p1.toNat 10 (by omega) (by omega)]
  refine wk_iret C hr hlk dX5_flowlets_14 ?_
  exact ⟨rfl, rfl⟩

theorem in_z_X5_spineOf_X0 : ∀ w ∈ u_ws RX0 TX0 13, w ∈ wsX5_spineOf := by decide +kernel
theorem in_z_X5_spineOf_X5 : ∀ w ∈ u_ws RX5 TX5 13, w ∈ wsX5_spineOf := by decide +kernel
set_option maxRecDepth 100000 in
set_option maxHeartbeats 4000000 in
theorem z_X5_spineOf (l : Launch) (g : am_g) (hI : am_inj (gC g)) (σ : am_M) (p1 : Int) (S : ab_S) (b : Int) (hC : ab_C S σ) (hS : ab_I S b) (hz : 0 ≤ p1 ∧ p1 < S 19 4) : Met l yX5_spineOf wsX5_spineOf ({ frames := 2, cells := 0, slots := 0, locals := 43 }) (am_P (gC g) σ [.inr (0, 0), .inl (p1)]) (am_QI (gC g) (fun r σ' => σ' = σ ∧ r = S 11 p1.toNat)) 0 0 (am_FA (gC g)) := by
  refine wk_start (cc := cX5_spineOf) (nL := 2) (ret := (some .int)) (own := RX5) (by decide) rfl hI rfl (Nat.le_of_ble_eq_true rfl) ?_
  intro p e s m below meth c C hr hlk
  change wk _ p l e _ s m _ below meth c 0 0 _ _ _ _ 0 [some (.inr (0, 0)), some (.inl (p1))] [] σ
  have hn24 := hS.2.1.2.2.2.2
  refine wk_aload_n C rfl dX5_spineOf_0 ?_
  refine wk_iload_n C rfl dX5_spineOf_1 ?_
  refine wk_ofV C (wk_runV (index := 158) (ci := 5) (st := []) C (z_X5_checkFlow l g hI _ p1 S b hC hS hz) (cwV 1 C.2.2.2.2.1 gX5_spineOf_X5_checkFlow rfl rfl rfl (by decide +kernel) ⟨Nat.le_of_ble_eq_true rfl, Nat.le_of_ble_eq_true rfl⟩) rfl (show 0 < (1:Nat) by decide) rfl rfl rfl (Nat.le_of_ble_eq_true rfl) dX5_spineOf_2 ⟨Nat.zero_le _, Nat.zero_le _⟩) (fun σ2 hp2 => ?_)
  obtain rfl := hp2
  refine wk_aload_n C rfl dX5_spineOf_5 ?_
  refine wk_getr C (k := 0) (ci := 5) (j := 0) (T := TX5) rfl (show 0 < (1:Nat) by decide) rfl in_z_X5_spineOf_X5 (by decide) (by decide +kernel) rfl dX5_spineOf_6 ?_
  refine wk_iload_n C rfl dX5_spineOf_9 ?_
  refine wk_aald C (k := 1) rfl rfl (show 0 < (1:Nat) by decide) (Nat.le_of_ble_eq_true rfl) (p1.toNat) (Int.toNat_of_nonneg hz.1).symm (show _ < (24:Nat) by omega) dX5_spineOf_10 ?_
  refine wk_getiN C (k := 9) (ci := 0) (j := 11) (T := TX0) (host := RX5) rfl (show _ < (24:Nat) by omega) rfl in_z_X5_spineOf_X0 (by decide) (by decide +kernel) rfl dX5_spineOf_11 ?_
  rw [hC.2.1 p1.toNat 11 (by omega) (by omega)]
  refine wk_iret C hr hlk dX5_spineOf_14 ?_
  exact ⟨rfl, rfl⟩

theorem in_z_X5_upQueue_X1 : ∀ w ∈ u_ws RX1 TX1 4, w ∈ wsX5_upQueue := by decide +kernel
theorem in_z_X5_upQueue_X2 : ∀ w ∈ u_ws RX2 TX2 7, w ∈ wsX5_upQueue := by decide +kernel
theorem in_z_X5_upQueue_X5 : ∀ w ∈ u_ws RX5 TX5 13, w ∈ wsX5_upQueue := by decide +kernel
set_option maxRecDepth 100000 in
set_option maxHeartbeats 4000000 in
theorem z_X5_upQueue (l : Launch) (g : am_g) (hI : am_inj (gC g)) (σ : am_M) (p1 : Int) (S : ab_S) (b : Int) (hC : ab_C S σ) (hS : ab_I S b) (hz : 0 ≤ p1 ∧ p1 < 16) : Met l yX5_upQueue wsX5_upQueue ({ frames := 2, cells := 0, slots := 0, locals := 42 }) (am_P (gC g) σ [.inr (0, 0), .inl (p1)]) (am_QI (gC g) (fun r σ' => σ' = σ ∧ r = S 14 (p1.toNat))) 0 0 (am_FA (gC g)) := by
  refine wk_start (cc := cX5_upQueue) (nL := 2) (ret := (some .int)) (own := RX5) (by decide) rfl hI rfl (Nat.le_of_ble_eq_true rfl) ?_
  intro p e s m below meth c C hr hlk
  change wk _ p l e _ s m _ below meth c 0 0 _ _ _ _ 0 [some (.inr (0, 0)), some (.inl (p1))] [] σ
  refine wk_iload_n C rfl dX5_upQueue_0 ?_
  refine wk_ofV C (wk_runS (index := 114) (st := []) C (z_X5_checkHost l g hI _ p1 hz) (cwS 1 C.2.2.2.2.1 gX5_upQueue_X5_checkHost rfl rfl rfl (by decide +kernel) ⟨Nat.le_of_ble_eq_true rfl, Nat.le_of_ble_eq_true rfl⟩) rfl rfl (Nat.le_of_ble_eq_true rfl) dX5_upQueue_1 ⟨Nat.zero_le _, Nat.zero_le _⟩) (fun σ1 hpc => ?_)
  obtain rfl := hpc
  obtain ⟨h, rfl⟩ : ∃ h : Nat, p1 = (h : Int) := ⟨p1.toNat, (Int.toNat_of_nonneg hz.1).symm⟩
  refine wk_aload_n C rfl dX5_upQueue_4 ?_
  refine wk_getr C (k := 0) (ci := 5) (j := 1) (T := TX5) rfl (show 0 < (1:Nat) by decide) rfl in_z_X5_upQueue_X5 (by decide) (by decide +kernel) rfl dX5_upQueue_5 ?_
  refine wk_iload_n C rfl dX5_upQueue_8 ?_
  refine wk_aald C (k := 2) rfl rfl (show 0 < (1:Nat) by decide) (Nat.le_of_ble_eq_true rfl) (h) rfl (show _ < (16:Nat) by omega) dX5_upQueue_9 ?_
  refine wk_getrN C (k := 10) (ci := 1) (j := 0) (T := TX1) (host := RX5) rfl (show _ < (16:Nat) by omega) rfl in_z_X5_upQueue_X1 (by decide) (by decide +kernel) rfl dX5_upQueue_10 ?_
  refine wk_getiN C (k := 11) (ci := 2) (j := 3) (T := TX2) (host := RX5) rfl (show _ < (64:Nat) by omega) rfl in_z_X5_upQueue_X2 (by decide) (by decide +kernel) rfl dX5_upQueue_13 ?_
  rw [(hC.2.2.2.1 h (by omega)).1]
  refine wk_iret C hr hlk dX5_upQueue_16 ?_
  exact ⟨rfl, by rw [Int.toNat_natCast]⟩

theorem in_z_X5_downQueue_X1 : ∀ w ∈ u_ws RX1 TX1 4, w ∈ wsX5_downQueue := by decide +kernel
theorem in_z_X5_downQueue_X2 : ∀ w ∈ u_ws RX2 TX2 7, w ∈ wsX5_downQueue := by decide +kernel
theorem in_z_X5_downQueue_X5 : ∀ w ∈ u_ws RX5 TX5 13, w ∈ wsX5_downQueue := by decide +kernel
set_option maxRecDepth 100000 in
set_option maxHeartbeats 4000000 in
theorem z_X5_downQueue (l : Launch) (g : am_g) (hI : am_inj (gC g)) (σ : am_M) (p1 : Int) (S : ab_S) (b : Int) (hC : ab_C S σ) (hS : ab_I S b) (hz : 0 ≤ p1 ∧ p1 < 16) : Met l yX5_downQueue wsX5_downQueue ({ frames := 2, cells := 0, slots := 0, locals := 42 }) (am_P (gC g) σ [.inr (0, 0), .inl (p1)]) (am_QI (gC g) (fun r σ' => σ' = σ ∧ r = S 14 (16 + p1.toNat))) 0 0 (am_FA (gC g)) := by
  refine wk_start (cc := cX5_downQueue) (nL := 2) (ret := (some .int)) (own := RX5) (by decide) rfl hI rfl (Nat.le_of_ble_eq_true rfl) ?_
  intro p e s m below meth c C hr hlk
  change wk _ p l e _ s m _ below meth c 0 0 _ _ _ _ 0 [some (.inr (0, 0)), some (.inl (p1))] [] σ
  refine wk_iload_n C rfl dX5_downQueue_0 ?_
  refine wk_ofV C (wk_runS (index := 114) (st := []) C (z_X5_checkHost l g hI _ p1 hz) (cwS 1 C.2.2.2.2.1 gX5_downQueue_X5_checkHost rfl rfl rfl (by decide +kernel) ⟨Nat.le_of_ble_eq_true rfl, Nat.le_of_ble_eq_true rfl⟩) rfl rfl (Nat.le_of_ble_eq_true rfl) dX5_downQueue_1 ⟨Nat.zero_le _, Nat.zero_le _⟩) (fun σ1 hpc => ?_)
  obtain rfl := hpc
  obtain ⟨h, rfl⟩ : ∃ h : Nat, p1 = (h : Int) := ⟨p1.toNat, (Int.toNat_of_nonneg hz.1).symm⟩
  refine wk_aload_n C rfl dX5_downQueue_4 ?_
  refine wk_getr C (k := 0) (ci := 5) (j := 1) (T := TX5) rfl (show 0 < (1:Nat) by decide) rfl in_z_X5_downQueue_X5 (by decide) (by decide +kernel) rfl dX5_downQueue_5 ?_
  refine wk_iload_n C rfl dX5_downQueue_8 ?_
  refine wk_aald C (k := 2) rfl rfl (show 0 < (1:Nat) by decide) (Nat.le_of_ble_eq_true rfl) (h) rfl (show _ < (16:Nat) by omega) dX5_downQueue_9 ?_
  refine wk_getrN C (k := 10) (ci := 1) (j := 1) (T := TX1) (host := RX5) rfl (show _ < (16:Nat) by omega) rfl in_z_X5_downQueue_X1 (by decide) (by decide +kernel) rfl dX5_downQueue_10 ?_
  refine wk_getiN C (k := 11) (ci := 2) (j := 3) (T := TX2) (host := RX5) rfl (show _ < (64:Nat) by omega) rfl in_z_X5_downQueue_X2 (by decide) (by decide +kernel) rfl dX5_downQueue_13 ?_
  rw [(hC.2.2.2.1 (16 + h) (by omega)).1]
  refine wk_iret C hr hlk dX5_downQueue_16 ?_
  exact ⟨rfl, by rw [Int.toNat_natCast]⟩

theorem in_z_X5_upCredits_X1 : ∀ w ∈ u_ws RX1 TX1 4, w ∈ wsX5_upCredits := by decide +kernel
theorem in_z_X5_upCredits_X2 : ∀ w ∈ u_ws RX2 TX2 7, w ∈ wsX5_upCredits := by decide +kernel
theorem in_z_X5_upCredits_X5 : ∀ w ∈ u_ws RX5 TX5 13, w ∈ wsX5_upCredits := by decide +kernel
set_option maxRecDepth 100000 in
set_option maxHeartbeats 4000000 in
theorem z_X5_upCredits (l : Launch) (g : am_g) (hI : am_inj (gC g)) (σ : am_M) (p1 : Int) (S : ab_S) (b : Int) (hC : ab_C S σ) (hS : ab_I S b) (hz : 0 ≤ p1 ∧ p1 < 16) : Met l yX5_upCredits wsX5_upCredits ({ frames := 2, cells := 0, slots := 0, locals := 42 }) (am_P (gC g) σ [.inr (0, 0), .inl (p1)]) (am_QI (gC g) (fun r σ' => σ' = σ ∧ r = S 13 (p1.toNat))) 0 0 (am_FA (gC g)) := by
  refine wk_start (cc := cX5_upCredits) (nL := 2) (ret := (some .int)) (own := RX5) (by decide) rfl hI rfl (Nat.le_of_ble_eq_true rfl) ?_
  intro p e s m below meth c C hr hlk
  change wk _ p l e _ s m _ below meth c 0 0 _ _ _ _ 0 [some (.inr (0, 0)), some (.inl (p1))] [] σ
  refine wk_iload_n C rfl dX5_upCredits_0 ?_
  refine wk_ofV C (wk_runS (index := 114) (st := []) C (z_X5_checkHost l g hI _ p1 hz) (cwS 1 C.2.2.2.2.1 gX5_upCredits_X5_checkHost rfl rfl rfl (by decide +kernel) ⟨Nat.le_of_ble_eq_true rfl, Nat.le_of_ble_eq_true rfl⟩) rfl rfl (Nat.le_of_ble_eq_true rfl) dX5_upCredits_1 ⟨Nat.zero_le _, Nat.zero_le _⟩) (fun σ1 hpc => ?_)
  obtain rfl := hpc
  obtain ⟨h, rfl⟩ : ∃ h : Nat, p1 = (h : Int) := ⟨p1.toNat, (Int.toNat_of_nonneg hz.1).symm⟩
  refine wk_aload_n C rfl dX5_upCredits_4 ?_
  refine wk_getr C (k := 0) (ci := 5) (j := 1) (T := TX5) rfl (show 0 < (1:Nat) by decide) rfl in_z_X5_upCredits_X5 (by decide) (by decide +kernel) rfl dX5_upCredits_5 ?_
  refine wk_iload_n C rfl dX5_upCredits_8 ?_
  refine wk_aald C (k := 2) rfl rfl (show 0 < (1:Nat) by decide) (Nat.le_of_ble_eq_true rfl) (h) rfl (show _ < (16:Nat) by omega) dX5_upCredits_9 ?_
  refine wk_getrN C (k := 10) (ci := 1) (j := 0) (T := TX1) (host := RX5) rfl (show _ < (16:Nat) by omega) rfl in_z_X5_upCredits_X1 (by decide) (by decide +kernel) rfl dX5_upCredits_10 ?_
  refine wk_getiN C (k := 11) (ci := 2) (j := 4) (T := TX2) (host := RX5) rfl (show _ < (64:Nat) by omega) rfl in_z_X5_upCredits_X2 (by decide) (by decide +kernel) rfl dX5_upCredits_13 ?_
  rw [(hC.2.2.2.1 h (by omega)).2.1]
  refine wk_iret C hr hlk dX5_upCredits_16 ?_
  exact ⟨rfl, by rw [Int.toNat_natCast]⟩

theorem in_z_X5_open_X1 : ∀ w ∈ u_ws RX1 TX1 4, w ∈ wsX5_open := by decide +kernel
theorem in_z_X5_open_X5 : ∀ w ∈ u_ws RX5 TX5 13, w ∈ wsX5_open := by decide +kernel
set_option maxRecDepth 100000 in
set_option maxHeartbeats 4000000 in
theorem z_X5_open (l : Launch) (g : am_g) (hI : am_inj (gC g)) (σ : am_M) (p1 : Int) (S : ab_S) (b : Int) (hC : ab_C S σ) (hS : ab_I S b) (hz : 0 ≤ p1 ∧ p1 < 16) : Met l yX5_open wsX5_open ({ frames := 2, cells := 0, slots := 0, locals := 42 }) (am_P (gC g) σ [.inr (0, 0), .inl (p1)]) (am_QI (gC g) (fun r σ' => σ' = σ ∧ r = S 16 p1.toNat)) 0 0 (am_FA (gC g)) := by
  refine wk_start (cc := cX5_open) (nL := 2) (ret := (some .int)) (own := RX5) (by decide) rfl hI rfl (Nat.le_of_ble_eq_true rfl) ?_
  intro p e s m below meth c C hr hlk
  change wk _ p l e _ s m _ below meth c 0 0 _ _ _ _ 0 [some (.inr (0, 0)), some (.inl (p1))] [] σ
  refine wk_iload_n C rfl dX5_open_0 ?_
  refine wk_ofV C (wk_runS (index := 114) (st := []) C (z_X5_checkHost l g hI _ p1 hz) (cwS 1 C.2.2.2.2.1 gX5_open_X5_checkHost rfl rfl rfl (by decide +kernel) ⟨Nat.le_of_ble_eq_true rfl, Nat.le_of_ble_eq_true rfl⟩) rfl rfl (Nat.le_of_ble_eq_true rfl) dX5_open_1 ⟨Nat.zero_le _, Nat.zero_le _⟩) (fun σ1 hpc => ?_)
  obtain rfl := hpc
  obtain ⟨h, rfl⟩ : ∃ h : Nat, p1 = (h : Int) := ⟨p1.toNat, (Int.toNat_of_nonneg hz.1).symm⟩
  refine wk_aload_n C rfl dX5_open_4 ?_
  refine wk_getr C (k := 0) (ci := 5) (j := 1) (T := TX5) rfl (show 0 < (1:Nat) by decide) rfl in_z_X5_open_X5 (by decide) (by decide +kernel) rfl dX5_open_5 ?_
  refine wk_iload_n C rfl dX5_open_8 ?_
  refine wk_aald C (k := 2) rfl rfl (show 0 < (1:Nat) by decide) (Nat.le_of_ble_eq_true rfl) (h) rfl (show _ < (16:Nat) by omega) dX5_open_9 ?_
  refine wk_getiN C (k := 10) (ci := 1) (j := 2) (T := TX1) (host := RX5) rfl (show _ < (16:Nat) by omega) rfl in_z_X5_open_X1 (by decide) (by decide +kernel) rfl dX5_open_10 ?_
  rw [(hC.2.2.1 h (by omega)).1]
  refine wk_iret C hr hlk dX5_open_13 ?_
  exact ⟨rfl, by rw [Int.toNat_natCast]⟩

theorem in_z_X5_northQueue_X2 : ∀ w ∈ u_ws RX2 TX2 7, w ∈ wsX5_northQueue := by decide +kernel
set_option maxRecDepth 100000 in
set_option maxHeartbeats 4000000 in
theorem z_X5_northQueue (l : Launch) (g : am_g) (hI : am_inj (gC g)) (σ : am_M) (p1 p2 : Int) (S : ab_S) (b : Int) (hC : ab_C S σ) (hS : ab_I S b) (hz : (0 ≤ p1 ∧ p1 < 4) ∧ (0 ≤ p2 ∧ p2 < 4)) : Met l yX5_northQueue wsX5_northQueue ({ frames := 2, cells := 0, slots := 0, locals := 43 }) (am_P (gC g) σ [.inr (0, 0), .inl (p1), .inl (p2)]) (am_QI (gC g) (fun r σ' => σ' = σ ∧ r = S 14 (32 + 4 * p1.toNat + p2.toNat))) 0 0 (am_FA (gC g)) := by
  refine wk_start (cc := cX5_northQueue) (nL := 3) (ret := (some .int)) (own := RX5) (by decide) rfl hI rfl (Nat.le_of_ble_eq_true rfl) ?_
  intro p e s m below meth c C hr hlk
  change wk _ p l e _ s m _ below meth c 0 0 _ _ _ _ 0 [some (.inr (0, 0)), some (.inl (p1)), some (.inl (p2))] [] σ
  refine wk_iload_n C rfl dX5_northQueue_0 ?_
  refine wk_iload_n C rfl dX5_northQueue_1 ?_
  refine wk_ofV C (wk_runS (index := 129) (st := []) C (z_X5_checkConnection l g hI _ p1 p2 hz) (cwS 2 C.2.2.2.2.1 gX5_northQueue_X5_checkConnection rfl rfl rfl (by decide +kernel) ⟨Nat.le_of_ble_eq_true rfl, Nat.le_of_ble_eq_true rfl⟩) rfl rfl (Nat.le_of_ble_eq_true rfl) dX5_northQueue_2 ⟨Nat.zero_le _, Nat.zero_le _⟩) (fun σ1 hpc => ?_)
  obtain rfl := hpc
  obtain ⟨a, rfl⟩ : ∃ a : Nat, p1 = (a : Int) := ⟨p1.toNat, (Int.toNat_of_nonneg hz.1.1).symm⟩
  obtain ⟨c2, rfl⟩ : ∃ c2 : Nat, p2 = (c2 : Int) := ⟨p2.toNat, (Int.toNat_of_nonneg hz.2.1).symm⟩
  refine wk_aload_n C rfl dX5_northQueue_5 ?_
  refine wk_iload_n C rfl dX5_northQueue_6 ?_
  refine wk_iload_n C rfl dX5_northQueue_7 ?_
  refine wk_ofR C (wk_runV (index := 80) (ci := 5) (st := []) C (c_X5_northOf l g hI _ a c2 (by omega) (by omega)) (cwV 2 C.2.2.2.2.1 gX5_northQueue_X5_northOf rfl rfl rfl (by decide +kernel) ⟨Nat.le_of_ble_eq_true rfl, Nat.le_of_ble_eq_true rfl⟩) rfl (show 0 < (1:Nat) by decide) rfl rfl rfl (Nat.le_of_ble_eq_true rfl) dX5_northQueue_8 ⟨Nat.zero_le _, Nat.zero_le _⟩) (fun r8 σ8 hp8 => ?_)
  obtain ⟨hsg8, rfl⟩ := hp8
  rw [hsg8]
  refine wk_getiN C (k := 11) (ci := 2) (j := 3) (T := TX2) (host := RX5) rfl (show _ < (64:Nat) by omega) rfl in_z_X5_northQueue_X2 (by decide) (by decide +kernel) rfl dX5_northQueue_11 ?_
  rw [(hC.2.2.2.1 (32 + 4 * a + c2) (by omega)).1]
  refine wk_iret C hr hlk dX5_northQueue_14 ?_
  exact ⟨rfl, by rw [Int.toNat_natCast, Int.toNat_natCast]⟩

theorem in_z_X5_southQueue_X2 : ∀ w ∈ u_ws RX2 TX2 7, w ∈ wsX5_southQueue := by decide +kernel
set_option maxRecDepth 100000 in
set_option maxHeartbeats 4000000 in
theorem z_X5_southQueue (l : Launch) (g : am_g) (hI : am_inj (gC g)) (σ : am_M) (p1 p2 : Int) (S : ab_S) (b : Int) (hC : ab_C S σ) (hS : ab_I S b) (hz : (0 ≤ p1 ∧ p1 < 4) ∧ (0 ≤ p2 ∧ p2 < 4)) : Met l yX5_southQueue wsX5_southQueue ({ frames := 2, cells := 0, slots := 0, locals := 43 }) (am_P (gC g) σ [.inr (0, 0), .inl (p1), .inl (p2)]) (am_QI (gC g) (fun r σ' => σ' = σ ∧ r = S 14 (48 + 4 * p1.toNat + p2.toNat))) 0 0 (am_FA (gC g)) := by
  refine wk_start (cc := cX5_southQueue) (nL := 3) (ret := (some .int)) (own := RX5) (by decide) rfl hI rfl (Nat.le_of_ble_eq_true rfl) ?_
  intro p e s m below meth c C hr hlk
  change wk _ p l e _ s m _ below meth c 0 0 _ _ _ _ 0 [some (.inr (0, 0)), some (.inl (p1)), some (.inl (p2))] [] σ
  refine wk_iload_n C rfl dX5_southQueue_0 ?_
  refine wk_iload_n C rfl dX5_southQueue_1 ?_
  refine wk_ofV C (wk_runS (index := 129) (st := []) C (z_X5_checkConnection l g hI _ p2 p1 ⟨hz.2, hz.1⟩) (cwS 2 C.2.2.2.2.1 gX5_southQueue_X5_checkConnection rfl rfl rfl (by decide +kernel) ⟨Nat.le_of_ble_eq_true rfl, Nat.le_of_ble_eq_true rfl⟩) rfl rfl (Nat.le_of_ble_eq_true rfl) dX5_southQueue_2 ⟨Nat.zero_le _, Nat.zero_le _⟩) (fun σ1 hpc => ?_)
  obtain rfl := hpc
  obtain ⟨a, rfl⟩ : ∃ a : Nat, p1 = (a : Int) := ⟨p1.toNat, (Int.toNat_of_nonneg hz.1.1).symm⟩
  obtain ⟨c2, rfl⟩ : ∃ c2 : Nat, p2 = (c2 : Int) := ⟨p2.toNat, (Int.toNat_of_nonneg hz.2.1).symm⟩
  refine wk_aload_n C rfl dX5_southQueue_5 ?_
  refine wk_iload_n C rfl dX5_southQueue_6 ?_
  refine wk_iload_n C rfl dX5_southQueue_7 ?_
  refine wk_ofR C (wk_runV (index := 76) (ci := 5) (st := []) C (c_X5_southOf l g hI _ a c2 (by omega) (by omega)) (cwV 2 C.2.2.2.2.1 gX5_southQueue_X5_southOf rfl rfl rfl (by decide +kernel) ⟨Nat.le_of_ble_eq_true rfl, Nat.le_of_ble_eq_true rfl⟩) rfl (show 0 < (1:Nat) by decide) rfl rfl rfl (Nat.le_of_ble_eq_true rfl) dX5_southQueue_8 ⟨Nat.zero_le _, Nat.zero_le _⟩) (fun r8 σ8 hp8 => ?_)
  obtain ⟨hsg8, rfl⟩ := hp8
  rw [hsg8]
  refine wk_getiN C (k := 11) (ci := 2) (j := 3) (T := TX2) (host := RX5) rfl (show _ < (64:Nat) by omega) rfl in_z_X5_southQueue_X2 (by decide) (by decide +kernel) rfl dX5_southQueue_11 ?_
  rw [(hC.2.2.2.1 (48 + 4 * a + c2) (by omega)).1]
  refine wk_iret C hr hlk dX5_southQueue_14 ?_
  exact ⟨rfl, by rw [Int.toNat_natCast, Int.toNat_natCast]⟩

theorem in_z_X5_northCredits_X2 : ∀ w ∈ u_ws RX2 TX2 7, w ∈ wsX5_northCredits := by decide +kernel
set_option maxRecDepth 100000 in
set_option maxHeartbeats 4000000 in
theorem z_X5_northCredits (l : Launch) (g : am_g) (hI : am_inj (gC g)) (σ : am_M) (p1 p2 : Int) (S : ab_S) (b : Int) (hC : ab_C S σ) (hS : ab_I S b) (hz : (0 ≤ p1 ∧ p1 < 4) ∧ (0 ≤ p2 ∧ p2 < 4)) : Met l yX5_northCredits wsX5_northCredits ({ frames := 2, cells := 0, slots := 0, locals := 43 }) (am_P (gC g) σ [.inr (0, 0), .inl (p1), .inl (p2)]) (am_QI (gC g) (fun r σ' => σ' = σ ∧ r = S 13 (32 + 4 * p1.toNat + p2.toNat))) 0 0 (am_FA (gC g)) := by
  refine wk_start (cc := cX5_northCredits) (nL := 3) (ret := (some .int)) (own := RX5) (by decide) rfl hI rfl (Nat.le_of_ble_eq_true rfl) ?_
  intro p e s m below meth c C hr hlk
  change wk _ p l e _ s m _ below meth c 0 0 _ _ _ _ 0 [some (.inr (0, 0)), some (.inl (p1)), some (.inl (p2))] [] σ
  refine wk_iload_n C rfl dX5_northCredits_0 ?_
  refine wk_iload_n C rfl dX5_northCredits_1 ?_
  refine wk_ofV C (wk_runS (index := 129) (st := []) C (z_X5_checkConnection l g hI _ p1 p2 hz) (cwS 2 C.2.2.2.2.1 gX5_northCredits_X5_checkConnection rfl rfl rfl (by decide +kernel) ⟨Nat.le_of_ble_eq_true rfl, Nat.le_of_ble_eq_true rfl⟩) rfl rfl (Nat.le_of_ble_eq_true rfl) dX5_northCredits_2 ⟨Nat.zero_le _, Nat.zero_le _⟩) (fun σ1 hpc => ?_)
  obtain rfl := hpc
  obtain ⟨a, rfl⟩ : ∃ a : Nat, p1 = (a : Int) := ⟨p1.toNat, (Int.toNat_of_nonneg hz.1.1).symm⟩
  obtain ⟨c2, rfl⟩ : ∃ c2 : Nat, p2 = (c2 : Int) := ⟨p2.toNat, (Int.toNat_of_nonneg hz.2.1).symm⟩
  refine wk_aload_n C rfl dX5_northCredits_5 ?_
  refine wk_iload_n C rfl dX5_northCredits_6 ?_
  refine wk_iload_n C rfl dX5_northCredits_7 ?_
  refine wk_ofR C (wk_runV (index := 80) (ci := 5) (st := []) C (c_X5_northOf l g hI _ a c2 (by omega) (by omega)) (cwV 2 C.2.2.2.2.1 gX5_northCredits_X5_northOf rfl rfl rfl (by decide +kernel) ⟨Nat.le_of_ble_eq_true rfl, Nat.le_of_ble_eq_true rfl⟩) rfl (show 0 < (1:Nat) by decide) rfl rfl rfl (Nat.le_of_ble_eq_true rfl) dX5_northCredits_8 ⟨Nat.zero_le _, Nat.zero_le _⟩) (fun r8 σ8 hp8 => ?_)
  obtain ⟨hsg8, rfl⟩ := hp8
  rw [hsg8]
  refine wk_getiN C (k := 11) (ci := 2) (j := 4) (T := TX2) (host := RX5) rfl (show _ < (64:Nat) by omega) rfl in_z_X5_northCredits_X2 (by decide) (by decide +kernel) rfl dX5_northCredits_11 ?_
  rw [(hC.2.2.2.1 (32 + 4 * a + c2) (by omega)).2.1]
  refine wk_iret C hr hlk dX5_northCredits_14 ?_
  exact ⟨rfl, by rw [Int.toNat_natCast, Int.toNat_natCast]⟩

set_option maxRecDepth 100000 in
set_option maxHeartbeats 4000000 in
theorem z_X5_usable (l : Launch) (g : am_g) (hI : am_inj (gC g)) (σ : am_M) (p1 p2 : Int) (S : ab_S) (b : Int) (hC : ab_C S σ) (hS : ab_I S b) (hz : (0 ≤ p1 ∧ p1 < 4) ∧ (0 ≤ p2 ∧ p2 < 4) ∧ ¬ p1 = p2) : Met l yX5_usable wsX5_usable ({ frames := 1, cells := 0, slots := 0, locals := 22 }) (am_P (gC g) σ [.inr (0, 0), .inl (p1), .inl (p2)]) (am_QI (gC g) (fun r σ' => σ' = σ ∧ r = ab_um S p1.toNat p2.toNat)) 0 0 (am_FA (gC g)) := by
  refine wk_start (cc := cX5_usable) (nL := 3) (ret := (some .int)) (own := RX5) (by decide) rfl hI rfl (Nat.le_of_ble_eq_true rfl) ?_
  intro p e s m below meth c C hr hlk
  change wk _ p l e _ s m _ below meth c 0 0 _ _ _ _ 0 [some (.inr (0, 0)), some (.inl (p1)), some (.inl (p2))] [] σ
  refine wk_iload_n C rfl dX5_usable_0 ?_
  refine wk_iconst C dX5_usable_1 ?_
  refine wk_iconst C dX5_usable_2 ?_
  refine wk_ofI C (wk_runS (index := 103) (st := []) C (c_X5_isOutside l g hI _ p1 0 3 (by omega) (by omega) (by omega)) (cwS 3 C.2.2.2.2.1 gX5_usable_X5_isOutside rfl rfl rfl (by decide +kernel) ⟨Nat.le_of_ble_eq_true rfl, Nat.le_of_ble_eq_true rfl⟩) rfl rfl (Nat.le_of_ble_eq_true rfl) dX5_usable_3 ⟨Nat.zero_le _, Nat.zero_le _⟩) (fun r3 σ3 hp3 => ?_)
  obtain ⟨hsg3, hr3⟩ := hp3
  rw [hsg3]
  have hb3 : (r3 = 1 ∧ (p1 < 0 ∨ 3 < p1)) ∨ (r3 = 0 ∧ ¬ (p1 < 0 ∨ 3 < p1)) := by
    rw [hr3]
    split
    · rename_i z; exact Or.inl ⟨rfl, z⟩
    · rename_i z; exact Or.inr ⟨rfl, z⟩
  refine wk_if_ne C 23 (by omega) (by decide) dX5_usable_6 (fun hc6 => ?_) (fun hc6 => ?_)
  · skip
    exfalso; omega
  · skip
    refine wk_iload_n C rfl dX5_usable_9 ?_
    refine wk_iconst C dX5_usable_10 ?_
    refine wk_iconst C dX5_usable_11 ?_
    refine wk_ofI C (wk_runS (index := 103) (st := []) C (c_X5_isOutside l g hI _ p2 0 3 (by omega) (by omega) (by omega)) (cwS 3 C.2.2.2.2.1 gX5_usable_X5_isOutside rfl rfl rfl (by decide +kernel) ⟨Nat.le_of_ble_eq_true rfl, Nat.le_of_ble_eq_true rfl⟩) rfl rfl (Nat.le_of_ble_eq_true rfl) dX5_usable_12 ⟨Nat.zero_le _, Nat.zero_le _⟩) (fun r12 σ12 hp12 => ?_)
    obtain ⟨hsg12, hr12⟩ := hp12
    rw [hsg12]
    have hb12 : (r12 = 1 ∧ (p2 < 0 ∨ 3 < p2)) ∨ (r12 = 0 ∧ ¬ (p2 < 0 ∨ 3 < p2)) := by
      rw [hr12]
      split
      · rename_i z; exact Or.inl ⟨rfl, z⟩
      · rename_i z; exact Or.inr ⟨rfl, z⟩
    refine wk_if_ne C 23 (by omega) (by decide) dX5_usable_15 (fun hc15 => ?_) (fun hc15 => ?_)
    · skip
      exfalso; omega
    · skip
      refine wk_iload_n C rfl dX5_usable_18 ?_
      refine wk_iload_n C rfl dX5_usable_19 ?_
      refine wk_icmp_ne C 33 (by omega) (by omega) (by decide) dX5_usable_20 (fun hc20 => ?_) (fun hc20 => ?_)
      · skip
        obtain ⟨a, rfl⟩ : ∃ a : Nat, p1 = (a : Int) := ⟨p1.toNat, by omega⟩
        obtain ⟨c2, rfl⟩ : ∃ c2 : Nat, p2 = (c2 : Int) := ⟨p2.toNat, by omega⟩
        refine wk_aload_n C rfl dX5_usable_33 ?_
        refine wk_iload_n C rfl dX5_usable_34 ?_
        refine wk_iload_n C rfl dX5_usable_35 ?_
        refine wk_ofI C (wk_runV (index := 193) (ci := 5) (st := []) C (c_X5_usableSpines l g hI _ a c2 (by omega) (by omega) S b hC hS) (cwV 2 C.2.2.2.2.1 gX5_usable_X5_usableSpines rfl rfl rfl (by decide +kernel) ⟨Nat.le_of_ble_eq_true rfl, Nat.le_of_ble_eq_true rfl⟩) rfl (show 0 < (1:Nat) by decide) rfl rfl rfl (Nat.le_of_ble_eq_true rfl) dX5_usable_36 ⟨Nat.zero_le _, Nat.zero_le _⟩) (fun r36 σ36 hp36 => ?_)
        obtain ⟨hsg36, rfl⟩ := hp36
        rw [hsg36]
        refine wk_iret C hr hlk dX5_usable_39 ?_
        exact ⟨rfl, by rw [Int.toNat_natCast, Int.toNat_natCast]⟩
      · skip
        exfalso; omega
