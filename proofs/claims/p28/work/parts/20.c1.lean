theorem in_c_X4_write_X4 : ∀ w ∈ u_ws RX4 TX4 4, w ∈ wsX4_write := by decide +kernel
set_option maxRecDepth 100000 in
set_option maxHeartbeats 4000000 in
/-- Packet.write -/
theorem c_X4_write (l : Launch) (g : am_g) (hI : am_inj (gC g)) (σ : am_M) (q : Nat) (hq : q < 256) (a b c2 d2 : Int)  : Met l yX4_write wsX4_write ({ frames := 0, cells := 0, slots := 0, locals := 0 }) (am_P (gC g) σ [.inr (14, q), .inl (a), .inl (b), .inl (c2), .inl (d2)]) (am_QV (gC g) (fun σ' => σ' = am_up (am_up (am_up (am_up σ 14 q 0 a) 14 q 1 b) 14 q 2 c2) 14 q 3 d2)) 0 0 (am_FA (gC g)) := by
  refine wk_start (cc := cX4_write) (nL := 5) (ret := none) (own := RX4) (by decide) rfl hI rfl (Nat.le_of_ble_eq_true rfl) ?_
  intro p e s m below meth c C hr hlk
  change wk _ p l e _ s m _ below meth c 0 0 _ _ _ _ 0 [some (.inr (14, q)), some (.inl (a)), some (.inl (b)), some (.inl (c2)), some (.inl (d2))] [] σ
  refine wk_aload_n C rfl dX4_write_0 ?_
  refine wk_iload_n C rfl dX4_write_1 ?_
  refine wk_put C (k := 14) (ci := 4) (j := 0) (T := TX4) rfl (show _ < (256:Nat) by omega) rfl in_c_X4_write_X4 tyX4 tyX4_ok nmX4 (by decide) (by decide +kernel) rfl rfl (by decide +kernel) dX4_write_2 ?_
  refine wk_aload_n C rfl dX4_write_5 ?_
  refine wk_iload_n C rfl dX4_write_6 ?_
  refine wk_put C (k := 14) (ci := 4) (j := 1) (T := TX4) rfl (show _ < (256:Nat) by omega) rfl in_c_X4_write_X4 tyX4 tyX4_ok nmX4 (by decide) (by decide +kernel) rfl rfl (by decide +kernel) dX4_write_7 ?_
  refine wk_aload_n C rfl dX4_write_10 ?_
  refine wk_iload_n C rfl dX4_write_11 ?_
  refine wk_put C (k := 14) (ci := 4) (j := 2) (T := TX4) rfl (show _ < (256:Nat) by omega) rfl in_c_X4_write_X4 tyX4 tyX4_ok nmX4 (by decide) (by decide +kernel) rfl rfl (by decide +kernel) dX4_write_12 ?_
  refine wk_aload_n C rfl dX4_write_15 ?_
  refine wk_iload C rfl dX4_write_16 ?_
  refine wk_put C (k := 14) (ci := 4) (j := 3) (T := TX4) rfl (show _ < (256:Nat) by omega) rfl in_c_X4_write_X4 tyX4 tyX4_ok nmX4 (by decide) (by decide +kernel) rfl rfl (by decide +kernel) dX4_write_18 ?_
  refine wk_vret C hr hlk dX4_write_21 ?_
  exact (by first | rfl | simp [am_up_app])

theorem in_c_X2_firstPacket_X2 : ∀ w ∈ u_ws RX2 TX2 7, w ∈ wsX2_firstPacket := by decide +kernel
set_option maxRecDepth 100000 in
set_option maxHeartbeats 4000000 in
/-- Link.firstPacket -/
theorem c_X2_firstPacket (l : Launch) (g : am_g) (hI : am_inj (gC g)) (σ : am_M) (L : Nat) (hL : L < 64) (h1 : 0 ≤ σ 11 L 2 ∧ σ 11 L 2 < 4) : Met l yX2_firstPacket wsX2_firstPacket ({ frames := 0, cells := 0, slots := 0, locals := 0 }) (am_P (gC g) σ [.inr (11, L)]) (am_QR (gC g) (fun r σ' => σ' = σ ∧ r = (14, 4 * L + (σ 11 L 2).toNat))) 0 0 (am_FA (gC g)) := by
  refine wk_start (cc := cX2_firstPacket) (nL := 1) (ret := (some (.object "Fabricsim$Packet"))) (own := RX2) (by decide) rfl hI rfl (Nat.le_of_ble_eq_true rfl) ?_
  intro p e s m below meth c C hr hlk
  change wk _ p l e _ s m _ below meth c 0 0 _ _ _ _ 0 [some (.inr (11, L))] [] σ
  refine wk_aload_n C rfl dX2_firstPacket_0 ?_
  refine wk_getr C (k := 11) (ci := 2) (j := 0) (T := TX2) rfl (show _ < (64:Nat) by omega) rfl in_c_X2_firstPacket_X2 (by decide) (by decide +kernel) rfl dX2_firstPacket_1 ?_
  refine wk_aload_n C rfl dX2_firstPacket_4 ?_
  refine wk_geti C (k := 11) (ci := 2) (j := 2) (T := TX2) rfl (show _ < (64:Nat) by omega) rfl in_c_X2_firstPacket_X2 (by decide) (by decide +kernel) rfl dX2_firstPacket_5 ?_
  refine wk_aald C (k := 12) rfl rfl (show _ < (64:Nat) by omega) (Nat.le_of_ble_eq_true rfl) _ (Int.toNat_of_nonneg (by omega)).symm (show _ < (4:Nat) by omega) dX2_firstPacket_8 ?_
  refine wk_aret C hr hlk dX2_firstPacket_9 ?_
  exact ⟨rfl, rfl⟩

theorem in_c_X2_drop_X2 : ∀ w ∈ u_ws RX2 TX2 7, w ∈ wsX2_drop := by decide +kernel
set_option maxRecDepth 100000 in
set_option maxHeartbeats 4000000 in
/-- Link.drop -/
theorem c_X2_drop (l : Launch) (g : am_g) (hI : am_inj (gC g)) (σ : am_M) (L : Nat) (hL : L < 64) (sl : Nat) (hs : sl < 7) (h1 : 0 ≤ σ 11 L 2 ∧ σ 11 L 2 < 4) : Met l yX2_drop wsX2_drop ({ frames := 0, cells := 0, slots := 0, locals := 0 }) (am_P (gC g) σ [.inr (11, L), .inl ((sl : Nat) : Int)]) (am_QV (gC g) (fun σ' => σ' = lk_drop σ L sl)) 0 0 (am_FA (gC g)) := by
  refine wk_start (cc := cX2_drop) (nL := 2) (ret := none) (own := RX2) (by decide) rfl hI rfl (Nat.le_of_ble_eq_true rfl) ?_
  intro p e s m below meth c C hr hlk
  change wk _ p l e _ s m _ below meth c 0 0 _ _ _ _ 0 [some (.inr (11, L)), some (.inl ((sl : Nat) : Int))] [] σ
  refine wk_aload_n C rfl dX2_drop_0 ?_
  refine wk_aload_n C rfl dX2_drop_1 ?_
  refine wk_geti C (k := 11) (ci := 2) (j := 2) (T := TX2) rfl (show _ < (64:Nat) by omega) rfl in_c_X2_drop_X2 (by decide) (by decide +kernel) rfl dX2_drop_2 ?_
  refine wk_iconst C dX2_drop_5 ?_
  refine wk_iadd C dX2_drop_6 ?_
  refine wk_iconst C dX2_drop_7 ?_
  refine wk_irem C (by omega) (by omega) dX2_drop_8 ?_
  refine wk_put C (k := 11) (ci := 2) (j := 2) (T := TX2) rfl (show _ < (64:Nat) by omega) rfl in_c_X2_drop_X2 tyX2 tyX2_ok nmX2 (by decide) (by decide +kernel) rfl rfl (by decide +kernel) dX2_drop_9 ?_
  refine wk_aload_n C rfl dX2_drop_12 ?_
  refine wk_dup C dX2_drop_13 ?_
  refine wk_geti C (k := 11) (ci := 2) (j := 3) (T := TX2) rfl (show _ < (64:Nat) by omega) rfl in_c_X2_drop_X2 (by decide) (by decide +kernel) rfl dX2_drop_14 ?_
  refine wk_iconst C dX2_drop_17 ?_
  refine wk_isub C dX2_drop_18 ?_
  refine wk_put C (k := 11) (ci := 2) (j := 3) (T := TX2) rfl (show _ < (64:Nat) by omega) rfl in_c_X2_drop_X2 tyX2 tyX2_ok nmX2 (by decide) (by decide +kernel) rfl rfl (by decide +kernel) dX2_drop_19 ?_
  refine wk_aload_n C rfl dX2_drop_22 ?_
  refine wk_getr C (k := 11) (ci := 2) (j := 1) (T := TX2) rfl (show _ < (64:Nat) by omega) rfl in_c_X2_drop_X2 (by decide) (by decide +kernel) rfl dX2_drop_23 ?_
  refine wk_iload_n C rfl dX2_drop_26 ?_
  refine wk_dup2 C dX2_drop_27 ?_
  refine wk_iald C (k := 13) rfl (show _ < (64:Nat) by omega) (Nat.le_of_ble_eq_true rfl) (sl) (by omega) (show _ < (7:Nat) by omega) dX2_drop_28 ?_
  refine wk_iconst C dX2_drop_29 ?_
  refine wk_iadd C dX2_drop_30 ?_
  refine wk_iast C (k := 13) rfl (show _ < (64:Nat) by omega) (Nat.le_of_ble_eq_true rfl) (sl) (by omega) (show _ < (7:Nat) by omega) dX2_drop_31 ?_
  refine wk_vret C hr hlk dX2_drop_32 ?_
  exact (by simp [lk_drop, am_up_app])

theorem in_c_X2_takeBack_X2 : ∀ w ∈ u_ws RX2 TX2 7, w ∈ wsX2_takeBack := by decide +kernel
set_option maxRecDepth 100000 in
set_option maxHeartbeats 4000000 in
/-- Link.takeBack -/
theorem c_X2_takeBack (l : Launch) (g : am_g) (hI : am_inj (gC g)) (σ : am_M) (L : Nat) (hL : L < 64) (sl : Nat) (hs : sl < 7)  : Met l yX2_takeBack wsX2_takeBack ({ frames := 0, cells := 0, slots := 0, locals := 0 }) (am_P (gC g) σ [.inr (11, L), .inl ((sl : Nat) : Int)]) (am_QV (gC g) (fun σ' => σ' = am_up (am_up σ 11 L 4 (σ 11 L 4 + σ 13 L sl)) 13 L sl 0)) 0 0 (am_FA (gC g)) := by
  refine wk_start (cc := cX2_takeBack) (nL := 2) (ret := none) (own := RX2) (by decide) rfl hI rfl (Nat.le_of_ble_eq_true rfl) ?_
  intro p e s m below meth c C hr hlk
  change wk _ p l e _ s m _ below meth c 0 0 _ _ _ _ 0 [some (.inr (11, L)), some (.inl ((sl : Nat) : Int))] [] σ
  refine wk_aload_n C rfl dX2_takeBack_0 ?_
  refine wk_dup C dX2_takeBack_1 ?_
  refine wk_geti C (k := 11) (ci := 2) (j := 4) (T := TX2) rfl (show _ < (64:Nat) by omega) rfl in_c_X2_takeBack_X2 (by decide) (by decide +kernel) rfl dX2_takeBack_2 ?_
  refine wk_aload_n C rfl dX2_takeBack_5 ?_
  refine wk_getr C (k := 11) (ci := 2) (j := 1) (T := TX2) rfl (show _ < (64:Nat) by omega) rfl in_c_X2_takeBack_X2 (by decide) (by decide +kernel) rfl dX2_takeBack_6 ?_
  refine wk_iload_n C rfl dX2_takeBack_9 ?_
  refine wk_iald C (k := 13) rfl (show _ < (64:Nat) by omega) (Nat.le_of_ble_eq_true rfl) (sl) (by omega) (show _ < (7:Nat) by omega) dX2_takeBack_10 ?_
  refine wk_iadd C dX2_takeBack_11 ?_
  refine wk_put C (k := 11) (ci := 2) (j := 4) (T := TX2) rfl (show _ < (64:Nat) by omega) rfl in_c_X2_takeBack_X2 tyX2 tyX2_ok nmX2 (by decide) (by decide +kernel) rfl rfl (by decide +kernel) dX2_takeBack_12 ?_
  refine wk_aload_n C rfl dX2_takeBack_15 ?_
  refine wk_getr C (k := 11) (ci := 2) (j := 1) (T := TX2) rfl (show _ < (64:Nat) by omega) rfl in_c_X2_takeBack_X2 (by decide) (by decide +kernel) rfl dX2_takeBack_16 ?_
  refine wk_iload_n C rfl dX2_takeBack_19 ?_
  refine wk_iconst C dX2_takeBack_20 ?_
  refine wk_iast C (k := 13) rfl (show _ < (64:Nat) by omega) (Nat.le_of_ble_eq_true rfl) (sl) (by omega) (show _ < (7:Nat) by omega) dX2_takeBack_21 ?_
  refine wk_vret C hr hlk dX2_takeBack_22 ?_
  exact (by first | rfl | simp [am_up_app])

theorem in_c_X2_put_X2 : ∀ w ∈ u_ws RX2 TX2 7, w ∈ wsX2_put := by decide +kernel
set_option maxRecDepth 100000 in
set_option maxHeartbeats 4000000 in
/-- Link.put -/
theorem c_X2_put (l : Launch) (g : am_g) (hI : am_inj (gC g)) (σ : am_M) (L : Nat) (hL : L < 64) (a b c2 d2 : Int) (h1 : 0 ≤ σ 11 L 2 ∧ σ 11 L 2 < 4) (h2 : 0 ≤ σ 11 L 3 ∧ σ 11 L 3 ≤ 4) : Met l yX2_put wsX2_put ({ frames := 1, cells := 0, slots := 0, locals := 24 }) (am_P (gC g) σ [.inr (11, L), .inl (a), .inl (b), .inl (c2), .inl (d2)]) (am_QV (gC g) (fun σ' => σ' = lk_put σ L a b c2 d2)) 0 0 (am_FA (gC g)) := by
  refine wk_start (cc := cX2_put) (nL := 5) (ret := none) (own := RX2) (by decide) rfl hI rfl (Nat.le_of_ble_eq_true rfl) ?_
  intro p e s m below meth c C hr hlk
  change wk _ p l e _ s m _ below meth c 0 0 _ _ _ _ 0 [some (.inr (11, L)), some (.inl (a)), some (.inl (b)), some (.inl (c2)), some (.inl (d2))] [] σ
  refine wk_aload_n C rfl dX2_put_0 ?_
  refine wk_dup C dX2_put_1 ?_
  refine wk_geti C (k := 11) (ci := 2) (j := 4) (T := TX2) rfl (show _ < (64:Nat) by omega) rfl in_c_X2_put_X2 (by decide) (by decide +kernel) rfl dX2_put_2 ?_
  refine wk_iconst C dX2_put_5 ?_
  refine wk_isub C dX2_put_6 ?_
  refine wk_put C (k := 11) (ci := 2) (j := 4) (T := TX2) rfl (show _ < (64:Nat) by omega) rfl in_c_X2_put_X2 tyX2 tyX2_ok nmX2 (by decide) (by decide +kernel) rfl rfl (by decide +kernel) dX2_put_7 ?_
  refine wk_aload_n C rfl dX2_put_10 ?_
  refine wk_getr C (k := 11) (ci := 2) (j := 0) (T := TX2) rfl (show _ < (64:Nat) by omega) rfl in_c_X2_put_X2 (by decide) (by decide +kernel) rfl dX2_put_11 ?_
  refine wk_aload_n C rfl dX2_put_14 ?_
  refine wk_geti C (k := 11) (ci := 2) (j := 2) (T := TX2) rfl (show _ < (64:Nat) by omega) rfl in_c_X2_put_X2 (by decide) (by decide +kernel) rfl dX2_put_15 ?_
  refine wk_aload_n C rfl dX2_put_18 ?_
  refine wk_geti C (k := 11) (ci := 2) (j := 3) (T := TX2) rfl (show _ < (64:Nat) by omega) rfl in_c_X2_put_X2 (by decide) (by decide +kernel) rfl dX2_put_19 ?_
  refine wk_iadd C dX2_put_22 ?_
  refine wk_iconst C dX2_put_23 ?_
  simp only [am_up_app]
  simp only [show ¬((2:Nat) = 4) by decide, show ¬((3:Nat) = 4) by decide, and_false, if_false]
  refine wk_irem C (by omega) (by omega) dX2_put_24 ?_
  refine wk_aald C (k := 12) rfl rfl (show _ < (64:Nat) by omega) (Nat.le_of_ble_eq_true rfl) _ (Int.toNat_of_nonneg (by omega)).symm (show _ < (4:Nat) by omega) dX2_put_25 ?_
  refine wk_iload_n C rfl dX2_put_26 ?_
  refine wk_iload_n C rfl dX2_put_27 ?_
  refine wk_iload_n C rfl dX2_put_28 ?_
  refine wk_iload C rfl dX2_put_29 ?_
  refine wk_ofV C (wk_runN (host := RX5) (index := 38) (ci := 4) (st := []) C (c_X4_write l g hI _ (4 * L + ((σ 11 L 2 + σ 11 L 3) % 4).toNat) (by omega) a b c2 d2) ⟨va_cnB 4 C.2.2.2.2.1 gX2_put_X4_write_n38 rfl rfl rfl (C.2.2.2.2.2.1.2 _ (by decide +kernel)) (C.2.2.2.2.1 (.initialized RX4) (by decide +kernel)) (by decide +kernel) ⟨Nat.le_of_ble_eq_true rfl, Nat.le_of_ble_eq_true rfl⟩, C.2.2.2.2.1 (.instanceMethod yX4_write) (by decide +kernel), C.2.2.2.2.1 (.selects RX4 yX4_write yX4_write) (by decide +kernel)⟩ rfl (show _ < (256:Nat) by omega) rfl rfl rfl (Nat.le_of_ble_eq_true rfl) dX2_put_31 ⟨Nat.zero_le _, Nat.zero_le _⟩) (fun σ31 hp31 => ?_)
  subst hp31
  refine wk_aload_n C rfl dX2_put_34 ?_
  refine wk_dup C dX2_put_35 ?_
  refine wk_geti C (k := 11) (ci := 2) (j := 3) (T := TX2) rfl (show _ < (64:Nat) by omega) rfl in_c_X2_put_X2 (by decide) (by decide +kernel) rfl dX2_put_36 ?_
  refine wk_iconst C dX2_put_39 ?_
  refine wk_iadd C dX2_put_40 ?_
  refine wk_put C (k := 11) (ci := 2) (j := 3) (T := TX2) rfl (show _ < (64:Nat) by omega) rfl in_c_X2_put_X2 tyX2 tyX2_ok nmX2 (by decide) (by decide +kernel) rfl rfl (by decide +kernel) dX2_put_41 ?_
  refine wk_vret C hr hlk dX2_put_44 ?_
  exact (by simp [lk_put, am_up_app])

theorem in_c_X2_clear_X2 : ∀ w ∈ u_ws RX2 TX2 7, w ∈ wsX2_clear := by decide +kernel
set_option maxRecDepth 100000 in
set_option maxHeartbeats 4000000 in
/-- Link.clear -/
theorem c_X2_clear (l : Launch) (g : am_g) (hI : am_inj (gC g)) (σ : am_M) (L : Nat) (hL : L < 64)  : Met l yX2_clear wsX2_clear ({ frames := 0, cells := 0, slots := 0, locals := 0 }) (am_P (gC g) σ [.inr (11, L)]) (am_QV (gC g) (fun σ' => σ' = lk_clear σ L)) 0 0 (am_FA (gC g)) := by
  refine wk_start (cc := cX2_clear) (nL := 2) (ret := none) (own := RX2) (by decide) rfl hI rfl (Nat.le_of_ble_eq_true rfl) ?_
  intro p e s m below meth c C hr hlk
  change wk _ p l e _ s m _ below meth c 0 0 _ _ _ _ 0 [some (.inr (11, L)), none] [] σ
  refine wk_iconst C dX2_clear_0 ?_
  refine wk_istore_n C (by decide) (Nat.le_of_ble_eq_true rfl) dX2_clear_1 ?_
  have hl2 : ∀ (d i : Nat) (σ1 : am_M), 8 ≤ i + d → i ≤ 7 → (∀ k x j, σ1 k x j = if k = 13 ∧ x = L ∧ j < i then 0 else σ k x j) → wk (gC g) p l e (headSpec wsX2_clear ({ frames := 0, cells := 0, slots := 0, locals := 0 })).room s m ([.inr (11, L)].map (am_tv (gC g))).toArray below meth c 0 0 (MQ below (am_QV (gC g) (fun σ' => σ' = lk_clear σ L)) ([.inr (11, L)].map (am_tv (gC g))).toArray s 0 0 (am_FA (gC g))) (am_FA (gC g)) s.heap 2 2 [some (.inr (11, L)), some (.inl ((i : Nat) : Int))] [] σ1 := by
    intro d
    induction d with
    | zero => intro i σ1 h1 h2 h3; omega
    | succ d ih =>
      intro i σ1 h1 h2 h3
      refine wk_iload_n C rfl dX2_clear_2 ?_
      refine wk_aload_n C rfl dX2_clear_3 ?_
      refine wk_getr C (k := 11) (ci := 2) (j := 1) (T := TX2) rfl (show _ < (64:Nat) by omega) rfl in_c_X2_clear_X2 (by decide) (by decide +kernel) rfl dX2_clear_4 ?_
      refine wk_alenI C (k := 13) rfl rfl (show _ < (64:Nat) by omega) dX2_clear_7 ?_
      refine wk_icmp_ge C 24 (by omega) (by omega) (by decide) dX2_clear_8 (fun hc8 => ?_) (fun hc8 => ?_)
      · skip
        refine wk_aload_n C rfl dX2_clear_24 ?_
        refine wk_iconst C dX2_clear_25 ?_
        refine wk_put C (k := 11) (ci := 2) (j := 2) (T := TX2) rfl (show _ < (64:Nat) by omega) rfl in_c_X2_clear_X2 tyX2 tyX2_ok nmX2 (by decide) (by decide +kernel) rfl rfl (by decide +kernel) dX2_clear_26 ?_
        refine wk_aload_n C rfl dX2_clear_29 ?_
        refine wk_iconst C dX2_clear_30 ?_
        refine wk_put C (k := 11) (ci := 2) (j := 3) (T := TX2) rfl (show _ < (64:Nat) by omega) rfl in_c_X2_clear_X2 tyX2 tyX2_ok nmX2 (by decide) (by decide +kernel) rfl rfl (by decide +kernel) dX2_clear_31 ?_
        refine wk_aload_n C rfl dX2_clear_34 ?_
        refine wk_iconst C dX2_clear_35 ?_
        refine wk_put C (k := 11) (ci := 2) (j := 4) (T := TX2) rfl (show _ < (64:Nat) by omega) rfl in_c_X2_clear_X2 tyX2 tyX2_ok nmX2 (by decide) (by decide +kernel) rfl rfl (by decide +kernel) dX2_clear_36 ?_
        refine wk_aload_n C rfl dX2_clear_39 ?_
        refine wk_iconst C dX2_clear_40 ?_
        refine wk_put C (k := 11) (ci := 2) (j := 5) (T := TX2) rfl (show _ < (64:Nat) by omega) rfl in_c_X2_clear_X2 tyX2 tyX2_ok nmX2 (by decide) (by decide +kernel) rfl rfl (by decide +kernel) dX2_clear_41 ?_
        refine wk_aload_n C rfl dX2_clear_44 ?_
        refine wk_iconst C dX2_clear_45 ?_
        refine wk_put C (k := 11) (ci := 2) (j := 6) (T := TX2) rfl (show _ < (64:Nat) by omega) rfl in_c_X2_clear_X2 tyX2 tyX2_ok nmX2 (by decide) (by decide +kernel) rfl rfl (by decide +kernel) dX2_clear_46 ?_
        refine wk_vret C hr hlk dX2_clear_49 ?_
        funext k x j
        simp only [am_up_app, h3, lk_clear]
        have h4 : i = 7 := by omega
        subst h4
        by_cases q1 : k = 13 ∧ x = L ∧ j < 7
        · simp [q1]
        · simp only [if_neg q1]
          by_cases q2 : k = 11 ∧ x = L
          · obtain ⟨rfl, rfl⟩ := q2
            by_cases e2 : j = 2
            · subst e2; simp
            · by_cases e3 : j = 3
              · subst e3; simp
              · by_cases e4 : j = 4
                · subst e4; simp
                · by_cases e5 : j = 5
                  · subst e5; simp
                  · simp [e2, e3, e4, e5]
          · have h6 : ∀ z, ¬ (k = 11 ∧ x = L ∧ j = z) := fun z hz => q2 ⟨hz.1, hz.2.1⟩
            simp [h6]
      · skip
        refine wk_aload_n C rfl dX2_clear_11 ?_
        refine wk_getr C (k := 11) (ci := 2) (j := 1) (T := TX2) rfl (show _ < (64:Nat) by omega) rfl in_c_X2_clear_X2 (by decide) (by decide +kernel) rfl dX2_clear_12 ?_
        refine wk_iload_n C rfl dX2_clear_15 ?_
        refine wk_iconst C dX2_clear_16 ?_
        refine wk_iast C (k := 13) rfl (show _ < (64:Nat) by omega) (Nat.le_of_ble_eq_true rfl) (i) (by omega) (show _ < (7:Nat) by omega) dX2_clear_17 ?_
        refine wk_iinc C rfl (by decide) dX2_clear_18 ?_
        refine wk_goto C 2 (by decide) dX2_clear_21 ?_
        refine ih (i + 1) _ (by omega) (by omega) (fun k x j => ?_)
        rw [am_up_app, h3]
        by_cases q1 : k = 13 ∧ x = L ∧ j = i
        · rw [if_pos q1, if_pos ⟨q1.1, q1.2.1, by omega⟩]
        · rw [if_neg q1]
          by_cases q2 : k = 13 ∧ x = L ∧ j < i
          · rw [if_pos q2, if_pos ⟨q2.1, q2.2.1, by omega⟩]
          · rw [if_neg q2, if_neg (by omega)]
  exact hl2 8 0 σ (by omega) (by omega) (fun k x j => by simp)

theorem in_c_X2_onTheWayBack_X2 : ∀ w ∈ u_ws RX2 TX2 7, w ∈ wsX2_onTheWayBack := by decide +kernel
set_option maxRecDepth 100000 in
set_option maxHeartbeats 4000000 in
/-- Link.onTheWayBack -/
theorem c_X2_onTheWayBack (l : Launch) (g : am_g) (hI : am_inj (gC g)) (σ : am_M) (L : Nat) (hL : L < 64)  : Met l yX2_onTheWayBack wsX2_onTheWayBack ({ frames := 0, cells := 0, slots := 0, locals := 0 }) (am_P (gC g) σ [.inr (11, L)]) (am_QI (gC g) (fun r σ' => σ' = σ ∧ r = am_sum (σ 13 L) 7)) 0 0 (am_FA (gC g)) := by
  refine wk_start (cc := cX2_onTheWayBack) (nL := 3) (ret := (some .int)) (own := RX2) (by decide) rfl hI rfl (Nat.le_of_ble_eq_true rfl) ?_
  intro p e s m below meth c C hr hlk
  change wk _ p l e _ s m _ below meth c 0 0 _ _ _ _ 0 [some (.inr (11, L)), none, none] [] σ
  refine wk_iconst C dX2_onTheWayBack_0 ?_
  refine wk_istore_n C (by decide) (Nat.le_of_ble_eq_true rfl) dX2_onTheWayBack_1 ?_
  refine wk_iconst C dX2_onTheWayBack_2 ?_
  refine wk_istore_n C (by decide) (Nat.le_of_ble_eq_true rfl) dX2_onTheWayBack_3 ?_
  have hl4 : ∀ (d i : Nat), 8 ≤ i + d → i ≤ 7 → wk (gC g) p l e (headSpec wsX2_onTheWayBack ({ frames := 0, cells := 0, slots := 0, locals := 0 })).room s m ([.inr (11, L)].map (am_tv (gC g))).toArray below meth c 0 0 (MQ below (am_QI (gC g) (fun r σ' => σ' = σ ∧ r = am_sum (σ 13 L) 7)) ([.inr (11, L)].map (am_tv (gC g))).toArray s 0 0 (am_FA (gC g))) (am_FA (gC g)) s.heap 3 4 [some (.inr (11, L)), some (.inl (am_sum (σ 13 L) i)), some (.inl ((i : Nat) : Int))] [] σ := by
    intro d
    induction d with
    | zero => intro i h1 h2; omega
    | succ d ih =>
      intro i h1 h2
      refine wk_iload_n C rfl dX2_onTheWayBack_4 ?_
      refine wk_aload_n C rfl dX2_onTheWayBack_5 ?_
      refine wk_getr C (k := 11) (ci := 2) (j := 1) (T := TX2) rfl (show _ < (64:Nat) by omega) rfl in_c_X2_onTheWayBack_X2 (by decide) (by decide +kernel) rfl dX2_onTheWayBack_6 ?_
      refine wk_alenI C (k := 13) rfl rfl (show _ < (64:Nat) by omega) dX2_onTheWayBack_9 ?_
      refine wk_icmp_ge C 28 (by omega) (by omega) (by decide) dX2_onTheWayBack_10 (fun hc10 => ?_) (fun hc10 => ?_)
      · skip
        refine wk_iload_n C rfl dX2_onTheWayBack_28 ?_
        refine wk_iret C hr hlk dX2_onTheWayBack_29 ?_
        have h4 : i = 7 := by omega
        subst h4
        exact ⟨rfl, rfl⟩
      · skip
        refine wk_iload_n C rfl dX2_onTheWayBack_13 ?_
        refine wk_aload_n C rfl dX2_onTheWayBack_14 ?_
        refine wk_getr C (k := 11) (ci := 2) (j := 1) (T := TX2) rfl (show _ < (64:Nat) by omega) rfl in_c_X2_onTheWayBack_X2 (by decide) (by decide +kernel) rfl dX2_onTheWayBack_15 ?_
        refine wk_iload_n C rfl dX2_onTheWayBack_18 ?_
        refine wk_iald C (k := 13) rfl (show _ < (64:Nat) by omega) (Nat.le_of_ble_eq_true rfl) (i) (by omega) (show _ < (7:Nat) by omega) dX2_onTheWayBack_19 ?_
        refine wk_iadd C dX2_onTheWayBack_20 ?_
        refine wk_istore_n C (by decide) (Nat.le_of_ble_eq_true rfl) dX2_onTheWayBack_21 ?_
        refine wk_iinc C rfl (by decide) dX2_onTheWayBack_22 ?_
        refine wk_goto C 4 (by decide) dX2_onTheWayBack_25 ?_
        exact ih (i + 1) (by omega) (by omega)
  exact hl4 8 0 (by omega) (by omega)

theorem in_c_X2_pick_X2 : ∀ w ∈ u_ws RX2 TX2 7, w ∈ wsX2_pick := by decide +kernel
set_option maxRecDepth 100000 in
set_option maxHeartbeats 4000000 in
/-- Link.pick -/
theorem c_X2_pick (l : Launch) (g : am_g) (hI : am_inj (gC g)) (σ : am_M) (L : Nat) (hL : L < 64) (w n : Nat) (hw : w < 8) (hn : n = lc_d w) (self : Int) (hself : -1000 ≤ self ∧ self ≤ 1000) (h1 : 0 ≤ σ 11 L 4 ∧ σ 11 L 4 ≤ 4) (h2 : -1 ≤ σ 11 L 5 ∧ σ 11 L 5 < 8) (h3 : ∀ j, j < n → -1000 ≤ σ 18 w j ∧ σ 18 w j ≤ 1000) : Met l yX2_pick wsX2_pick ({ frames := 0, cells := 0, slots := 0, locals := 0 }) (am_P (gC g) σ [.inr (11, L), .inr (18, w), .inl (self)]) (am_QV (gC g) (fun σ' => σ' = lk_pick σ L w n self)) 0 0 (am_FA (gC g)) := by
  refine wk_start (cc := cX2_pick) (nL := 5) (ret := none) (own := RX2) (by decide) rfl hI rfl (Nat.le_of_ble_eq_true rfl) ?_
  intro p e s m below meth c C hr hlk
  change wk _ p l e _ s m _ below meth c 0 0 _ _ _ _ 0 [some (.inr (11, L)), some (.inr (18, w)), some (.inl (self)), none, none] [] σ
  have hd : lc_d w = n := hn.symm
  have hn4 : n = 4 ∨ n = 8 := by rw [hn]; unfold lc_d; split <;> simp
  refine wk_aload_n C rfl dX2_pick_0 ?_
  refine wk_iconst C dX2_pick_1 ?_
  refine wk_put C (k := 11) (ci := 2) (j := 6) (T := TX2) rfl (show _ < (64:Nat) by omega) rfl in_c_X2_pick_X2 tyX2 tyX2_ok nmX2 (by decide) (by decide +kernel) rfl rfl (by decide +kernel) dX2_pick_2 ?_
  refine wk_aload_n C rfl dX2_pick_5 ?_
  refine wk_geti C (k := 11) (ci := 2) (j := 4) (T := TX2) rfl (show _ < (64:Nat) by omega) rfl in_c_X2_pick_X2 (by decide) (by decide +kernel) rfl dX2_pick_6 ?_
  simp only [am_up_app, show ¬((4:Nat) = 6) by decide, and_false, if_false]
  refine wk_if_ne C 13 (by omega) (by decide) dX2_pick_9 (fun hc9 => ?_) (fun hc9 => ?_)
  · skip
    refine wk_iconst C dX2_pick_13 ?_
    refine wk_istore_n C (by decide) (Nat.le_of_ble_eq_true rfl) dX2_pick_14 ?_
    have hl15 : ∀ (d i : Nat), n + 2 ≤ i + d → 1 ≤ i → i ≤ n + 1 → lk_find σ L w n self = (ab_scan (fun s => decide (σ 18 w ((σ 11 L 5 + (s : Int)) % (n : Int)).toNat = self)) i (n + 1 - i)).map (fun s : Nat => ((σ 11 L 5 + (s : Int)) % (n : Int)).toNat) → wk (gC g) p l e (headSpec wsX2_pick ({ frames := 0, cells := 0, slots := 0, locals := 0 })).room s m ([.inr (11, L), .inr (18, w), .inl (self)].map (am_tv (gC g))).toArray below meth c 0 0 (MQ below (am_QV (gC g) (fun σ' => σ' = lk_pick σ L w n self)) ([.inr (11, L), .inr (18, w), .inl (self)].map (am_tv (gC g))).toArray s 0 0 (am_FA (gC g))) (am_FA (gC g)) s.heap 5 15 [some (.inr (11, L)), some (.inr (18, w)), some (.inl (self)), some (.inl ((i : Nat) : Int)), none] [] (am_up σ 11 L 6 (-1)) := by
      intro d
      induction d with
      | zero => intro i hid hi1 hi2 hf; omega
      | succ d ih =>
        intro i hid hi1 hi2 hf
        refine wk_iload_n C rfl dX2_pick_15 ?_
        refine wk_aload_n C rfl dX2_pick_16 ?_
        refine wk_alenI C (k := 18) rfl rfl (show _ < (8:Nat) by omega) dX2_pick_17 ?_
        simp only [hd]
        refine wk_icmp_gt C 59 (by omega) (by omega) (by decide) dX2_pick_18 (fun hc18 => ?_) (fun hc18 => ?_)
        · skip
          refine wk_vret C hr hlk dX2_pick_59 ?_
          unfold lk_pick
          rw [hf, show n + 1 - i = 0 by omega]
          rfl
        · skip
          refine wk_aload_n C rfl dX2_pick_21 ?_
          refine wk_geti C (k := 11) (ci := 2) (j := 5) (T := TX2) rfl (show _ < (64:Nat) by omega) rfl in_c_X2_pick_X2 (by decide) (by decide +kernel) rfl dX2_pick_22 ?_
          simp only [am_up_app, show ¬((5:Nat) = 6) by decide, and_false, if_false]
          refine wk_iload_n C rfl dX2_pick_25 ?_
          refine wk_iadd C dX2_pick_26 ?_
          refine wk_aload_n C rfl dX2_pick_27 ?_
          refine wk_alenI C (k := 18) rfl rfl (show _ < (8:Nat) by omega) dX2_pick_28 ?_
          simp only [hd]
          refine wk_irem C (by omega) (by omega) dX2_pick_29 ?_
          have hm1 := Int.emod_nonneg (σ 11 L 5 + (i : Int)) (b := (n : Int)) (by omega)
          have hm2 := Int.emod_lt_of_pos (σ 11 L 5 + (i : Int)) (b := (n : Int)) (by omega)
          refine wk_istore C (by decide) (Nat.le_of_ble_eq_true rfl) dX2_pick_30 ?_
          refine wk_aload_n C rfl dX2_pick_32 ?_
          refine wk_iload C rfl dX2_pick_33 ?_
          refine wk_iald C (k := 18) rfl (show _ < (8:Nat) by omega) (by omega) _ (Int.toNat_of_nonneg (by omega)).symm (by omega) dX2_pick_35 ?_
          simp only [am_up_app, show ¬((18:Nat) = 11) by decide, false_and, if_false]
          refine wk_iload_n C rfl dX2_pick_36 ?_
          have hj := h3 ((σ 11 L 5 + (i : Int)) % (n : Int)).toNat (by omega)
          refine wk_icmp_ne C 53 (by omega) (by omega) (by decide) dX2_pick_37 (fun hc37 => ?_) (fun hc37 => ?_)
          · skip
            refine wk_iinc C rfl (by decide) dX2_pick_53 ?_
            refine wk_goto C 15 (by decide) dX2_pick_56 ?_
            refine wk_lw (lw := [some (.inr (11, L)), some (.inr (18, w)), some (.inl self), some (.inl (((i + 1 : Nat) : Nat) : Int)), none]) ?_ (ih (i + 1) (by omega) (by omega) (by omega) ?_)
            · intro j v hv; match j, hv with | 0, hv => exact hv | 1, hv => exact hv | 2, hv => exact hv | 3, hv => exact hv | 4, hv => cases hv | j + 5, hv => exact absurd hv (by simp)
            · rw [hf, show n + 1 - i = (n - i) + 1 by omega, ab_scan, if_neg (by simpa using hc37), show n - i = n + 1 - (i + 1) by omega]
          · skip
            refine wk_aload_n C rfl dX2_pick_40 ?_
            refine wk_iload C rfl dX2_pick_41 ?_
            refine wk_put C (k := 11) (ci := 2) (j := 5) (T := TX2) rfl (show _ < (64:Nat) by omega) rfl in_c_X2_pick_X2 tyX2 tyX2_ok nmX2 (by decide) (by decide +kernel) rfl rfl (by decide +kernel) dX2_pick_43 ?_
            refine wk_aload_n C rfl dX2_pick_46 ?_
            refine wk_iload C rfl dX2_pick_47 ?_
            refine wk_put C (k := 11) (ci := 2) (j := 6) (T := TX2) rfl (show _ < (64:Nat) by omega) rfl in_c_X2_pick_X2 tyX2 tyX2_ok nmX2 (by decide) (by decide +kernel) rfl rfl (by decide +kernel) dX2_pick_49 ?_
            refine wk_vret C hr hlk dX2_pick_52 ?_
            unfold lk_pick
            rw [hf, show n + 1 - i = (n - i) + 1 by omega, ab_scan, if_pos (by simpa using hc37)]
            show _ = am_up (am_up (am_up σ 11 L 6 (-1)) 11 L 5 ((((σ 11 L 5 + (i : Int)) % (n : Int)).toNat : Nat) : Int)) 11 L 6 ((((σ 11 L 5 + (i : Int)) % (n : Int)).toNat : Nat) : Int)
            rw [Int.toNat_of_nonneg (by omega)]
    refine hl15 (n + 1) 1 (by omega) (by omega) (by omega) ?_
    have h4 : ¬ σ 11 L 4 = 0 := hc9
    rw [lk_find, if_neg h4]
    rfl
  · skip
    refine wk_vret C hr hlk dX2_pick_12 ?_
    have h4 : σ 11 L 4 = 0 := by omega
    simp [lk_pick, lk_find, h4]
