/-! FabricsimModel: takesAlong, makes, arrives, moves, ticks -/
theorem in_c_X6_takesAlong_X6 : ∀ w ∈ u_ws RX6 TX6 36, w ∈ wsX6_takesAlong := by decide +kernel
set_option maxRecDepth 100000 in
set_option maxHeartbeats 4000000 in
/-- takesAlong -/
theorem c_X6_takesAlong (l : Launch) (g : am_g) (hI : am_inj (gR g)) (σ : am_M) (L q : Nat) (hL : L < 64) (hq : q < 64) (h41 : σ 41 0 L = ((q : Nat) : Int))  : Met l yX6_takesAlong wsX6_takesAlong ({ frames := 0, cells := 0, slots := 0, locals := 0 }) (am_P (gR g) σ [.inr (20, 0), .inl ((L : Nat) : Int)]) (am_QV (gR g) (fun σ' => σ' = rl_take σ L q)) 0 0 (am_FA (gR g)) := by
  refine wk_start (cc := cX6_takesAlong) (nL := 3) (ret := none) (own := RX6) (by decide) rfl hI rfl (Nat.le_of_ble_eq_true rfl) ?_
  intro p e s m below meth c C hr hlk
  change wk _ p l e _ s m _ below meth c 0 0 _ _ _ _ 0 [some (.inr (20, 0)), some (.inl ((L : Nat) : Int)), none] [] σ
  refine wk_iconst C dX6_takesAlong_0 ?_
  refine wk_aload_n C rfl dX6_takesAlong_1 ?_
  refine wk_getr C (k := 20) (ci := 6) (j := 21) (T := TX6) rfl (show 0 < (1:Nat) by decide) rfl in_c_X6_takesAlong_X6 (by decide) (by decide +kernel) rfl dX6_takesAlong_2 ?_
  refine wk_iload_n C rfl dX6_takesAlong_5 ?_
  refine wk_iald C (k := 41) rfl (show 0 < (1:Nat) by decide) (Nat.le_of_ble_eq_true rfl) (L) (by omega) (show _ < (64:Nat) by omega) dX6_takesAlong_6 ?_
  rw [h41]
  refine wk_imul C dX6_takesAlong_7 ?_
  refine wk_istore_n C (by decide) (Nat.le_of_ble_eq_true rfl) dX6_takesAlong_8 ?_
  refine wk_aload_n C rfl dX6_takesAlong_9 ?_
  refine wk_getr C (k := 20) (ci := 6) (j := 31) (T := TX6) rfl (show 0 < (1:Nat) by decide) rfl in_c_X6_takesAlong_X6 (by decide) (by decide +kernel) rfl dX6_takesAlong_10 ?_
  refine wk_iload_n C rfl dX6_takesAlong_13 ?_
  refine wk_aload_n C rfl dX6_takesAlong_14 ?_
  refine wk_getr C (k := 20) (ci := 6) (j := 23) (T := TX6) rfl (show 0 < (1:Nat) by decide) rfl in_c_X6_takesAlong_X6 (by decide) (by decide +kernel) rfl dX6_takesAlong_15 ?_
  refine wk_iload_n C rfl dX6_takesAlong_18 ?_
  refine wk_iald C (k := 43) rfl (show 0 < (1:Nat) by decide) (Nat.le_of_ble_eq_true rfl) ((4 * q)) (by omega) (show _ < (256:Nat) by omega) dX6_takesAlong_19 ?_
  refine wk_iast C (k := 51) rfl (show 0 < (1:Nat) by decide) (Nat.le_of_ble_eq_true rfl) (L) (by omega) (show _ < (64:Nat) by omega) dX6_takesAlong_20 ?_
  refine wk_aload_n C rfl dX6_takesAlong_21 ?_
  refine wk_getr C (k := 20) (ci := 6) (j := 32) (T := TX6) rfl (show 0 < (1:Nat) by decide) rfl in_c_X6_takesAlong_X6 (by decide) (by decide +kernel) rfl dX6_takesAlong_22 ?_
  refine wk_iload_n C rfl dX6_takesAlong_25 ?_
  refine wk_aload_n C rfl dX6_takesAlong_26 ?_
  refine wk_getr C (k := 20) (ci := 6) (j := 24) (T := TX6) rfl (show 0 < (1:Nat) by decide) rfl in_c_X6_takesAlong_X6 (by decide) (by decide +kernel) rfl dX6_takesAlong_27 ?_
  refine wk_iload_n C rfl dX6_takesAlong_30 ?_
  refine wk_iald C (k := 44) rfl (show 0 < (1:Nat) by decide) (Nat.le_of_ble_eq_true rfl) ((4 * q)) (by omega) (show _ < (256:Nat) by omega) dX6_takesAlong_31 ?_
  rw [am_up_app, if_neg (by omega)]
  refine wk_iast C (k := 52) rfl (show 0 < (1:Nat) by decide) (Nat.le_of_ble_eq_true rfl) (L) (by omega) (show _ < (64:Nat) by omega) dX6_takesAlong_32 ?_
  refine wk_aload_n C rfl dX6_takesAlong_33 ?_
  refine wk_getr C (k := 20) (ci := 6) (j := 33) (T := TX6) rfl (show 0 < (1:Nat) by decide) rfl in_c_X6_takesAlong_X6 (by decide) (by decide +kernel) rfl dX6_takesAlong_34 ?_
  refine wk_iload_n C rfl dX6_takesAlong_37 ?_
  refine wk_aload_n C rfl dX6_takesAlong_38 ?_
  refine wk_getr C (k := 20) (ci := 6) (j := 25) (T := TX6) rfl (show 0 < (1:Nat) by decide) rfl in_c_X6_takesAlong_X6 (by decide) (by decide +kernel) rfl dX6_takesAlong_39 ?_
  refine wk_iload_n C rfl dX6_takesAlong_42 ?_
  refine wk_iald C (k := 45) rfl (show 0 < (1:Nat) by decide) (Nat.le_of_ble_eq_true rfl) ((4 * q)) (by omega) (show _ < (256:Nat) by omega) dX6_takesAlong_43 ?_
  rw [am_up_app, if_neg (by omega), am_up_app, if_neg (by omega)]
  refine wk_iast C (k := 53) rfl (show 0 < (1:Nat) by decide) (Nat.le_of_ble_eq_true rfl) (L) (by omega) (show _ < (64:Nat) by omega) dX6_takesAlong_44 ?_
  refine wk_aload_n C rfl dX6_takesAlong_45 ?_
  refine wk_getr C (k := 20) (ci := 6) (j := 34) (T := TX6) rfl (show 0 < (1:Nat) by decide) rfl in_c_X6_takesAlong_X6 (by decide) (by decide +kernel) rfl dX6_takesAlong_46 ?_
  refine wk_iload_n C rfl dX6_takesAlong_49 ?_
  refine wk_aload_n C rfl dX6_takesAlong_50 ?_
  refine wk_getr C (k := 20) (ci := 6) (j := 26) (T := TX6) rfl (show 0 < (1:Nat) by decide) rfl in_c_X6_takesAlong_X6 (by decide) (by decide +kernel) rfl dX6_takesAlong_51 ?_
  refine wk_iload_n C rfl dX6_takesAlong_54 ?_
  refine wk_iald C (k := 46) rfl (show 0 < (1:Nat) by decide) (Nat.le_of_ble_eq_true rfl) ((4 * q)) (by omega) (show _ < (256:Nat) by omega) dX6_takesAlong_55 ?_
  rw [am_up_app, if_neg (by omega), am_up_app, if_neg (by omega), am_up_app, if_neg (by omega)]
  refine wk_iast C (k := 54) rfl (show 0 < (1:Nat) by decide) (Nat.le_of_ble_eq_true rfl) (L) (by omega) (show _ < (64:Nat) by omega) dX6_takesAlong_56 ?_
  refine wk_vret C hr hlk dX6_takesAlong_57 ?_
  rfl

theorem in_c_X6_arrives_X6 : ∀ w ∈ u_ws RX6 TX6 36, w ∈ wsX6_arrives := by decide +kernel
set_option maxRecDepth 100000 in
set_option maxHeartbeats 4000000 in
/-- arrives -/
theorem c_X6_arrives (l : Launch) (g : am_g) (hI : am_inj (gR g)) (σ : am_M) (L : Nat) (hL : L < 64) (hz : 0 ≤ σ 39 0 L ∧ σ 39 0 L < 4)  : Met l yX6_arrives wsX6_arrives ({ frames := 0, cells := 0, slots := 0, locals := 0 }) (am_P (gR g) σ [.inr (20, 0), .inl ((L : Nat) : Int)]) (am_QV (gR g) (fun σ' => σ' = rl_put σ L (σ 51 0 L) (σ 52 0 L) (σ 54 0 L) (σ 53 0 L))) 0 0 (am_FA (gR g)) := by
  refine wk_start (cc := cX6_arrives) (nL := 3) (ret := none) (own := RX6) (by decide) rfl hI rfl (Nat.le_of_ble_eq_true rfl) ?_
  intro p e s m below meth c C hr hlk
  change wk _ p l e _ s m _ below meth c 0 0 _ _ _ _ 0 [some (.inr (20, 0)), some (.inl ((L : Nat) : Int)), none] [] σ
  refine wk_iconst C dX6_arrives_0 ?_
  refine wk_iload_n C rfl dX6_arrives_1 ?_
  refine wk_imul C dX6_arrives_2 ?_
  refine wk_aload_n C rfl dX6_arrives_3 ?_
  refine wk_getr C (k := 20) (ci := 6) (j := 19) (T := TX6) rfl (show 0 < (1:Nat) by decide) rfl in_c_X6_arrives_X6 (by decide) (by decide +kernel) rfl dX6_arrives_4 ?_
  refine wk_iload_n C rfl dX6_arrives_7 ?_
  refine wk_iald C (k := 39) rfl (show 0 < (1:Nat) by decide) (Nat.le_of_ble_eq_true rfl) (L) (by omega) (show _ < (64:Nat) by omega) dX6_arrives_8 ?_
  refine wk_iadd C dX6_arrives_9 ?_
  rw [show (4 : Int) * ((L : Nat) : Int) + σ 39 0 L = ((4 * L + (σ 39 0 L).toNat : Nat) : Int) by omega]
  refine wk_istore_n C (by decide) (Nat.le_of_ble_eq_true rfl) dX6_arrives_10 ?_
  refine wk_aload_n C rfl dX6_arrives_11 ?_
  refine wk_getr C (k := 20) (ci := 6) (j := 23) (T := TX6) rfl (show 0 < (1:Nat) by decide) rfl in_c_X6_arrives_X6 (by decide) (by decide +kernel) rfl dX6_arrives_12 ?_
  refine wk_iload_n C rfl dX6_arrives_15 ?_
  refine wk_aload_n C rfl dX6_arrives_16 ?_
  refine wk_getr C (k := 20) (ci := 6) (j := 31) (T := TX6) rfl (show 0 < (1:Nat) by decide) rfl in_c_X6_arrives_X6 (by decide) (by decide +kernel) rfl dX6_arrives_17 ?_
  refine wk_iload_n C rfl dX6_arrives_20 ?_
  refine wk_iald C (k := 51) rfl (show 0 < (1:Nat) by decide) (Nat.le_of_ble_eq_true rfl) (L) (by omega) (show _ < (64:Nat) by omega) dX6_arrives_21 ?_
  refine wk_iast C (k := 43) rfl (show 0 < (1:Nat) by decide) (Nat.le_of_ble_eq_true rfl) ((4 * L + (σ 39 0 L).toNat)) (by omega) (show _ < (256:Nat) by omega) dX6_arrives_22 ?_
  refine wk_aload_n C rfl dX6_arrives_23 ?_
  refine wk_getr C (k := 20) (ci := 6) (j := 24) (T := TX6) rfl (show 0 < (1:Nat) by decide) rfl in_c_X6_arrives_X6 (by decide) (by decide +kernel) rfl dX6_arrives_24 ?_
  refine wk_iload_n C rfl dX6_arrives_27 ?_
  refine wk_aload_n C rfl dX6_arrives_28 ?_
  refine wk_getr C (k := 20) (ci := 6) (j := 32) (T := TX6) rfl (show 0 < (1:Nat) by decide) rfl in_c_X6_arrives_X6 (by decide) (by decide +kernel) rfl dX6_arrives_29 ?_
  refine wk_iload_n C rfl dX6_arrives_32 ?_
  refine wk_iald C (k := 52) rfl (show 0 < (1:Nat) by decide) (Nat.le_of_ble_eq_true rfl) (L) (by omega) (show _ < (64:Nat) by omega) dX6_arrives_33 ?_
  rw [am_up_app, if_neg (by omega)]
  refine wk_iast C (k := 44) rfl (show 0 < (1:Nat) by decide) (Nat.le_of_ble_eq_true rfl) ((4 * L + (σ 39 0 L).toNat)) (by omega) (show _ < (256:Nat) by omega) dX6_arrives_34 ?_
  refine wk_aload_n C rfl dX6_arrives_35 ?_
  refine wk_getr C (k := 20) (ci := 6) (j := 25) (T := TX6) rfl (show 0 < (1:Nat) by decide) rfl in_c_X6_arrives_X6 (by decide) (by decide +kernel) rfl dX6_arrives_36 ?_
  refine wk_iload_n C rfl dX6_arrives_39 ?_
  refine wk_aload_n C rfl dX6_arrives_40 ?_
  refine wk_getr C (k := 20) (ci := 6) (j := 33) (T := TX6) rfl (show 0 < (1:Nat) by decide) rfl in_c_X6_arrives_X6 (by decide) (by decide +kernel) rfl dX6_arrives_41 ?_
  refine wk_iload_n C rfl dX6_arrives_44 ?_
  refine wk_iald C (k := 53) rfl (show 0 < (1:Nat) by decide) (Nat.le_of_ble_eq_true rfl) (L) (by omega) (show _ < (64:Nat) by omega) dX6_arrives_45 ?_
  rw [am_up_app, if_neg (by omega), am_up_app, if_neg (by omega)]
  refine wk_iast C (k := 45) rfl (show 0 < (1:Nat) by decide) (Nat.le_of_ble_eq_true rfl) ((4 * L + (σ 39 0 L).toNat)) (by omega) (show _ < (256:Nat) by omega) dX6_arrives_46 ?_
  refine wk_aload_n C rfl dX6_arrives_47 ?_
  refine wk_getr C (k := 20) (ci := 6) (j := 26) (T := TX6) rfl (show 0 < (1:Nat) by decide) rfl in_c_X6_arrives_X6 (by decide) (by decide +kernel) rfl dX6_arrives_48 ?_
  refine wk_iload_n C rfl dX6_arrives_51 ?_
  refine wk_aload_n C rfl dX6_arrives_52 ?_
  refine wk_getr C (k := 20) (ci := 6) (j := 34) (T := TX6) rfl (show 0 < (1:Nat) by decide) rfl in_c_X6_arrives_X6 (by decide) (by decide +kernel) rfl dX6_arrives_53 ?_
  refine wk_iload_n C rfl dX6_arrives_56 ?_
  refine wk_iald C (k := 54) rfl (show 0 < (1:Nat) by decide) (Nat.le_of_ble_eq_true rfl) (L) (by omega) (show _ < (64:Nat) by omega) dX6_arrives_57 ?_
  rw [am_up_app, if_neg (by omega), am_up_app, if_neg (by omega), am_up_app, if_neg (by omega)]
  refine wk_iast C (k := 46) rfl (show 0 < (1:Nat) by decide) (Nat.le_of_ble_eq_true rfl) ((4 * L + (σ 39 0 L).toNat)) (by omega) (show _ < (256:Nat) by omega) dX6_arrives_58 ?_
  refine wk_aload_n C rfl dX6_arrives_59 ?_
  refine wk_getr C (k := 20) (ci := 6) (j := 19) (T := TX6) rfl (show 0 < (1:Nat) by decide) rfl in_c_X6_arrives_X6 (by decide) (by decide +kernel) rfl dX6_arrives_60 ?_
  refine wk_iload_n C rfl dX6_arrives_63 ?_
  refine wk_dup2 C dX6_arrives_64 ?_
  refine wk_iald C (k := 39) rfl (show 0 < (1:Nat) by decide) (Nat.le_of_ble_eq_true rfl) (L) (by omega) (show _ < (64:Nat) by omega) dX6_arrives_65 ?_
  rw [am_up_app, if_neg (by omega), am_up_app, if_neg (by omega), am_up_app, if_neg (by omega), am_up_app, if_neg (by omega)]
  refine wk_iconst C dX6_arrives_66 ?_
  refine wk_iadd C dX6_arrives_67 ?_
  refine wk_iast C (k := 39) rfl (show 0 < (1:Nat) by decide) (Nat.le_of_ble_eq_true rfl) (L) (by omega) (show _ < (64:Nat) by omega) dX6_arrives_68 ?_
  refine wk_vret C hr hlk dX6_arrives_69 ?_
  rfl

theorem in_c_X6_makes_X6 : ∀ w ∈ u_ws RX6 TX6 36, w ∈ wsX6_makes := by decide +kernel
set_option maxRecDepth 100000 in
set_option maxHeartbeats 4000000 in
/-- makes -/
theorem c_X6_makes (l : Launch) (g : am_g) (hI : am_inj (gR g)) (σ : am_M) (h f : Nat) (hh : h < 16) (hF : σ 49 0 h = ((f : Nat) : Int)) (S : ab_S) (b : Int) (hv : ab_Rv S σ) (hS : ab_I S b) (hf : (f : Int) < S 19 4) (hs : S 0 f = ((h : Nat) : Int)) (hfj : ∀ j, j < 13 → σ (25 + j) 0 f = S j f) (hck : σ 20 0 3 = S 19 3 ∧ σ 20 0 1 = S 19 1) : Met l yX6_makes wsX6_makes ({ frames := 2, cells := 0, slots := 0, locals := 52 }) (am_P (gR g) σ [.inr (20, 0), .inl ((h : Nat) : Int)]) (am_QV (gR g) (fun σ' => σ' = rl_make S σ h f)) 0 0 (am_FA (gR g)) := by
  refine wk_start (cc := cX6_makes) (nL := 4) (ret := none) (own := RX6) (by decide) rfl hI rfl (Nat.le_of_ble_eq_true rfl) ?_
  intro p e s m below meth c C hr hlk
  change wk _ p l e _ s m _ below meth c 0 0 _ _ _ _ 0 [some (.inr (20, 0)), some (.inl ((h : Nat) : Int)), none, none] [] σ
  have hif := hS.2.2.1 f hf
  unfold ab_If at hif
  obtain ⟨i0, i1, i2, i3, i4, i5, i6, i7, i8, i9, i10, i11, i12, i13, i14⟩ := hif
  have hn24 := hS.2.1.2.2.2.2
  have hf24 : f < 24 := by omega
  have hcf0 : σ 25 0 f = S 0 f := (hv.2 f hf).1
  have hcf1 : σ 26 0 f = S 1 f := (hv.2 f hf).2
  have hla : ((ab_la S f : Nat) : Int) = S 0 f / 4 := Int.toNat_of_nonneg (by omega)
  have hlb : ((ab_lb S f : Nat) : Int) = S 1 f / 4 := Int.toNat_of_nonneg (by omega)
  have hb1 := hS.1
  have hc19 := hS.2.1
  have q4 : σ 29 0 f = S 4 f := hfj 4 (by omega)
  have q10 : σ 35 0 f = S 10 f := hfj 10 (by omega)
  have q11 : σ 36 0 f = S 11 f := hfj 11 (by omega)
  have q12 : σ 37 0 f = S 12 f := hfj 12 (by omega)
  have n35 := rl_Na_35 q10
  have n36 := rl_Na_36 q11
  have hnf : ab_far S f = false → ab_new S f = false := fun z => by unfold ab_new; rw [z]; rfl
  refine wk_aload_n C rfl dX6_makes_0 ?_
  refine wk_getr C (k := 20) (ci := 6) (j := 29) (T := TX6) rfl (show 0 < (1:Nat) by decide) rfl in_c_X6_makes_X6 (by decide) (by decide +kernel) rfl dX6_makes_1 ?_
  refine wk_iload_n C rfl dX6_makes_4 ?_
  refine wk_iald C (k := 49) rfl (show 0 < (1:Nat) by decide) (Nat.le_of_ble_eq_true rfl) (h) (by omega) (show _ < (16:Nat) by omega) dX6_makes_5 ?_
  rw [hF]
  refine wk_istore_n C (by decide) (Nat.le_of_ble_eq_true rfl) dX6_makes_6 ?_
  have hj72 : ∀ v : Int, (v = 0 ∨ v = 1) ∧ (ab_far S f = true → v = ab_1 (ab_new S f)) → wk (gR g) p l e (headSpec wsX6_makes ({ frames := 2, cells := 0, slots := 0, locals := 52 })).room s m ([.inr (20, 0), .inl ((h : Nat) : Int)].map (am_tv (gR g))).toArray below meth c 0 0 (MQ below (am_QV (gR g) (fun σ' => σ' = rl_make S σ h f)) ([.inr (20, 0), .inl ((h : Nat) : Int)].map (am_tv (gR g))).toArray s 0 0 (am_FA (gR g))) (am_FA (gR g)) s.heap 4 72 [some (.inr (20, 0)), some (.inl ((h : Nat) : Int)), some (.inl ((f : Nat) : Int)), none] [.inl (v)] σ := by
    intro v hv5
    refine wk_istore_n C (by decide) (Nat.le_of_ble_eq_true rfl) dX6_makes_72 ?_
    have hj112 : ∀ σa : am_M, σa = rl_Na S σ f → wk (gR g) p l e (headSpec wsX6_makes ({ frames := 2, cells := 0, slots := 0, locals := 52 })).room s m ([.inr (20, 0), .inl ((h : Nat) : Int)].map (am_tv (gR g))).toArray below meth c 0 0 (MQ below (am_QV (gR g) (fun σ' => σ' = rl_make S σ h f)) ([.inr (20, 0), .inl ((h : Nat) : Int)].map (am_tv (gR g))).toArray s 0 0 (am_FA (gR g))) (am_FA (gR g)) s.heap 4 112 [some (.inr (20, 0)), some (.inl ((h : Nat) : Int)), some (.inl ((f : Nat) : Int)), none] [] σa := by
      intro σa hσa
      subst hσa
      refine wk_aload_n C rfl dX6_makes_112 ?_
      refine wk_getr C (k := 20) (ci := 6) (j := 31) (T := TX6) rfl (show 0 < (1:Nat) by decide) rfl in_c_X6_makes_X6 (by decide) (by decide +kernel) rfl dX6_makes_113 ?_
      refine wk_iload_n C rfl dX6_makes_116 ?_
      refine wk_iload_n C rfl dX6_makes_117 ?_
      refine wk_iast C (k := 51) rfl (show 0 < (1:Nat) by decide) (Nat.le_of_ble_eq_true rfl) (h) (by omega) (show _ < (64:Nat) by omega) dX6_makes_118 ?_
      refine wk_aload_n C rfl dX6_makes_119 ?_
      refine wk_getr C (k := 20) (ci := 6) (j := 32) (T := TX6) rfl (show 0 < (1:Nat) by decide) rfl in_c_X6_makes_X6 (by decide) (by decide +kernel) rfl dX6_makes_120 ?_
      refine wk_iload_n C rfl dX6_makes_123 ?_
      refine wk_aload_n C rfl dX6_makes_124 ?_
      refine wk_getr C (k := 20) (ci := 6) (j := 9) (T := TX6) rfl (show 0 < (1:Nat) by decide) rfl in_c_X6_makes_X6 (by decide) (by decide +kernel) rfl dX6_makes_125 ?_
      refine wk_iload_n C rfl dX6_makes_128 ?_
      refine wk_iald C (k := 29) rfl (show 0 < (1:Nat) by decide) (Nat.le_of_ble_eq_true rfl) (f) (by omega) (show _ < (24:Nat) by omega) dX6_makes_129 ?_
      rw [am_up_app, if_neg (by omega)]
      rw [rl_Na_o _ _ _ _ _ (by omega), q4]
      refine wk_iast C (k := 52) rfl (show 0 < (1:Nat) by decide) (Nat.le_of_ble_eq_true rfl) (h) (by omega) (show _ < (64:Nat) by omega) dX6_makes_130 ?_
      refine wk_aload_n C rfl dX6_makes_131 ?_
      refine wk_getr C (k := 20) (ci := 6) (j := 33) (T := TX6) rfl (show 0 < (1:Nat) by decide) rfl in_c_X6_makes_X6 (by decide) (by decide +kernel) rfl dX6_makes_132 ?_
      refine wk_iload_n C rfl dX6_makes_135 ?_
      refine wk_aload_n C rfl dX6_makes_136 ?_
      refine wk_getr C (k := 20) (ci := 6) (j := 16) (T := TX6) rfl (show 0 < (1:Nat) by decide) rfl in_c_X6_makes_X6 (by decide) (by decide +kernel) rfl dX6_makes_137 ?_
      refine wk_iload_n C rfl dX6_makes_140 ?_
      refine wk_iald C (k := 36) rfl (show 0 < (1:Nat) by decide) (Nat.le_of_ble_eq_true rfl) (f) (by omega) (show _ < (24:Nat) by omega) dX6_makes_141 ?_
      rw [am_up_app, if_neg (by omega), am_up_app, if_neg (by omega)]
      rw [n36]
      refine wk_iast C (k := 53) rfl (show 0 < (1:Nat) by decide) (Nat.le_of_ble_eq_true rfl) (h) (by omega) (show _ < (64:Nat) by omega) dX6_makes_142 ?_
      refine wk_aload_n C rfl dX6_makes_143 ?_
      refine wk_getr C (k := 20) (ci := 6) (j := 34) (T := TX6) rfl (show 0 < (1:Nat) by decide) rfl in_c_X6_makes_X6 (by decide) (by decide +kernel) rfl dX6_makes_144 ?_
      refine wk_iload_n C rfl dX6_makes_147 ?_
      refine wk_aload_n C rfl dX6_makes_148 ?_
      refine wk_getr C (k := 20) (ci := 6) (j := 15) (T := TX6) rfl (show 0 < (1:Nat) by decide) rfl in_c_X6_makes_X6 (by decide) (by decide +kernel) rfl dX6_makes_149 ?_
      refine wk_iload_n C rfl dX6_makes_152 ?_
      refine wk_iald C (k := 35) rfl (show 0 < (1:Nat) by decide) (Nat.le_of_ble_eq_true rfl) (f) (by omega) (show _ < (24:Nat) by omega) dX6_makes_153 ?_
      rw [am_up_app, if_neg (by omega), am_up_app, if_neg (by omega), am_up_app, if_neg (by omega)]
      rw [n35]
      refine wk_iconst C dX6_makes_154 ?_
      refine wk_isub C dX6_makes_155 ?_
      refine wk_iast C (k := 54) rfl (show 0 < (1:Nat) by decide) (Nat.le_of_ble_eq_true rfl) (h) (by omega) (show _ < (64:Nat) by omega) dX6_makes_156 ?_
      refine wk_aload_n C rfl dX6_makes_157 ?_
      refine wk_getr C (k := 20) (ci := 6) (j := 17) (T := TX6) rfl (show 0 < (1:Nat) by decide) rfl in_c_X6_makes_X6 (by decide) (by decide +kernel) rfl dX6_makes_158 ?_
      refine wk_iload_n C rfl dX6_makes_161 ?_
      refine wk_aload_n C rfl dX6_makes_162 ?_
      refine wk_geti C (k := 20) (ci := 6) (j := 3) (T := TX6) rfl (show 0 < (1:Nat) by decide) rfl in_c_X6_makes_X6 (by decide) (by decide +kernel) rfl dX6_makes_163 ?_
      rw [am_up_app, if_neg (by omega), am_up_app, if_neg (by omega), am_up_app, if_neg (by omega), am_up_app, if_neg (by omega)]
      rw [rl_Na_o _ _ _ _ _ (by omega), hck.1]
      refine wk_iast C (k := 37) rfl (show 0 < (1:Nat) by decide) (Nat.le_of_ble_eq_true rfl) (f) (by omega) (show _ < (24:Nat) by omega) dX6_makes_166 ?_
      refine wk_aload_n C rfl dX6_makes_167 ?_
      refine wk_getr C (k := 20) (ci := 6) (j := 9) (T := TX6) rfl (show 0 < (1:Nat) by decide) rfl in_c_X6_makes_X6 (by decide) (by decide +kernel) rfl dX6_makes_168 ?_
      refine wk_iload_n C rfl dX6_makes_171 ?_
      refine wk_dup2 C dX6_makes_172 ?_
      refine wk_iald C (k := 29) rfl (show 0 < (1:Nat) by decide) (Nat.le_of_ble_eq_true rfl) (f) (by omega) (show _ < (24:Nat) by omega) dX6_makes_173 ?_
      rw [am_up_app, if_neg (by omega), am_up_app, if_neg (by omega), am_up_app, if_neg (by omega), am_up_app, if_neg (by omega), am_up_app, if_neg (by omega)]
      rw [rl_Na_o _ _ _ _ _ (by omega), q4]
      refine wk_iconst C dX6_makes_174 ?_
      refine wk_iadd C dX6_makes_175 ?_
      refine wk_iast C (k := 29) rfl (show 0 < (1:Nat) by decide) (Nat.le_of_ble_eq_true rfl) (f) (by omega) (show _ < (24:Nat) by omega) dX6_makes_176 ?_
      refine wk_vret C hr hlk dX6_makes_177 ?_
      rfl
    refine wk_iload_n C rfl dX6_makes_73 ?_
    refine wk_if_eq C 112 (by omega) (by decide) dX6_makes_74 (fun hc74 => ?_) (fun hc74 => ?_)
    · skip
      have h112 : σ = rl_Na S σ f := by
        rw [rl_Na, if_neg]
        intro z
        cases hz : ab_far S f
        · rw [hnf hz] at z; cases z
        · have := hv5.2 hz
          rw [z, ab_1t] at this; omega
      refine wk_le ?_ (hj112 _ h112)
      repeat (first | exact le_0 | refine le_s ?_ | refine le_n ?_)
    · skip
      refine wk_aload_n C rfl dX6_makes_77 ?_
      refine wk_iload_n C rfl dX6_makes_78 ?_
      refine wk_ofI C (wk_runV (index := 162) (ci := 6) (st := []) C (c_X6_isFar l g hI _ f S b hv hS hf) (cwV 1 C.2.2.2.2.1 gX6_makes_X6_isFar rfl rfl rfl (by decide +kernel) ⟨Nat.le_of_ble_eq_true rfl, Nat.le_of_ble_eq_true rfl⟩) rfl (show 0 < (1:Nat) by decide) rfl rfl rfl (Nat.le_of_ble_eq_true rfl) dX6_makes_79 ⟨Nat.zero_le _, Nat.zero_le _⟩) (fun r79 σ79 hp79 => ?_)
      obtain ⟨hsg79, rfl⟩ := hp79
      rw [hsg79]
      have h1r := ab_1r (ab_far S f)
      refine wk_if_eq C 112 (by omega) (by decide) dX6_makes_82 (fun hc82 => ?_) (fun hc82 => ?_)
      · skip
        have h112 : σ = rl_Na S σ f := by
          rw [rl_Na, if_neg]
          intro z
          cases hz : ab_far S f
          · rw [hnf hz] at z; cases z
          · rw [hz, ab_1t] at hc82; omega
        refine wk_le ?_ (hj112 _ h112)
        repeat (first | exact le_0 | refine le_s ?_ | refine le_n ?_)
      · skip
        have hfar : ab_far S f = true := by
          cases hz : ab_far S f
          · rw [hz, ab_1f] at hc82; omega
          · rfl
        have hnew : ab_new S f = true := by
          have := hv5.2 hfar
          cases hz : ab_new S f
          · rw [hz, ab_1f] at this; omega
          · rfl
        have h112 : am_up (am_up σ 36 0 f (ab_chosen S f (S 10 f))) 35 0 f (S 10 f + 1) = rl_Na S σ f := by rw [rl_Na, if_pos hnew]
        refine wk_aload_n C rfl dX6_makes_85 ?_
        refine wk_getr C (k := 20) (ci := 6) (j := 16) (T := TX6) rfl (show 0 < (1:Nat) by decide) rfl in_c_X6_makes_X6 (by decide) (by decide +kernel) rfl dX6_makes_86 ?_
        refine wk_iload_n C rfl dX6_makes_89 ?_
        refine wk_aload_n C rfl dX6_makes_90 ?_
        refine wk_iload_n C rfl dX6_makes_91 ?_
        refine wk_aload_n C rfl dX6_makes_92 ?_
        refine wk_getr C (k := 20) (ci := 6) (j := 15) (T := TX6) rfl (show 0 < (1:Nat) by decide) rfl in_c_X6_makes_X6 (by decide) (by decide +kernel) rfl dX6_makes_93 ?_
        refine wk_iload_n C rfl dX6_makes_96 ?_
        refine wk_iald C (k := 35) rfl (show 0 < (1:Nat) by decide) (Nat.le_of_ble_eq_true rfl) (f) (by omega) (show _ < (24:Nat) by omega) dX6_makes_97 ?_
        rw [q10]
        refine wk_ofI C (wk_runV (index := 165) (ci := 6) (st := [_, _]) C (c_X6_chosen l g hI _ f (S 10 f) S b hv hS hf (by omega)) (cwV 2 C.2.2.2.2.1 gX6_makes_X6_chosen rfl rfl rfl (by decide +kernel) ⟨Nat.le_of_ble_eq_true rfl, Nat.le_of_ble_eq_true rfl⟩) rfl (show 0 < (1:Nat) by decide) rfl rfl rfl (Nat.le_of_ble_eq_true rfl) dX6_makes_98 ⟨Nat.zero_le _, Nat.zero_le _⟩) (fun r98 σ98 hp98 => ?_)
        obtain ⟨hsg98, rfl⟩ := hp98
        rw [hsg98]
        refine wk_iast C (k := 36) rfl (show 0 < (1:Nat) by decide) (Nat.le_of_ble_eq_true rfl) (f) (by omega) (show _ < (24:Nat) by omega) dX6_makes_101 ?_
        refine wk_aload_n C rfl dX6_makes_102 ?_
        refine wk_getr C (k := 20) (ci := 6) (j := 15) (T := TX6) rfl (show 0 < (1:Nat) by decide) rfl in_c_X6_makes_X6 (by decide) (by decide +kernel) rfl dX6_makes_103 ?_
        refine wk_iload_n C rfl dX6_makes_106 ?_
        refine wk_dup2 C dX6_makes_107 ?_
        refine wk_iald C (k := 35) rfl (show 0 < (1:Nat) by decide) (Nat.le_of_ble_eq_true rfl) (f) (by omega) (show _ < (24:Nat) by omega) dX6_makes_108 ?_
        rw [am_up_app, if_neg (by omega), q10]
        refine wk_iconst C dX6_makes_109 ?_
        refine wk_iadd C dX6_makes_110 ?_
        refine wk_iast C (k := 35) rfl (show 0 < (1:Nat) by decide) (Nat.le_of_ble_eq_true rfl) (f) (by omega) (show _ < (24:Nat) by omega) dX6_makes_111 ?_
        refine wk_le ?_ (hj112 _ h112)
        repeat (first | exact le_0 | refine le_s ?_ | refine le_n ?_)
  refine wk_aload_n C rfl dX6_makes_7 ?_
  refine wk_getr C (k := 20) (ci := 6) (j := 17) (T := TX6) rfl (show 0 < (1:Nat) by decide) rfl in_c_X6_makes_X6 (by decide) (by decide +kernel) rfl dX6_makes_8 ?_
  refine wk_iload_n C rfl dX6_makes_11 ?_
  refine wk_iald C (k := 37) rfl (show 0 < (1:Nat) by decide) (Nat.le_of_ble_eq_true rfl) (f) (by omega) (show _ < (24:Nat) by omega) dX6_makes_12 ?_
  rw [q12]
  refine wk_iconst C dX6_makes_13 ?_
  refine wk_icmp_eq C 67 (by omega) (by omega) (by decide) dX6_makes_14 (fun hc14 => ?_) (fun hc14 => ?_)
  · skip
    have hv72 : ((1 : Int) = 0 ∨ (1 : Int) = 1) ∧ (ab_far S f = true → (1 : Int) = ab_1 (ab_new S f)) := ⟨Or.inr rfl, fun hfar => by rw [(ab_new_cs S f hfar).1 ((i13 hfar).1.mp hc14)]; rfl⟩
    refine wk_iconst C dX6_makes_67 ?_
    refine wk_goto C 72 (by decide) dX6_makes_68 ?_
    exact hj72 _ hv72
  · skip
    refine wk_aload_n C rfl dX6_makes_17 ?_
    refine wk_geti C (k := 20) (ci := 6) (j := 3) (T := TX6) rfl (show 0 < (1:Nat) by decide) rfl in_c_X6_makes_X6 (by decide) (by decide +kernel) rfl dX6_makes_18 ?_
    rw [hck.1]
    refine wk_aload_n C rfl dX6_makes_21 ?_
    refine wk_getr C (k := 20) (ci := 6) (j := 17) (T := TX6) rfl (show 0 < (1:Nat) by decide) rfl in_c_X6_makes_X6 (by decide) (by decide +kernel) rfl dX6_makes_22 ?_
    refine wk_iload_n C rfl dX6_makes_25 ?_
    refine wk_iald C (k := 37) rfl (show 0 < (1:Nat) by decide) (Nat.le_of_ble_eq_true rfl) (f) (by omega) (show _ < (24:Nat) by omega) dX6_makes_26 ?_
    rw [q12]
    refine wk_isub C dX6_makes_27 ?_
    refine wk_aload_n C rfl dX6_makes_28 ?_
    refine wk_geti C (k := 20) (ci := 6) (j := 1) (T := TX6) rfl (show 0 < (1:Nat) by decide) rfl in_c_X6_makes_X6 (by decide) (by decide +kernel) rfl dX6_makes_29 ?_
    rw [hck.2]
    refine wk_icmp_gt C 67 (by omega) (by omega) (by decide) dX6_makes_32 (fun hc32 => ?_) (fun hc32 => ?_)
    · skip
      have hv72 : ((1 : Int) = 0 ∨ (1 : Int) = 1) ∧ (ab_far S f = true → (1 : Int) = ab_1 (ab_new S f)) := ⟨Or.inr rfl, fun hfar => by rw [(ab_new_cs S f hfar).2.1 hc32]; rfl⟩
      refine wk_iconst C dX6_makes_67 ?_
      refine wk_goto C 72 (by decide) dX6_makes_68 ?_
      exact hj72 _ hv72
    · skip
      refine wk_aload_n C rfl dX6_makes_35 ?_
      refine wk_iload_n C rfl dX6_makes_36 ?_
      refine wk_ofI C (wk_runV (index := 162) (ci := 6) (st := []) C (c_X6_isFar l g hI _ f S b hv hS hf) (cwV 1 C.2.2.2.2.1 gX6_makes_X6_isFar rfl rfl rfl (by decide +kernel) ⟨Nat.le_of_ble_eq_true rfl, Nat.le_of_ble_eq_true rfl⟩) rfl (show 0 < (1:Nat) by decide) rfl rfl rfl (Nat.le_of_ble_eq_true rfl) dX6_makes_37 ⟨Nat.zero_le _, Nat.zero_le _⟩) (fun r37 σ37 hp37 => ?_)
      obtain ⟨hsg37, rfl⟩ := hp37
      rw [hsg37]
      have h1r := ab_1r (ab_far S f)
      refine wk_if_eq C 71 (by omega) (by decide) dX6_makes_40 (fun hc40 => ?_) (fun hc40 => ?_)
      · skip
        have hfar0 : ab_far S f = false := by
          cases hz : ab_far S f
          · rfl
          · rw [hz, ab_1t] at hc40; omega
        have hv72 : ((0 : Int) = 0 ∨ (0 : Int) = 1) ∧ (ab_far S f = true → (0 : Int) = ab_1 (ab_new S f)) := ⟨Or.inl rfl, fun z => by rw [hfar0] at z; cases z⟩
        refine wk_iconst C dX6_makes_71 ?_
        exact hj72 _ hv72
      · skip
        have hfar : ab_far S f = true := by
          cases hz : ab_far S f
          · rw [hz, ab_1f] at hc40; omega
          · rfl
        have j13 := i13 hfar
        have h11n : S 11 f = (((S 11 f).toNat : Nat) : Int) := (Int.toNat_of_nonneg (j13.2 (by omega))).symm
        skip
        refine wk_aload_n C rfl dX6_makes_43 ?_
        refine wk_iload_n C rfl dX6_makes_44 ?_
        refine wk_iconst C dX6_makes_45 ?_
        refine wk_idiv C (by omega) (by omega) dX6_makes_46 ?_
        rw [show ((h : Nat) : Int) / 4 = ((ab_la S f : Nat) : Int) by omega]
        refine wk_aload_n C rfl dX6_makes_47 ?_
        refine wk_getr C (k := 20) (ci := 6) (j := 6) (T := TX6) rfl (show 0 < (1:Nat) by decide) rfl in_c_X6_makes_X6 (by decide) (by decide +kernel) rfl dX6_makes_48 ?_
        refine wk_iload_n C rfl dX6_makes_51 ?_
        refine wk_iald C (k := 26) rfl (show 0 < (1:Nat) by decide) (Nat.le_of_ble_eq_true rfl) (f) (by omega) (show _ < (24:Nat) by omega) dX6_makes_52 ?_
        rw [hcf1]
        refine wk_iconst C dX6_makes_53 ?_
        refine wk_idiv C (by omega) (by omega) dX6_makes_54 ?_
        rw [← hlb]
        refine wk_aload_n C rfl dX6_makes_55 ?_
        refine wk_getr C (k := 20) (ci := 6) (j := 16) (T := TX6) rfl (show 0 < (1:Nat) by decide) rfl in_c_X6_makes_X6 (by decide) (by decide +kernel) rfl dX6_makes_56 ?_
        refine wk_iload_n C rfl dX6_makes_59 ?_
        refine wk_iald C (k := 36) rfl (show 0 < (1:Nat) by decide) (Nat.le_of_ble_eq_true rfl) (f) (by omega) (show _ < (24:Nat) by omega) dX6_makes_60 ?_
        rw [q11, h11n]
        refine wk_ofI C (wk_runV (index := 145) (ci := 6) (st := []) C (c_X6_isUsable l g hI _ (ab_la S f) (ab_lb S f) (S 11 f).toNat (by omega) (by omega) (by omega) S b hv hS) (cwV 3 C.2.2.2.2.1 gX6_makes_X6_isUsable rfl rfl rfl (by decide +kernel) ⟨Nat.le_of_ble_eq_true rfl, Nat.le_of_ble_eq_true rfl⟩) rfl (show 0 < (1:Nat) by decide) rfl rfl rfl (Nat.le_of_ble_eq_true rfl) dX6_makes_61 ⟨Nat.zero_le _, Nat.zero_le _⟩) (fun r61 σ61 hp61 => ?_)
        obtain ⟨hsg61, rfl⟩ := hp61
        rw [hsg61]
        have h1u := ab_1r (ab_us S (ab_la S f) (ab_lb S f) (S 11 f).toNat)
        refine wk_if_ne C 71 (by omega) (by decide) dX6_makes_64 (fun hc64 => ?_) (fun hc64 => ?_)
        · skip
          have hv72 : ((0 : Int) = 0 ∨ (0 : Int) = 1) ∧ (ab_far S f = true → (0 : Int) = ab_1 (ab_new S f)) := ⟨Or.inl rfl, fun _ => by
            rw [(ab_new_cs S f hfar).2.2.2 (by omega) (by omega) (by
              cases hz : (ab_us S (ab_la S f) (ab_lb S f) (S 11 f).toNat)
              · rw [hz, ab_1f] at hc64; omega
              · rfl)]; rfl⟩
          refine wk_iconst C dX6_makes_71 ?_
          exact hj72 _ hv72
        · skip
          have hv72 : ((1 : Int) = 0 ∨ (1 : Int) = 1) ∧ (ab_far S f = true → (1 : Int) = ab_1 (ab_new S f)) := ⟨Or.inr rfl, fun _ => by
            rw [(ab_new_cs S f hfar).2.2.1 (by
              cases hz : (ab_us S (ab_la S f) (ab_lb S f) (S 11 f).toNat)
              · rfl
              · rw [hz, ab_1t] at hc64; omega)]; rfl⟩
          refine wk_iconst C dX6_makes_67 ?_
          refine wk_goto C 72 (by decide) dX6_makes_68 ?_
          exact hj72 _ hv72

theorem in_c_X6_moves_X6 : ∀ w ∈ u_ws RX6 TX6 36, w ∈ wsX6_moves := by decide +kernel
set_option maxRecDepth 100000 in
set_option maxHeartbeats 4000000 in
/-- moves -/
theorem c_X6_moves (l : Launch) (g : am_g) (hI : am_inj (gR g)) (σ : am_M) (S : ab_S) (b : Int) (hS : ab_I S b) (hR : ab_R (ab_HP S 16) σ) (hP : PKR S 64 σ) (hN : SNR S 16 σ) : Met l yX6_moves wsX6_moves ({ frames := 3, cells := 0, slots := 0, locals := 75 }) (am_P (gR g) σ [.inr (20, 0)]) (am_QV (gR g) (fun σ' => ab_R (ab_MS S 16) σ')) 0 0 (am_FA (gR g)) := by
  refine wk_start (cc := cX6_moves) (nL := 2) (ret := none) (own := RX6) (by decide) rfl hI rfl (Nat.le_of_ble_eq_true rfl) ?_
  intro p e s m below meth c C hr hlk
  change wk _ p l e _ s m _ below meth c 0 0 _ _ _ _ 0 [some (.inr (20, 0)), none] [] σ
  have hc19 := hS.2.1
  have hTd : ab_T S = (S 19 3).toNat + 1 + (S 19 0).toNat := rfl
  refine wk_bipush C (n := 16) (by decide) dX6_moves_0 ?_
  refine wk_istore_n C (by decide) (Nat.le_of_ble_eq_true rfl) dX6_moves_2 ?_
  have hl3 : ∀ (d L : Nat) (σ1 : am_M), 65 ≤ L + d → 16 ≤ L → L ≤ 64 → ab_R (ab_DP S L) σ1 ∧ PKR S 64 σ1 ∧ SNR S 16 σ1 ∧ MVR S L σ1 → wk (gR g) p l e (headSpec wsX6_moves ({ frames := 3, cells := 0, slots := 0, locals := 75 })).room s m ([.inr (20, 0)].map (am_tv (gR g))).toArray below meth c 0 0 (MQ below (am_QV (gR g) (fun σ' => ab_R (ab_MS S 16) σ')) ([.inr (20, 0)].map (am_tv (gR g))).toArray s 0 0 (am_FA (gR g))) (am_FA (gR g)) s.heap 2 3 [some (.inr (20, 0)), some (.inl ((L : Nat) : Int))] [] σ1 := by
    intro d
    induction d with
    | zero => intro L σ1 h1 h16 h2 h3; omega
    | succ d ih =>
      intro L σ1 h1 h16 h2 h3
      refine wk_iload_n C rfl dX6_moves_3 ?_
      refine wk_bipush C (n := 64) (by decide) dX6_moves_4 ?_
      refine wk_icmp_ge C 40 (by omega) (by omega) (by decide) dX6_moves_6 (fun hc6 => ?_) (fun hc6 => ?_)
      · skip
        have h4 : L = 64 := by omega
        subst h4
        refine wk_iconst C dX6_moves_40 ?_
        refine wk_istore_n C (by decide) (Nat.le_of_ble_eq_true rfl) dX6_moves_41 ?_
        have hl42 : ∀ (d2 k : Nat) (σ2 : am_M), 17 ≤ k + d2 → k ≤ 16 → ab_R (ab_MP S k) σ2 ∧ PKR S 64 σ2 ∧ SNR S 16 σ2 ∧ MVR S 64 σ2 → wk (gR g) p l e (headSpec wsX6_moves ({ frames := 3, cells := 0, slots := 0, locals := 75 })).room s m ([.inr (20, 0)].map (am_tv (gR g))).toArray below meth c 0 0 (MQ below (am_QV (gR g) (fun σ' => ab_R (ab_MS S 16) σ')) ([.inr (20, 0)].map (am_tv (gR g))).toArray s 0 0 (am_FA (gR g))) (am_FA (gR g)) s.heap 2 42 [some (.inr (20, 0)), some (.inl ((k : Nat) : Int))] [] σ2 := by
          intro d2
          induction d2 with
          | zero => intro k σ2 g1 g2 g3; omega
          | succ d2 ih2 =>
            intro k σ2 g1 g2 g3
            refine wk_iload_n C rfl dX6_moves_42 ?_
            refine wk_bipush C (n := 16) (by decide) dX6_moves_43 ?_
            refine wk_icmp_ge C 74 (by omega) (by omega) (by decide) dX6_moves_45 (fun hc45 => ?_) (fun hc45 => ?_)
            · skip
              have h4 : k = 16 := by omega
              subst h4
              refine wk_bipush C (n := 16) (by decide) dX6_moves_74 ?_
              refine wk_istore_n C (by decide) (Nat.le_of_ble_eq_true rfl) dX6_moves_76 ?_
              have hl77 : ∀ (d3 L3 : Nat) (σ3 : am_M), 65 ≤ L3 + d3 → 16 ≤ L3 → L3 ≤ 64 → ab_R (ab_AP S L3) σ3 ∧ PKR S 64 σ3 ∧ MVR S 64 σ3 → wk (gR g) p l e (headSpec wsX6_moves ({ frames := 3, cells := 0, slots := 0, locals := 75 })).room s m ([.inr (20, 0)].map (am_tv (gR g))).toArray below meth c 0 0 (MQ below (am_QV (gR g) (fun σ' => ab_R (ab_MS S 16) σ')) ([.inr (20, 0)].map (am_tv (gR g))).toArray s 0 0 (am_FA (gR g))) (am_FA (gR g)) s.heap 2 77 [some (.inr (20, 0)), some (.inl ((L3 : Nat) : Int))] [] σ3 := by
                intro d3
                induction d3 with
                | zero => intro L3 σ3 f1 f16 f2 f3; omega
                | succ d3 ih3 =>
                  intro L3 σ3 f1 f16 f2 f3
                  refine wk_iload_n C rfl dX6_moves_77 ?_
                  refine wk_bipush C (n := 64) (by decide) dX6_moves_78 ?_
                  refine wk_icmp_ge C 104 (by omega) (by omega) (by decide) dX6_moves_80 (fun hc80 => ?_) (fun hc80 => ?_)
                  · skip
                    refine wk_vret C hr hlk dX6_moves_104 ?_
                    have h4 : L3 = 64 := by omega
                    subst h4
                    rw [← AP_64]
                    exact f3.1
                  · skip
                    have hL64 : L3 < 64 := by omega
                    have hri := rpk_iff S L3
                    refine wk_aload_n C rfl dX6_moves_83 ?_
                    refine wk_getr C (k := 20) (ci := 6) (j := 21) (T := TX6) rfl (show 0 < (1:Nat) by decide) rfl in_c_X6_moves_X6 (by decide) (by decide +kernel) rfl dX6_moves_84 ?_
                    refine wk_iload_n C rfl dX6_moves_87 ?_
                    refine wk_iald C (k := 41) rfl (show 0 < (1:Nat) by decide) (Nat.le_of_ble_eq_true rfl) (L3) (by omega) (show _ < (64:Nat) by omega) dX6_moves_88 ?_
                    rw [f3.2.1 L3 f16 hL64]
                    have hrr : -1 ≤ rpk S L3 ∧ rpk S L3 < 64 := by
                      unfold rpk
                      split
                      · omega
                      · rename_i z
                        have := qat_lt f16 hL64 (pk_fact hS hL64 z).2.2.2.1
                        omega
                    refine wk_iconst C dX6_moves_89 ?_
                    refine wk_icmp_eq C 98 (by omega) (by omega) (by decide) dX6_moves_90 (fun hc90 => ?_) (fun hc90 => ?_)
                    · skip
                      have hp := hri.1.mp hc90
                      have hfin : ab_R (ab_AP S (L3 + 1)) σ3 ∧ PKR S 64 σ3 ∧ MVR S 64 σ3 := by rw [AP_same f16 hp]; exact f3
                      refine wk_iinc C rfl (by decide) dX6_moves_98 ?_
                      refine wk_goto C 77 (by decide) dX6_moves_101 ?_
                      exact ih3 (L3 + 1) _ (by omega) (by omega) (by omega) hfin
                    · skip
                      have hp : ¬ ab_pick S L3 = -1 := fun z => hc90 (hri.1.mpr z)
                      have hnx := AP_next hS f16 hL64 hp f3.1 f3.2.1 f3.2.2
                      have hfin := hnx.2
                      refine wk_aload_n C rfl dX6_moves_93 ?_
                      refine wk_iload_n C rfl dX6_moves_94 ?_
                      refine wk_ofV C (wk_runV (index := 183) (ci := 6) (st := []) C (c_X6_arrives l g hI _ L3 (by omega) hnx.1) (cwV 1 C.2.2.2.2.1 gX6_moves_X6_arrives rfl rfl rfl (by decide +kernel) ⟨Nat.le_of_ble_eq_true rfl, Nat.le_of_ble_eq_true rfl⟩) rfl (show 0 < (1:Nat) by decide) rfl rfl rfl (Nat.le_of_ble_eq_true rfl) dX6_moves_95 ⟨Nat.zero_le _, Nat.zero_le _⟩) (fun σ95 hp95 => ?_)
                      subst hp95
                      refine wk_iinc C rfl (by decide) dX6_moves_98 ?_
                      refine wk_goto C 77 (by decide) dX6_moves_101 ?_
                      exact ih3 (L3 + 1) _ (by omega) (by omega) (by omega) hfin
              exact hl77 65 16 _ (by omega) (by omega) (by omega) ⟨by rw [AP_16]; exact g3.1, g3.2.1, g3.2.2.2⟩
            · skip
              have hk : k < 16 := by omega
              have hFr := F_rng hS (k := k)
              refine wk_aload_n C rfl dX6_moves_48 ?_
              refine wk_getr C (k := 20) (ci := 6) (j := 29) (T := TX6) rfl (show 0 < (1:Nat) by decide) rfl in_c_X6_moves_X6 (by decide) (by decide +kernel) rfl dX6_moves_49 ?_
              refine wk_iload_n C rfl dX6_moves_52 ?_
              refine wk_iald C (k := 49) rfl (show 0 < (1:Nat) by decide) (Nat.le_of_ble_eq_true rfl) (k) (by omega) (show _ < (16:Nat) by omega) dX6_moves_53 ?_
              rw [g3.2.2.1 k hk]
              refine wk_iconst C dX6_moves_54 ?_
              refine wk_icmp_eq C 68 (by omega) (by omega) (by decide) dX6_moves_55 (fun hc55 => ?_) (fun hc55 => ?_)
              · skip
                have hfin : ab_R (ab_MP S (k + 1)) σ2 ∧ PKR S 64 σ2 ∧ SNR S 16 σ2 ∧ MVR S 64 σ2 := by rw [MP_same hc55]; exact g3
                refine wk_iinc C rfl (by decide) dX6_moves_68 ?_
                refine wk_goto C 42 (by decide) dX6_moves_71 ?_
                exact ih2 (k + 1) _ (by omega) (by omega) hfin
              · skip
                obtain ⟨f, hF⟩ : ∃ f : Nat, ab_F S k = (f : Int) := ⟨(ab_F S k).toNat, by omega⟩
                have hFf := F_fact hS (k := k) hc55
                rw [hF] at hFf
                have m0 := (may_fact hFf.2.2.2).1
                rw [Int.toNat_natCast] at m0
                have hnx := MP_next hS hk hF g3.1 g3.2.1 g3.2.2.1 g3.2.2.2
                have hmv := rl_make_mv S σ2 k f
                refine wk_aload_n C rfl dX6_moves_58 ?_
                refine wk_iload_n C rfl dX6_moves_59 ?_
                refine wk_ofV C (wk_runV (index := 180) (ci := 6) (st := []) C (c_X6_makes l g hI _ k f hk (by rw [g3.2.2.1 k hk]; exact hF) S b (Rv_Z g3.1) hS (by omega) m0 (fun j hj => by rw [g3.1.2.1 f j (by rw [MP_o]; omega) hj, MP_fl (by omega) j hj]) ⟨by rw [g3.1.1.2.1, MP_o], by rw [g3.1.1.2.2.2.1, MP_o]⟩) (cwV 1 C.2.2.2.2.1 gX6_moves_X6_makes rfl rfl rfl (by decide +kernel) ⟨Nat.le_of_ble_eq_true rfl, Nat.le_of_ble_eq_true rfl⟩) rfl (show 0 < (1:Nat) by decide) rfl rfl rfl (Nat.le_of_ble_eq_true rfl) dX6_moves_60 ⟨Nat.zero_le _, Nat.zero_le _⟩) (fun σ60 hp60 => ?_)
                subst hp60
                refine wk_aload_n C rfl dX6_moves_63 ?_
                refine wk_iload_n C rfl dX6_moves_64 ?_
                refine wk_ofV C (wk_runV (index := 183) (ci := 6) (st := []) C (c_X6_arrives l g hI _ k (by omega) hnx.1) (cwV 1 C.2.2.2.2.1 gX6_moves_X6_arrives rfl rfl rfl (by decide +kernel) ⟨Nat.le_of_ble_eq_true rfl, Nat.le_of_ble_eq_true rfl⟩) rfl (show 0 < (1:Nat) by decide) rfl rfl rfl (Nat.le_of_ble_eq_true rfl) dX6_moves_65 ⟨Nat.zero_le _, Nat.zero_le _⟩) (fun σ65 hp65 => ?_)
                rw [hmv.1, hmv.2.1, hmv.2.2.1, hmv.2.2.2] at hp65
                subst hp65
                have hfin := hnx.2
                refine wk_iinc C rfl (by decide) dX6_moves_68 ?_
                refine wk_goto C 42 (by decide) dX6_moves_71 ?_
                exact ih2 (k + 1) _ (by omega) (by omega) hfin
        exact hl42 17 0 _ (by omega) (by omega) h3
      · skip
        have hL64 : L < 64 := by omega
        have hpr := pick_rng hS hL64
        have hri := rpk_iff S L
        refine wk_aload_n C rfl dX6_moves_9 ?_
        refine wk_getr C (k := 20) (ci := 6) (j := 21) (T := TX6) rfl (show 0 < (1:Nat) by decide) rfl in_c_X6_moves_X6 (by decide) (by decide +kernel) rfl dX6_moves_10 ?_
        refine wk_iload_n C rfl dX6_moves_13 ?_
        refine wk_iald C (k := 41) rfl (show 0 < (1:Nat) by decide) (Nat.le_of_ble_eq_true rfl) (L) (by omega) (show _ < (64:Nat) by omega) dX6_moves_14 ?_
        rw [h3.2.1 L h16 hL64]
        have hrr : -1 ≤ rpk S L ∧ rpk S L < 64 := by
          unfold rpk
          split
          · omega
          · rename_i z
            have := qat_lt h16 hL64 (pk_fact hS hL64 z).2.2.2.1
            omega
        refine wk_iconst C dX6_moves_15 ?_
        refine wk_icmp_eq C 34 (by omega) (by omega) (by decide) dX6_moves_16 (fun hc16 => ?_) (fun hc16 => ?_)
        · skip
          have hp := hri.1.mp hc16
          have hfin : ab_R (ab_DP S (L + 1)) σ1 ∧ PKR S 64 σ1 ∧ SNR S 16 σ1 ∧ MVR S (L + 1) σ1 := ⟨by rw [DP_same h16 hp]; exact h3.1, h3.2.1, h3.2.2.1, fun i z1 z2 z3 => h3.2.2.2 i z1 (by
            rcases (by omega : i < L ∨ i = L) with y | y
            · exact y
            · rw [y] at z3; exact absurd hp z3) z3⟩
          refine wk_iinc C rfl (by decide) dX6_moves_34 ?_
          refine wk_goto C 3 (by decide) dX6_moves_37 ?_
          exact ih (L + 1) _ (by omega) (by omega) (by omega) hfin
        · skip
          have hp : ¬ ab_pick S L = -1 := fun z => hc16 (hri.1.mpr z)
          obtain ⟨r1, r2, r3, r4⟩ := DP_rd hS h16 hL64 hp h3.1
          have hfin := DP_next hS h16 hL64 hp h3.1 h3.2.1 h3.2.2.1 h3.2.2.2
          refine wk_aload_n C rfl dX6_moves_19 ?_
          refine wk_iload_n C rfl dX6_moves_20 ?_
          refine wk_ofV C (wk_runV (index := 177) (ci := 6) (st := []) C (c_X6_takesAlong l g hI _ L (ab_qat L (ab_pick S L).toNat) hL64 r1 (by rw [h3.2.1 L h16 hL64, hri.2 hp])) (cwV 1 C.2.2.2.2.1 gX6_moves_X6_takesAlong rfl rfl rfl (by decide +kernel) ⟨Nat.le_of_ble_eq_true rfl, Nat.le_of_ble_eq_true rfl⟩) rfl (show 0 < (1:Nat) by decide) rfl rfl rfl (Nat.le_of_ble_eq_true rfl) dX6_moves_21 ⟨Nat.zero_le _, Nat.zero_le _⟩) (fun σ21 hp21 => ?_)
          subst hp21
          refine wk_aload_n C rfl dX6_moves_24 ?_
          refine wk_aload_n C rfl dX6_moves_25 ?_
          refine wk_getr C (k := 20) (ci := 6) (j := 21) (T := TX6) rfl (show 0 < (1:Nat) by decide) rfl in_c_X6_moves_X6 (by decide) (by decide +kernel) rfl dX6_moves_26 ?_
          refine wk_iload_n C rfl dX6_moves_29 ?_
          refine wk_iald C (k := 41) rfl (show 0 < (1:Nat) by decide) (Nat.le_of_ble_eq_true rfl) (L) (by omega) (show _ < (64:Nat) by omega) dX6_moves_30 ?_
          rw [rl_take_o _ _ _ _ _ (by omega), h3.2.1 L h16 hL64, hri.2 hp]
          refine wk_ofV C (wk_runV (index := 152) (ci := 6) (st := []) C (c_X6_leaves l g hI _ (ab_qat L (ab_pick S L).toNat) (ab_T S % 8) r1 (by omega) (by rw [rl_take_o _ _ _ _ _ (by omega)]; exact r2) (by rw [rl_take_o _ _ _ _ _ (by omega), h3.1.1.2.1, DP_o]; omega) (by rw [rl_take_o _ _ _ _ _ (by omega), h3.1.1.2.2.1, DP_o]; omega) (by rw [rl_take_o _ _ _ _ _ (by omega), rl_take_o _ _ _ _ _ (by omega), h3.1.1.2.1, h3.1.1.2.2.1, DP_o, DP_o]; omega)) (cwV 1 C.2.2.2.2.1 gX6_moves_X6_leaves rfl rfl rfl (by decide +kernel) ⟨Nat.le_of_ble_eq_true rfl, Nat.le_of_ble_eq_true rfl⟩) rfl (show 0 < (1:Nat) by decide) rfl rfl rfl (Nat.le_of_ble_eq_true rfl) dX6_moves_31 ⟨Nat.zero_le _, Nat.zero_le _⟩) (fun σ31 hp31 => ?_)
          subst hp31
          refine wk_iinc C rfl (by decide) dX6_moves_34 ?_
          refine wk_goto C 3 (by decide) dX6_moves_37 ?_
          exact ih (L + 1) _ (by omega) (by omega) (by omega) hfin
  exact hl3 65 16 σ (by omega) (by omega) (by omega) ⟨by rw [DP_16]; exact hR, hP, hN, fun i z1 z2 => by omega⟩

theorem in_c_X6_ticks_X6 : ∀ w ∈ u_ws RX6 TX6 36, w ∈ wsX6_ticks := by decide +kernel
set_option maxRecDepth 100000 in
set_option maxHeartbeats 4000000 in
/-- ticks -/
theorem c_X6_ticks (l : Launch) (g : am_g) (hI : am_inj (gR g)) (σ : am_M) (S : ab_S) (b : Int) (hR : ab_R S σ) (hS : ab_I S b) (hb : b + 48 ≤ 100000000) (hclk : S 19 3 < 100000) : Met l yX6_ticks wsX6_ticks ({ frames := 4, cells := 0, slots := 0, locals := 96 }) (am_P (gR g) σ [.inr (20, 0)]) (am_QI (gR g) (fun r σ' => ab_R (ab_tick S) σ' ∧ r = ab_tickC S)) 0 0 (am_FA (gR g)) := by
  refine wk_start (cc := cX6_ticks) (nL := 2) (ret := (some .int)) (own := RX6) (by decide) rfl hI rfl (Nat.le_of_ble_eq_true rfl) ?_
  intro p e s m below meth c C hr hlk
  change wk _ p l e _ s m _ below meth c 0 0 _ _ _ _ 0 [some (.inr (20, 0)), none] [] σ
  have hc0 := hS.2.1
  have hA := tick_o S
  have hI1 : ab_I (ab_back S 64) b := I_back hS
  have hI2 : ab_I (ab_dlvN (ab_back S 64) 16) (b + 16) := I_dlvN hI1 (by omega) 16 (by omega)
  have hI3 : ab_I (ab_loseN (ab_dlvN (ab_back S 64) 16) 16) (b + 32) := by
    have := I_loseN hI2 (by omega) 16 (by omega)
    rw [show b + 32 = b + 16 + ((16 : Nat) : Int) by omega]
    exact this
  have hI4 : ab_I (ab_tA S) (b + 32) := I_tA hS hb
  refine wk_aload_n C rfl dX6_ticks_0 ?_
  refine wk_ofV C (wk_runV (index := 186) (ci := 6) (st := []) C (c_X6_creditsReturn l g hI _ S b hR hS) (cwV 0 C.2.2.2.2.1 gX6_ticks_X6_creditsReturn rfl rfl rfl (by decide +kernel) ⟨Nat.le_of_ble_eq_true rfl, Nat.le_of_ble_eq_true rfl⟩) rfl (show 0 < (1:Nat) by decide) rfl rfl rfl (Nat.le_of_ble_eq_true rfl) dX6_ticks_1 ⟨Nat.zero_le _, Nat.zero_le _⟩) (fun σ1 hp1 => ?_)
  refine wk_aload_n C rfl dX6_ticks_4 ?_
  refine wk_ofI C (wk_runV (index := 189) (ci := 6) (st := []) C (c_X6_hostsTake l g hI _ (ab_back S 64) b hp1 hI1 (by omega)) (cwV 0 C.2.2.2.2.1 gX6_ticks_X6_hostsTake rfl rfl rfl (by decide +kernel) ⟨Nat.le_of_ble_eq_true rfl, Nat.le_of_ble_eq_true rfl⟩) rfl (show 0 < (1:Nat) by decide) rfl rfl rfl (Nat.le_of_ble_eq_true rfl) dX6_ticks_5 ⟨Nat.zero_le _, Nat.zero_le _⟩) (fun r5 σ5 hp5 => ?_)
  obtain ⟨hR5, rfl⟩ := hp5
  refine wk_istore_n C (by decide) (Nat.le_of_ble_eq_true rfl) dX6_ticks_8 ?_
  refine wk_aload_n C rfl dX6_ticks_9 ?_
  refine wk_ofV C (wk_runV (index := 193) (ci := 6) (st := []) C (c_X6_spinesLose l g hI _ (ab_dlvN (ab_back S 64) 16) (b + 16) hR5 hI2 (by omega)) (cwV 0 C.2.2.2.2.1 gX6_ticks_X6_spinesLose rfl rfl rfl (by decide +kernel) ⟨Nat.le_of_ble_eq_true rfl, Nat.le_of_ble_eq_true rfl⟩) rfl (show 0 < (1:Nat) by decide) rfl rfl rfl (Nat.le_of_ble_eq_true rfl) dX6_ticks_10 ⟨Nat.zero_le _, Nat.zero_le _⟩) (fun σ10 hp10 => ?_)
  refine wk_aload_n C rfl dX6_ticks_13 ?_
  refine wk_ofV C (wk_runV (index := 196) (ci := 6) (st := []) C (c_X6_leavesChoose l g hI _ (ab_loseN (ab_dlvN (ab_back S 64) 16) 16) (b + 32) hp10 hI3) (cwV 0 C.2.2.2.2.1 gX6_ticks_X6_leavesChoose rfl rfl rfl (by decide +kernel) ⟨Nat.le_of_ble_eq_true rfl, Nat.le_of_ble_eq_true rfl⟩) rfl (show 0 < (1:Nat) by decide) rfl rfl rfl (Nat.le_of_ble_eq_true rfl) dX6_ticks_14 ⟨Nat.zero_le _, Nat.zero_le _⟩) (fun σ14 hp14 => ?_)
  refine wk_aload_n C rfl dX6_ticks_17 ?_
  refine wk_ofV C (wk_runV (index := 199) (ci := 6) (st := []) C (c_X6_linksPick l g hI _ (ab_tA S) (b + 32) hp14 hI4) (cwV 0 C.2.2.2.2.1 gX6_ticks_X6_linksPick rfl rfl rfl (by decide +kernel) ⟨Nat.le_of_ble_eq_true rfl, Nat.le_of_ble_eq_true rfl⟩) rfl (show 0 < (1:Nat) by decide) rfl rfl rfl (Nat.le_of_ble_eq_true rfl) dX6_ticks_18 ⟨Nat.zero_le _, Nat.zero_le _⟩) (fun σ18 hp18 => ?_)
  refine wk_aload_n C rfl dX6_ticks_21 ?_
  refine wk_ofV C (wk_runV (index := 202) (ci := 6) (st := []) C (c_X6_hostsPick l g hI _ (ab_tA S) (b + 32) hI4 hp18.1 hp18.2) (cwV 0 C.2.2.2.2.1 gX6_ticks_X6_hostsPick rfl rfl rfl (by decide +kernel) ⟨Nat.le_of_ble_eq_true rfl, Nat.le_of_ble_eq_true rfl⟩) rfl (show 0 < (1:Nat) by decide) rfl rfl rfl (Nat.le_of_ble_eq_true rfl) dX6_ticks_22 ⟨Nat.zero_le _, Nat.zero_le _⟩) (fun σ22 hp22 => ?_)
  refine wk_aload_n C rfl dX6_ticks_25 ?_
  refine wk_ofV C (wk_runV (index := 205) (ci := 6) (st := []) C (c_X6_moves l g hI _ (ab_tA S) (b + 32) hI4 hp22.1 hp22.2.1 hp22.2.2) (cwV 0 C.2.2.2.2.1 gX6_ticks_X6_moves rfl rfl rfl (by decide +kernel) ⟨Nat.le_of_ble_eq_true rfl, Nat.le_of_ble_eq_true rfl⟩) rfl (show 0 < (1:Nat) by decide) rfl rfl rfl (Nat.le_of_ble_eq_true rfl) dX6_ticks_26 ⟨Nat.zero_le _, Nat.zero_le _⟩) (fun σ26 hp26 => ?_)
  have hfin := R_tickN hS hb hp26
  have hnt := hp26.1.2.1
  rw [MS_o (by omega), show ab_tA S 19 3 = S 19 3 from hA.2.2.2 3] at hnt
  refine wk_aload_n C rfl dX6_ticks_29 ?_
  refine wk_dup C dX6_ticks_30 ?_
  refine wk_geti C (k := 20) (ci := 6) (j := 3) (T := TX6) rfl (show 0 < (1:Nat) by decide) rfl in_c_X6_ticks_X6 (by decide) (by decide +kernel) rfl dX6_ticks_31 ?_
  rw [hnt]
  refine wk_iconst C dX6_ticks_34 ?_
  refine wk_iadd C dX6_ticks_35 ?_
  refine wk_put C (k := 20) (ci := 6) (j := 3) (T := TX6) rfl (show 0 < (1:Nat) by decide) rfl in_c_X6_ticks_X6 tyX6 tyX6_ok nmX6 (by decide) (by decide +kernel) rfl rfl (by decide +kernel) dX6_ticks_36 ?_
  refine wk_iload_n C rfl dX6_ticks_39 ?_
  refine wk_iret C hr hlk dX6_ticks_40 ?_
  exact ⟨hfin, rfl⟩
