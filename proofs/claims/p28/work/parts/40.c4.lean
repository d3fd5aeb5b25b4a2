theorem ab_back_0 (S : ab_S) (g i : Nat) : S g i = ab_back S 0 g i := by simp [ab_back]
theorem bk_T (S : ab_S) : (((S 19 3).toNat % 7 : Nat) : Int) = (((S 19 3).toNat : Nat) : Int) % 7 := rfl

theorem in_c_X5_takeCreditsBack_X5 : ∀ w ∈ u_ws RX5 TX5 13, w ∈ wsX5_takeCreditsBack := by decide +kernel
set_option maxRecDepth 100000 in
set_option maxHeartbeats 4000000 in
/-- takeCreditsBack -/
theorem c_X5_takeCreditsBack (l : Launch) (g : am_g) (hI : am_inj (gC g)) (σ : am_M) (S : ab_S) (b : Int) (hC : ab_C S σ) (hS : ab_I S b) : Met l yX5_takeCreditsBack wsX5_takeCreditsBack ({ frames := 1, cells := 0, slots := 0, locals := 21 }) (am_P (gC g) σ [.inr (0, 0)]) (am_QV (gC g) (fun σ' => ab_C (ab_back S 64) σ')) 0 0 (am_FA (gC g)) := by
  refine wk_start (cc := cX5_takeCreditsBack) (nL := 3) (ret := none) (own := RX5) (by decide) rfl hI rfl (Nat.le_of_ble_eq_true rfl) ?_
  intro p e s m below meth c C hr hlk
  change wk _ p l e _ s m _ below meth c 0 0 _ _ _ _ 0 [some (.inr (0, 0)), none, none] [] σ
  have hcl := hC.1.2.1
  have hc0 := hS.2.1.2.2.2.1
  refine wk_aload_n C rfl dX5_takeCreditsBack_0 ?_
  refine wk_geti C (k := 0) (ci := 5) (j := 9) (T := TX5) rfl (show 0 < (1:Nat) by decide) rfl in_c_X5_takeCreditsBack_X5 (by decide) (by decide +kernel) rfl dX5_takeCreditsBack_1 ?_
  refine wk_bipush C (n := 7) (by decide) dX5_takeCreditsBack_4 ?_
  refine wk_irem C (by omega) (by omega) dX5_takeCreditsBack_6 ?_
  rw [show σ 0 0 9 % 7 = (((S 19 3).toNat % 7 : Nat) : Int) by omega]
  refine wk_istore_n C (by decide) (Nat.le_of_ble_eq_true rfl) dX5_takeCreditsBack_7 ?_
  refine wk_iconst C dX5_takeCreditsBack_8 ?_
  refine wk_istore_n C (by decide) (Nat.le_of_ble_eq_true rfl) dX5_takeCreditsBack_9 ?_
  have hl10 : ∀ (d k : Nat) (σ1 : am_M), 65 ≤ k + d → k ≤ 64 → ab_C (ab_back S k) σ1 → wk (gC g) p l e (headSpec wsX5_takeCreditsBack ({ frames := 1, cells := 0, slots := 0, locals := 21 })).room s m ([.inr (0, 0)].map (am_tv (gC g))).toArray below meth c 0 0 (MQ below (am_QV (gC g) (fun σ' => ab_C (ab_back S 64) σ')) ([.inr (0, 0)].map (am_tv (gC g))).toArray s 0 0 (am_FA (gC g))) (am_FA (gC g)) s.heap 3 10 [some (.inr (0, 0)), some (.inl ((((S 19 3).toNat % 7 : Nat)) : Int)), some (.inl ((k : Nat) : Int))] [] σ1 := by
    intro d
    induction d with
    | zero => intro k σ1 h1 h2 h3; omega
    | succ d ih =>
      intro k σ1 h1 h2 h3
      refine wk_iload_n C rfl dX5_takeCreditsBack_10 ?_
      refine wk_aload_n C rfl dX5_takeCreditsBack_11 ?_
      refine wk_getr C (k := 0) (ci := 5) (j := 2) (T := TX5) rfl (show 0 < (1:Nat) by decide) rfl in_c_X5_takeCreditsBack_X5 (by decide) (by decide +kernel) rfl dX5_takeCreditsBack_12 ?_
      refine wk_alenR C (k := 3) rfl rfl (show 0 < (1:Nat) by decide) dX5_takeCreditsBack_15 ?_
      refine wk_icmp_ge C 35 (by omega) (by omega) (by decide) dX5_takeCreditsBack_16 (fun hc16 => ?_) (fun hc16 => ?_)
      · skip
        refine wk_vret C hr hlk dX5_takeCreditsBack_35 ?_
        have h4 : k = 64 := by omega
        rw [← h4]
        exact h3
      · skip
        refine wk_aload_n C rfl dX5_takeCreditsBack_19 ?_
        refine wk_getr C (k := 0) (ci := 5) (j := 2) (T := TX5) rfl (show 0 < (1:Nat) by decide) rfl in_c_X5_takeCreditsBack_X5 (by decide) (by decide +kernel) rfl dX5_takeCreditsBack_20 ?_
        refine wk_iload_n C rfl dX5_takeCreditsBack_23 ?_
        refine wk_aald C (k := 3) rfl rfl (show 0 < (1:Nat) by decide) (Nat.le_of_ble_eq_true rfl) (k) (by omega) (show _ < (64:Nat) by omega) dX5_takeCreditsBack_24 ?_
        refine wk_iload_n C rfl dX5_takeCreditsBack_25 ?_
        refine wk_ofV C (wk_runN (host := RX5) (index := 257) (ci := 2) (st := []) C (c_X2_takeBack l g hI _ k (by omega) ((S 19 3).toNat % 7) (by omega)) ⟨va_cnB 1 C.2.2.2.2.1 gX5_takeCreditsBack_X2_takeBack_n257 rfl rfl rfl (C.2.2.2.2.2.1.2 _ (by decide +kernel)) (C.2.2.2.2.1 (.initialized RX2) (by decide +kernel)) (by decide +kernel) ⟨Nat.le_of_ble_eq_true rfl, Nat.le_of_ble_eq_true rfl⟩, C.2.2.2.2.1 (.instanceMethod yX2_takeBack) (by decide +kernel), C.2.2.2.2.1 (.selects RX2 yX2_takeBack yX2_takeBack) (by decide +kernel)⟩ rfl (show _ < (64:Nat) by omega) rfl rfl rfl (Nat.le_of_ble_eq_true rfl) dX5_takeCreditsBack_26 ⟨Nat.zero_le _, Nat.zero_le _⟩) (fun σ26 hp26 => ?_)
        subst hp26
        refine wk_iinc C rfl (by decide) dX5_takeCreditsBack_29 ?_
        refine wk_goto C 10 (by decide) dX5_takeCreditsBack_32 ?_
        exact ih (k + 1) _ (by omega) (by omega) (C_back h3 (by omega) hc0.1 rfl)
  exact hl10 65 0 σ (by omega) (by omega) (C_ext (ab_back_0 S) hC)

theorem in_c_X5_deliverAll_X1 : ∀ w ∈ u_ws RX1 TX1 4, w ∈ wsX5_deliverAll := by decide +kernel
theorem in_c_X5_deliverAll_X2 : ∀ w ∈ u_ws RX2 TX2 7, w ∈ wsX5_deliverAll := by decide +kernel
theorem in_c_X5_deliverAll_X4 : ∀ w ∈ u_ws RX4 TX4 4, w ∈ wsX5_deliverAll := by decide +kernel
theorem in_c_X5_deliverAll_X5 : ∀ w ∈ u_ws RX5 TX5 13, w ∈ wsX5_deliverAll := by decide +kernel
set_option maxRecDepth 100000 in
set_option maxHeartbeats 4000000 in
/-- deliverAll -/
theorem c_X5_deliverAll (l : Launch) (g : am_g) (hI : am_inj (gC g)) (σ : am_M) (sl : Nat) (hs : sl < 7) (S : ab_S) (b : Int) (hC : ab_C S σ) (hS : ab_I S b) (hb : b + 16 ≤ 100000000) (hsl : sl = ab_T S % 7) : Met l yX5_deliverAll wsX5_deliverAll ({ frames := 1, cells := 0, slots := 0, locals := 22 }) (am_P (gC g) σ [.inr (0, 0), .inl ((sl : Nat) : Int)]) (am_QI (gC g) (fun r σ' => ab_C (ab_dlvN S 16) σ' ∧ r = ab_dlvC S 16)) 0 0 (am_FA (gC g)) := by
  refine wk_start (cc := cX5_deliverAll) (nL := 6) (ret := (some .int)) (own := RX5) (by decide) rfl hI rfl (Nat.le_of_ble_eq_true rfl) ?_
  intro p e s m below meth c C hr hlk
  change wk _ p l e _ s m _ below meth c 0 0 _ _ _ _ 0 [some (.inr (0, 0)), some (.inl ((sl : Nat) : Int)), none, none, none, none] [] σ
  refine wk_iconst C dX5_deliverAll_0 ?_
  refine wk_istore_n C (by decide) (Nat.le_of_ble_eq_true rfl) dX5_deliverAll_1 ?_
  refine wk_iconst C dX5_deliverAll_2 ?_
  refine wk_istore_n C (by decide) (Nat.le_of_ble_eq_true rfl) dX5_deliverAll_3 ?_
  have hl4 : ∀ (d k : Nat) (σ1 : am_M), 17 ≤ k + d → k ≤ 16 → ab_C (ab_dlvN S k) σ1 → wk (gC g) p l e (headSpec wsX5_deliverAll ({ frames := 1, cells := 0, slots := 0, locals := 22 })).room s m ([.inr (0, 0), .inl ((sl : Nat) : Int)].map (am_tv (gC g))).toArray below meth c 0 0 (MQ below (am_QI (gC g) (fun r σ' => ab_C (ab_dlvN S 16) σ' ∧ r = ab_dlvC S 16)) ([.inr (0, 0), .inl ((sl : Nat) : Int)].map (am_tv (gC g))).toArray s 0 0 (am_FA (gC g))) (am_FA (gC g)) s.heap 6 4 [some (.inr (0, 0)), some (.inl ((sl : Nat) : Int)), some (.inl (ab_dlvC S k)), some (.inl ((k : Nat) : Int)), none, none] [] σ1 := by
    intro d
    induction d with
    | zero => intro k σ1 h1 h2 h3; omega
    | succ d ih =>
      intro k σ1 h1 h2 h3
      refine wk_iload_n C rfl dX5_deliverAll_4 ?_
      refine wk_bipush C (n := 16) (by decide) dX5_deliverAll_5 ?_
      refine wk_icmp_ge C 88 (by omega) (by omega) (by decide) dX5_deliverAll_7 (fun hc7 => ?_) (fun hc7 => ?_)
      · skip
        refine wk_iload_n C rfl dX5_deliverAll_88 ?_
        refine wk_iret C hr hlk dX5_deliverAll_89 ?_
        have h4 : k = 16 := by omega
        subst h4
        exact ⟨h3, rfl⟩
      · skip
        have hSk := I_dlvN hS hb k (by omega)
        have hL4 := h3.2.2.2.1 (16 + k) (by omega)
        have hs4 := hSk.s4 (L := 16 + k) (by omega)
        refine wk_aload_n C rfl dX5_deliverAll_10 ?_
        refine wk_getr C (k := 0) (ci := 5) (j := 1) (T := TX5) rfl (show 0 < (1:Nat) by decide) rfl in_c_X5_deliverAll_X5 (by decide) (by decide +kernel) rfl dX5_deliverAll_11 ?_
        refine wk_iload_n C rfl dX5_deliverAll_14 ?_
        refine wk_aald C (k := 2) rfl rfl (show 0 < (1:Nat) by decide) (Nat.le_of_ble_eq_true rfl) (k) (by omega) (show _ < (16:Nat) by omega) dX5_deliverAll_15 ?_
        refine wk_getrN C (k := 10) (ci := 1) (j := 1) (T := TX1) (host := RX5) rfl (show _ < (16:Nat) by omega) rfl in_c_X5_deliverAll_X1 (by decide) (by decide +kernel) rfl dX5_deliverAll_16 ?_
        refine wk_astore C (by decide) (Nat.le_of_ble_eq_true rfl) dX5_deliverAll_19 ?_
        refine wk_aload C rfl dX5_deliverAll_21 ?_
        refine wk_getiN C (k := 11) (ci := 2) (j := 3) (T := TX2) (host := RX5) rfl (show _ < (64:Nat) by omega) rfl in_c_X5_deliverAll_X2 (by decide) (by decide +kernel) rfl dX5_deliverAll_23 ?_
        rw [hL4.1]
        refine wk_if_le C 82 (by omega) (by decide) dX5_deliverAll_26 (fun hc26 => ?_) (fun hc26 => ?_)
        · skip
          refine wk_iinc C rfl (by decide) dX5_deliverAll_82 ?_
          refine wk_goto C 4 (by decide) dX5_deliverAll_85 ?_
          refine wk_le ?_ (ih (k + 1) _ (by omega) (by omega) ?_)
          · rw [ab_dlvC]
            first
              | (rw [if_pos hpos]; repeat (first | exact le_0 | refine le_s ?_ | refine le_n ?_))
              | (rw [if_neg (by omega), Int.add_zero]; repeat (first | exact le_0 | refine le_s ?_ | refine le_n ?_))
          · rw [ab_dlvN, ab_dlv]
            first
              | (rw [if_pos hpos]; exact hC4)
              | (rw [if_neg (by omega)]; exact h3)
        · skip
          have hpos : 0 < ab_dlvN S k 14 (16 + k) := hc26
          have iq := hSk.2.2.2.2.2.2.2 (16 + k) 0 (by omega) (by simpa using hpos)
          obtain ⟨iq0, iq1, -⟩ := iq
          simp only [Nat.add_zero] at iq0 iq1
          have hn24 := hSk.2.1.2.2.2.2
          have hc5 := hSk.2.1.2.2.2.1
          have hq : ∀ x, x < 4 → σ1 14 (4 * (16 + k) + (σ1 11 (16 + k) 2).toNat) x = ab_dlvN S k (20 + x) (4 * (16 + k)) := fun x hx => by
            have := h3.2.2.2.2.1 (16 + k) 0 x (by omega) (by simpa using hpos) hx
            rw [show (σ1 11 (16 + k) 2 + ((0 : Nat) : Int)) % 4 = σ1 11 (16 + k) 2 by omega] at this
            exact this
          have hfl : ((ab_fl (ab_dlvN S k) (16 + k) : Nat) : Int) = ab_dlvN S k 20 (4 * (16 + k)) := Int.toNat_of_nonneg iq0.1
          have hif := hSk.2.2.1 (ab_fl (ab_dlvN S k) (16 + k)) (by omega)
          have hcf : ∀ j, j < 13 → σ1 9 (ab_fl (ab_dlvN S k) (16 + k)) j = ab_dlvN S k j (ab_fl (ab_dlvN S k) (16 + k)) := fun j hj => h3.2.1 _ j (by omega) hj
          have hif5 := hif.2.2.2.2.2.1
          have hif2 := hif.2.2.1
          have hif8 := hif.2.2.2.2.2.2.2.2.1
          have hb1 := hSk.1
          refine wk_aload C rfl dX5_deliverAll_29 ?_
          refine wk_ofR C (wk_runN (host := RX5) (index := 260) (ci := 2) (st := []) C (c_X2_firstPacket l g hI _ (16 + k) (by omega) hL4.2.2.1) ⟨va_cnB 0 C.2.2.2.2.1 gX5_deliverAll_X2_firstPacket_n260 rfl rfl rfl (C.2.2.2.2.2.1.2 _ (by decide +kernel)) (C.2.2.2.2.1 (.initialized RX2) (by decide +kernel)) (by decide +kernel) ⟨Nat.le_of_ble_eq_true rfl, Nat.le_of_ble_eq_true rfl⟩, C.2.2.2.2.1 (.instanceMethod yX2_firstPacket) (by decide +kernel), C.2.2.2.2.1 (.selects RX2 yX2_firstPacket yX2_firstPacket) (by decide +kernel)⟩ rfl (show _ < (64:Nat) by omega) rfl rfl rfl (Nat.le_of_ble_eq_true rfl) dX5_deliverAll_31 ⟨Nat.zero_le _, Nat.zero_le _⟩) (fun r31 σ2 hp31 => ?_)
          obtain ⟨rfl, rfl⟩ := hp31
          refine wk_astore C (by decide) (Nat.le_of_ble_eq_true rfl) dX5_deliverAll_34 ?_
          refine wk_aload_n C rfl dX5_deliverAll_36 ?_
          refine wk_getr C (k := 0) (ci := 5) (j := 0) (T := TX5) rfl (show 0 < (1:Nat) by decide) rfl in_c_X5_deliverAll_X5 (by decide) (by decide +kernel) rfl dX5_deliverAll_37 ?_
          refine wk_aload C rfl dX5_deliverAll_40 ?_
          refine wk_getiN C (k := 14) (ci := 4) (j := 0) (T := TX4) (host := RX5) rfl (show _ < (256:Nat) by omega) rfl in_c_X5_deliverAll_X4 (by decide) (by decide +kernel) rfl dX5_deliverAll_42 ?_
          rw [hq 0 (by omega)]
          simp only [Nat.add_zero]
          refine wk_aald C (k := 1) rfl rfl (show 0 < (1:Nat) by decide) (Nat.le_of_ble_eq_true rfl) ((ab_fl (ab_dlvN S k) (16 + k))) hfl.symm (show _ < (24:Nat) by omega) dX5_deliverAll_45 ?_
          refine wk_aload C rfl dX5_deliverAll_46 ?_
          refine wk_getiN C (k := 14) (ci := 4) (j := 1) (T := TX4) (host := RX5) rfl (show _ < (256:Nat) by omega) rfl in_c_X5_deliverAll_X4 (by decide) (by decide +kernel) rfl dX5_deliverAll_48 ?_
          rw [hq 1 (by omega)]
          simp only [Nat.reduceAdd]
          refine wk_aload_n C rfl dX5_deliverAll_51 ?_
          refine wk_geti C (k := 0) (ci := 5) (j := 9) (T := TX5) rfl (show 0 < (1:Nat) by decide) rfl in_c_X5_deliverAll_X5 (by decide) (by decide +kernel) rfl dX5_deliverAll_52 ?_
          rw [h3.1.2.1]
          refine wk_ofV C (wk_runN (host := RX5) (index := 272) (ci := 0) (st := []) C (c_X0_countDelivered l g hI _ (ab_fl (ab_dlvN S k) (16 + k)) (by omega) (ab_dlvN S k 21 (4 * (16 + k))) (ab_dlvN S k 19 3) (by rw [hcf 5 (by omega)]; omega) (by rw [hcf 2 (by omega)]; omega) (by rw [hcf 8 (by omega)]; omega) (by omega)) ⟨va_cnB 2 C.2.2.2.2.1 gX5_deliverAll_X0_countDelivered_n272 rfl rfl rfl (C.2.2.2.2.2.1.2 _ (by decide +kernel)) (C.2.2.2.2.1 (.initialized RX0) (by decide +kernel)) (by decide +kernel) ⟨Nat.le_of_ble_eq_true rfl, Nat.le_of_ble_eq_true rfl⟩, C.2.2.2.2.1 (.instanceMethod yX0_countDelivered) (by decide +kernel), C.2.2.2.2.1 (.selects RX0 yX0_countDelivered yX0_countDelivered) (by decide +kernel)⟩ rfl (show _ < (24:Nat) by omega) rfl rfl rfl (Nat.le_of_ble_eq_true rfl) dX5_deliverAll_55 ⟨Nat.zero_le _, Nat.zero_le _⟩) (fun σ55 hp55 => ?_)
          subst hp55
          have hC2 := C_got h3 (f := (ab_fl (ab_dlvN S k) (16 + k))) (by omega) (ab_dlvN S k 21 (4 * (16 + k)))
          have hC3 := C_host hC2 (k := k) (j := 2) (Or.inl rfl) (ab_dlvN S k 16 k - 1)
          have hS3 := I_got hSk (h' := k) (f := (ab_fl (ab_dlvN S k) (16 + k))) (x := ab_dlvN S k 21 (4 * (16 + k))) (by omega) (by omega) iq1
          have hC4 := C_drop hC3 (L := 16 + k) (sl := sl) (by omega) (by rw [ab_u_app, if_neg (by omega), ab_got_o _ _ _ _ _ (by omega)]; exact hpos) (fun L hL => (hS3.s4 hL).2.1) hS3.2.1.2.2.2.1.1 hS3.2.1.1 (hsl.trans (congrArg (fun z => z % 7) (ab_T_cg (fun i => by rw [ab_u_app, if_neg (by omega), ab_got_o _ _ _ _ _ (by omega), ab_dlvN_o _ _ _ (by unfold ab_kp; omega)])).symm))
          refine wk_aload_n C rfl dX5_deliverAll_58 ?_
          refine wk_getr C (k := 0) (ci := 5) (j := 1) (T := TX5) rfl (show 0 < (1:Nat) by decide) rfl in_c_X5_deliverAll_X5 (by decide) (by decide +kernel) rfl dX5_deliverAll_59 ?_
          refine wk_iload_n C rfl dX5_deliverAll_62 ?_
          refine wk_aald C (k := 2) rfl rfl (show 0 < (1:Nat) by decide) (Nat.le_of_ble_eq_true rfl) (k) (by omega) (show _ < (16:Nat) by omega) dX5_deliverAll_63 ?_
          refine wk_dup C dX5_deliverAll_64 ?_
          refine wk_getiN C (k := 10) (ci := 1) (j := 2) (T := TX1) (host := RX5) rfl (show _ < (16:Nat) by omega) rfl in_c_X5_deliverAll_X1 (by decide) (by decide +kernel) rfl dX5_deliverAll_65 ?_
          rw [(hC2.2.2.1 k (by omega)).1, ab_got_o _ _ _ _ _ (by omega)]
          refine wk_iconst C dX5_deliverAll_68 ?_
          refine wk_isub C dX5_deliverAll_69 ?_
          refine wk_putN C (k := 10) (ci := 1) (j := 2) (T := TX1) (host := RX5) rfl (show _ < (16:Nat) by omega) rfl in_c_X5_deliverAll_X1 tyX1 tyX1_ok nmX1 (by decide) (by decide +kernel) rfl rfl (by decide +kernel) dX5_deliverAll_70 ?_
          refine wk_aload C rfl dX5_deliverAll_73 ?_
          refine wk_iload_n C rfl dX5_deliverAll_75 ?_
          refine wk_ofV C (wk_runN (host := RX5) (index := 275) (ci := 2) (st := []) C (c_X2_drop l g hI _ (16 + k) (by omega) sl hs (hC3.2.2.2.1 (16 + k) (by omega)).2.2.1) ⟨va_cnB 1 C.2.2.2.2.1 gX5_deliverAll_X2_drop_n275 rfl rfl rfl (C.2.2.2.2.2.1.2 _ (by decide +kernel)) (C.2.2.2.2.1 (.initialized RX2) (by decide +kernel)) (by decide +kernel) ⟨Nat.le_of_ble_eq_true rfl, Nat.le_of_ble_eq_true rfl⟩, C.2.2.2.2.1 (.instanceMethod yX2_drop) (by decide +kernel), C.2.2.2.2.1 (.selects RX2 yX2_drop yX2_drop) (by decide +kernel)⟩ rfl (show _ < (64:Nat) by omega) rfl rfl rfl (Nat.le_of_ble_eq_true rfl) dX5_deliverAll_76 ⟨Nat.zero_le _, Nat.zero_le _⟩) (fun σ76 hp76 => ?_)
          subst hp76
          refine wk_iinc C rfl (by decide) dX5_deliverAll_79 ?_
          refine wk_iinc C rfl (by decide) dX5_deliverAll_82 ?_
          refine wk_goto C 4 (by decide) dX5_deliverAll_85 ?_
          refine wk_le ?_ (ih (k + 1) _ (by omega) (by omega) ?_)
          · rw [ab_dlvC]
            first
              | (rw [if_pos hpos]; repeat (first | exact le_0 | refine le_s ?_ | refine le_n ?_))
              | (rw [if_neg (by omega), Int.add_zero]; repeat (first | exact le_0 | refine le_s ?_ | refine le_n ?_))
          · rw [ab_dlvN, ab_dlv]
            first
              | (rw [if_pos hpos]; exact hC4)
              | (rw [if_neg (by omega)]; exact h3)
  exact hl4 17 0 σ (by omega) (by omega) hC
