theorem in_c_X5_sendAll_X1 : ∀ w ∈ u_ws RX1 TX1 4, w ∈ wsX5_sendAll := by decide +kernel
theorem in_c_X5_sendAll_X2 : ∀ w ∈ u_ws RX2 TX2 7, w ∈ wsX5_sendAll := by decide +kernel
theorem in_c_X5_sendAll_X5 : ∀ w ∈ u_ws RX5 TX5 13, w ∈ wsX5_sendAll := by decide +kernel
set_option maxRecDepth 100000 in
set_option maxHeartbeats 4000000 in
/-- sendAll -/
theorem c_X5_sendAll (l : Launch) (g : am_g) (hI : am_inj (gC g)) (σ : am_M) (S : ab_S) (b : Int) (hS : ab_I S b) (hb : b + 16 ≤ 100000000) (hC : ab_C (ab_MS S 0) σ) : Met l yX5_sendAll wsX5_sendAll ({ frames := 4, cells := 0, slots := 0, locals := 89 }) (am_P (gC g) σ [.inr (0, 0)]) (am_QV (gC g) (fun σ' => ab_C (ab_MS S 16) σ')) 0 0 (am_FA (gC g)) := by
  refine wk_start (cc := cX5_sendAll) (nL := 4) (ret := none) (own := RX5) (by decide) rfl hI rfl (Nat.le_of_ble_eq_true rfl) ?_
  intro p e s m below meth c C hr hlk
  change wk _ p l e _ s m _ below meth c 0 0 _ _ _ _ 0 [some (.inr (0, 0)), none, none, none] [] σ
  have hn24 := hS.2.1.2.2.2.2
  refine wk_iconst C dX5_sendAll_0 ?_
  refine wk_istore_n C (by decide) (Nat.le_of_ble_eq_true rfl) dX5_sendAll_1 ?_
  have hl2 : ∀ (d k : Nat) (σ1 : am_M), 17 ≤ k + d → k ≤ 16 → ab_C (ab_MS S k) σ1 → wk (gC g) p l e (headSpec wsX5_sendAll ({ frames := 4, cells := 0, slots := 0, locals := 89 })).room s m ([.inr (0, 0)].map (am_tv (gC g))).toArray below meth c 0 0 (MQ below (am_QV (gC g) (fun σ' => ab_C (ab_MS S 16) σ')) ([.inr (0, 0)].map (am_tv (gC g))).toArray s 0 0 (am_FA (gC g))) (am_FA (gC g)) s.heap 4 2 [some (.inr (0, 0)), some (.inl ((k : Nat) : Int)), none, none] [] σ1 := by
    intro d
    induction d with
    | zero => intro k σ1 h1 h2 h3; omega
    | succ d ih =>
      intro k σ1 h1 h2 h3
      refine wk_iload_n C rfl dX5_sendAll_2 ?_
      refine wk_bipush C (n := 16) (by decide) dX5_sendAll_3 ?_
      refine wk_icmp_ge C 60 (by omega) (by omega) (by decide) dX5_sendAll_5 (fun hc5 => ?_) (fun hc5 => ?_)
      · skip
        refine wk_vret C hr hlk dX5_sendAll_60 ?_
        have h4 : k = 16 := by omega
        subst h4
        exact h3
      · skip
        have hk : k < 16 := by omega
        have hMI := I_MS hS hb (k := k) (by omega)
        have hc4 := (h3.2.2.2.1 k (by omega)).2.1
        rw [MS_13 hk] at hc4
        have hl4 := (h3.2.2.1 k hk).2
        rw [MS_17] at hl4
        have hs4 := hS.s4 (L := k) (by omega)
        have hsl := (hS.2.2.2.2.2.1 k hk).2
        refine wk_aload_n C rfl dX5_sendAll_8 ?_
        refine wk_getr C (k := 0) (ci := 5) (j := 1) (T := TX5) rfl (show 0 < (1:Nat) by decide) rfl in_c_X5_sendAll_X5 (by decide) (by decide +kernel) rfl dX5_sendAll_9 ?_
        refine wk_iload_n C rfl dX5_sendAll_12 ?_
        refine wk_aald C (k := 2) rfl rfl (show 0 < (1:Nat) by decide) (Nat.le_of_ble_eq_true rfl) (k) (by omega) (show _ < (16:Nat) by omega) dX5_sendAll_13 ?_
        refine wk_astore_n C (by decide) (Nat.le_of_ble_eq_true rfl) dX5_sendAll_14 ?_
        refine wk_aload_n C rfl dX5_sendAll_15 ?_
        refine wk_getrN C (k := 10) (ci := 1) (j := 0) (T := TX1) (host := RX5) rfl (show _ < (16:Nat) by omega) rfl in_c_X5_sendAll_X1 (by decide) (by decide +kernel) rfl dX5_sendAll_16 ?_
        refine wk_getiN C (k := 11) (ci := 2) (j := 4) (T := TX2) (host := RX5) rfl (show _ < (64:Nat) by omega) rfl in_c_X5_sendAll_X2 (by decide) (by decide +kernel) rfl dX5_sendAll_19 ?_
        rw [hc4]
        refine wk_if_le C 54 (by omega) (by decide) dX5_sendAll_22 (fun hc22 => ?_) (fun hc22 => ?_)
        · skip
          have hF : ab_F S k = -1 := by unfold ab_F ab_self; rw [if_neg (by omega)]
          have hfin : ab_C (ab_MS S (k + 1)) σ1 := by rw [MS_same hF]; exact h3
          refine wk_iinc C rfl (by decide) dX5_sendAll_54 ?_
          refine wk_goto C 2 (by decide) dX5_sendAll_57 ?_
          refine wk_le ?_ (ih (k + 1) _ (by omega) (by omega) hfin)
          repeat (first | exact le_0 | refine le_s ?_ | refine le_n ?_)
        · skip
          refine wk_aload_n C rfl dX5_sendAll_25 ?_
          refine wk_iload_n C rfl dX5_sendAll_26 ?_
          refine wk_aload_n C rfl dX5_sendAll_27 ?_
          refine wk_getiN C (k := 10) (ci := 1) (j := 3) (T := TX1) (host := RX5) rfl (show _ < (16:Nat) by omega) rfl in_c_X5_sendAll_X1 (by decide) (by decide +kernel) rfl dX5_sendAll_28 ?_
          rw [hl4]
          refine wk_ofI C (wk_runV (index := 307) (ci := 5) (st := []) C (c_X5_pickedFlow l g hI _ k (S 17 k) hk hsl (ab_MS S k) (b + 16) h3 hMI) (cwV 2 C.2.2.2.2.1 gX5_sendAll_X5_pickedFlow rfl rfl rfl (by decide +kernel) ⟨Nat.le_of_ble_eq_true rfl, Nat.le_of_ble_eq_true rfl⟩) rfl (show 0 < (1:Nat) by decide) rfl rfl rfl (Nat.le_of_ble_eq_true rfl) dX5_sendAll_31 ⟨Nat.zero_le _, Nat.zero_le _⟩) (fun r31 σ31 hp31 => ?_)
          obtain ⟨hsg31, rfl⟩ := hp31
          rw [hsg31]
          rw [MS_pf hk hc22]
          refine wk_istore_n C (by decide) (Nat.le_of_ble_eq_true rfl) dX5_sendAll_34 ?_
          refine wk_iload_n C rfl dX5_sendAll_35 ?_
          have hFr := F_rng hS (k := k)
          refine wk_iconst C dX5_sendAll_36 ?_
          refine wk_icmp_eq C 54 (by omega) (by omega) (by decide) dX5_sendAll_37 (fun hc37 => ?_) (fun hc37 => ?_)
          · skip
            have hfin : ab_C (ab_MS S (k + 1)) σ1 := by rw [MS_same hc37]; exact h3
            refine wk_iinc C rfl (by decide) dX5_sendAll_54 ?_
            refine wk_goto C 2 (by decide) dX5_sendAll_57 ?_
            refine wk_le ?_ (ih (k + 1) _ (by omega) (by omega) hfin)
            repeat (first | exact le_0 | refine le_s ?_ | refine le_n ?_)
          · skip
            obtain ⟨f, hF⟩ : ∃ f : Nat, ab_F S k = (f : Int) := ⟨(ab_F S k).toNat, by omega⟩
            rw [hF]
            obtain ⟨f1, f2, f3, f4⟩ := F_fact hS (k := k) hc37
            rw [hF, Int.toNat_natCast] at f4
            rw [hF] at f2
            have hmf := may_fact f4
            have hC2 := C_host h3 (k := k) (j := 3) (Or.inr rfl) (f : Int)
            have hT2 := I_last hMI (x := (f : Int)) (by omega) k
            have hZl := Z_lk (Y2 := ab_Yk 48) (Y := ab_Yk 48) (K := k) hS (L := k) (by omega)
            have h13 := MS_13 (S := S) hk
            have hdr := D_rng (Y := ab_Yk 48) hS (L := k) (by omega)
            have hcg := cg_many (S := S) (T := ab_u (ab_MS S k) 17 k (f : Int)) (f := f) (by rw [ab_u_app, if_neg (by omega)]; exact MS_o (by omega) f) (by rw [ab_u_app, if_neg (by omega)]; exact MS_o (by omega) f) (fun i => by rw [ab_u_app, if_neg (by omega)]; exact MS_o (by omega) i)
            refine wk_aload_n C rfl dX5_sendAll_40 ?_
            refine wk_iload_n C rfl dX5_sendAll_41 ?_
            refine wk_putN C (k := 10) (ci := 1) (j := 3) (T := TX1) (host := RX5) rfl (show _ < (16:Nat) by omega) rfl in_c_X5_sendAll_X1 tyX1 tyX1_ok nmX1 (by decide) (by decide +kernel) rfl rfl (by decide +kernel) dX5_sendAll_42 ?_
            refine wk_aload_n C rfl dX5_sendAll_45 ?_
            refine wk_iload_n C rfl dX5_sendAll_46 ?_
            refine wk_aload_n C rfl dX5_sendAll_47 ?_
            refine wk_getrN C (k := 10) (ci := 1) (j := 0) (T := TX1) (host := RX5) rfl (show _ < (16:Nat) by omega) rfl in_c_X5_sendAll_X1 (by decide) (by decide +kernel) rfl dX5_sendAll_48 ?_
            refine wk_ofV C (wk_runV (index := 310) (ci := 5) (st := []) C (c_X5_send l g hI _ f k hk (ab_u (ab_MS S k) 17 k (f : Int)) (b + 16) hC2 hT2 (by rw [ab_u_app, if_neg (by omega), MS_o (by omega)]; exact f2) (by rw [ab_u_app, if_neg (by omega)]; unfold ab_MS at h13 ⊢; omega) (by rw [hcg.1, hcg.2]; exact hmf.2.2.2.1)) (cwV 2 C.2.2.2.2.1 gX5_sendAll_X5_send rfl rfl rfl (by decide +kernel) ⟨Nat.le_of_ble_eq_true rfl, Nat.le_of_ble_eq_true rfl⟩) rfl (show 0 < (1:Nat) by decide) rfl rfl rfl (Nat.le_of_ble_eq_true rfl) dX5_sendAll_51 ⟨Nat.zero_le _, Nat.zero_le _⟩) (fun σ51 hp51 => ?_)
            have hfin : ab_C (ab_MS S (k + 1)) σ51 := C_MS hS hk hF hp51
            refine wk_iinc C rfl (by decide) dX5_sendAll_54 ?_
            refine wk_goto C 2 (by decide) dX5_sendAll_57 ?_
            refine wk_le ?_ (ih (k + 1) _ (by omega) (by omega) hfin)
            repeat (first | exact le_0 | refine le_s ?_ | refine le_n ?_)
  refine wk_le ?_ (hl2 17 0 σ (by omega) (by omega) hC)
  repeat (first | exact le_0 | refine le_s ?_ | refine le_n ?_)

theorem in_c_X5_runTick_X5 : ∀ w ∈ u_ws RX5 TX5 13, w ∈ wsX5_runTick := by decide +kernel
set_option maxRecDepth 100000 in
set_option maxHeartbeats 4000000 in
/-- runTick -/
theorem c_X5_runTick (l : Launch) (g : am_g) (hI : am_inj (gC g)) (σ : am_M) (S : ab_S) (b : Int) (hC : ab_C S σ) (hS : ab_I S b) (hb : b + 48 ≤ 100000000) (hclk : S 19 3 < 100000) : Met l yX5_runTick wsX5_runTick ({ frames := 5, cells := 0, slots := 0, locals := 112 }) (am_P (gC g) σ [.inr (0, 0)]) (am_QI (gC g) (fun r σ' => ab_C (ab_tick S) σ' ∧ r = ab_tickC S)) 0 0 (am_FA (gC g)) := by
  refine wk_start (cc := cX5_runTick) (nL := 3) (ret := (some .int)) (own := RX5) (by decide) rfl hI rfl (Nat.le_of_ble_eq_true rfl) ?_
  intro p e s m below meth c C hr hlk
  change wk _ p l e _ s m _ below meth c 0 0 _ _ _ _ 0 [some (.inr (0, 0)), none, none] [] σ
  have hc0 := hS.2.1
  have hA := tick_o S
  have hI1 : ab_I (ab_back S 64) b := I_back hS
  have hI2 : ab_I (ab_dlvN (ab_back S 64) 16) (b + 16) := I_dlvN hI1 (by omega) 16 (by omega)
  have hI3 : ab_I (ab_loseN (ab_dlvN (ab_back S 64) 16) 16) (b + 32) := by
    have := I_loseN hI2 (by omega) 16 (by omega)
    rw [show b + 32 = b + 16 + ((16 : Nat) : Int) by omega]
    exact this
  have hI4 : ab_I (ab_tA S) (b + 32) := I_tA hS hb
  have hT1 : ab_T (ab_back S 64) = ab_T S := ab_T_cg hA.1
  have hT2 : ab_T (ab_dlvN (ab_back S 64) 16) = ab_T S := ab_T_cg hA.2.1
  have hT4 : ab_T (ab_tA S) = ab_T S := ab_T_cg hA.2.2.2
  refine wk_aload_n C rfl dX5_runTick_0 ?_
  refine wk_geti C (k := 0) (ci := 5) (j := 9) (T := TX5) rfl (show 0 < (1:Nat) by decide) rfl in_c_X5_runTick_X5 (by decide) (by decide +kernel) rfl dX5_runTick_1 ?_
  rw [hC.1.2.1]
  refine wk_iconst C dX5_runTick_4 ?_
  refine wk_iadd C dX5_runTick_5 ?_
  refine wk_aload_n C rfl dX5_runTick_6 ?_
  refine wk_geti C (k := 0) (ci := 5) (j := 10) (T := TX5) rfl (show 0 < (1:Nat) by decide) rfl in_c_X5_runTick_X5 (by decide) (by decide +kernel) rfl dX5_runTick_7 ?_
  rw [hC.1.2.2.1]
  refine wk_iadd C dX5_runTick_10 ?_
  refine wk_bipush C (n := 7) (by decide) dX5_runTick_11 ?_
  refine wk_irem C (by omega) (by omega) dX5_runTick_13 ?_
  rw [show (S 19 3 + 1 + S 19 0) % 7 = ((ab_T S % 7 : Nat) : Int) by unfold ab_T; omega]
  refine wk_istore_n C (by decide) (Nat.le_of_ble_eq_true rfl) dX5_runTick_14 ?_
  refine wk_aload_n C rfl dX5_runTick_15 ?_
  refine wk_ofV C (wk_runV (index := 233) (ci := 5) (st := []) C (c_X5_takeCreditsBack l g hI _ S b hC hS) (cwV 0 C.2.2.2.2.1 gX5_runTick_X5_takeCreditsBack rfl rfl rfl (by decide +kernel) ⟨Nat.le_of_ble_eq_true rfl, Nat.le_of_ble_eq_true rfl⟩) rfl (show 0 < (1:Nat) by decide) rfl rfl rfl (Nat.le_of_ble_eq_true rfl) dX5_runTick_16 ⟨Nat.zero_le _, Nat.zero_le _⟩) (fun σ16 hp16 => ?_)
  refine wk_aload_n C rfl dX5_runTick_19 ?_
  refine wk_iload_n C rfl dX5_runTick_20 ?_
  refine wk_ofI C (wk_runV (index := 236) (ci := 5) (st := []) C (c_X5_deliverAll l g hI _ (ab_T S % 7) (by omega) (ab_back S 64) b hp16 hI1 (by omega) (by rw [hT1])) (cwV 1 C.2.2.2.2.1 gX5_runTick_X5_deliverAll rfl rfl rfl (by decide +kernel) ⟨Nat.le_of_ble_eq_true rfl, Nat.le_of_ble_eq_true rfl⟩) rfl (show 0 < (1:Nat) by decide) rfl rfl rfl (Nat.le_of_ble_eq_true rfl) dX5_runTick_21 ⟨Nat.zero_le _, Nat.zero_le _⟩) (fun r21 σ21 hp21 => ?_)
  obtain ⟨hC21, rfl⟩ := hp21
  refine wk_istore_n C (by decide) (Nat.le_of_ble_eq_true rfl) dX5_runTick_24 ?_
  refine wk_aload_n C rfl dX5_runTick_25 ?_
  refine wk_iload_n C rfl dX5_runTick_26 ?_
  refine wk_ofV C (wk_runV (index := 239) (ci := 5) (st := []) C (c_X5_loseAtSpines l g hI _ (ab_T S % 7) (by omega) (ab_dlvN (ab_back S 64) 16) (b + 16) hC21 hI2 (by omega) (by rw [hT2])) (cwV 1 C.2.2.2.2.1 gX5_runTick_X5_loseAtSpines rfl rfl rfl (by decide +kernel) ⟨Nat.le_of_ble_eq_true rfl, Nat.le_of_ble_eq_true rfl⟩) rfl (show 0 < (1:Nat) by decide) rfl rfl rfl (Nat.le_of_ble_eq_true rfl) dX5_runTick_27 ⟨Nat.zero_le _, Nat.zero_le _⟩) (fun σ27 hp27 => ?_)
  refine wk_aload_n C rfl dX5_runTick_30 ?_
  refine wk_ofV C (wk_runV (index := 242) (ci := 5) (st := []) C (c_X5_aimAtLeaves l g hI _ (ab_loseN (ab_dlvN (ab_back S 64) 16) 16) (b + 32) hp27 hI3) (cwV 0 C.2.2.2.2.1 gX5_runTick_X5_aimAtLeaves rfl rfl rfl (by decide +kernel) ⟨Nat.le_of_ble_eq_true rfl, Nat.le_of_ble_eq_true rfl⟩) rfl (show 0 < (1:Nat) by decide) rfl rfl rfl (Nat.le_of_ble_eq_true rfl) dX5_runTick_31 ⟨Nat.zero_le _, Nat.zero_le _⟩) (fun σ31 hp31 => ?_)
  obtain ⟨hC31, hW31⟩ := hp31
  refine wk_aload_n C rfl dX5_runTick_34 ?_
  refine wk_ofV C (wk_runV (index := 245) (ci := 5) (st := []) C (c_X5_aimAtSpines l g hI _ (ab_tA S) (b + 32) hC31 hI4) (cwV 0 C.2.2.2.2.1 gX5_runTick_X5_aimAtSpines rfl rfl rfl (by decide +kernel) ⟨Nat.le_of_ble_eq_true rfl, Nat.le_of_ble_eq_true rfl⟩) rfl (show 0 < (1:Nat) by decide) rfl rfl rfl (Nat.le_of_ble_eq_true rfl) dX5_runTick_35 ⟨Nat.zero_le _, Nat.zero_le _⟩) (fun σ35 hp35 => ?_)
  obtain ⟨hC35, hk35, hW35⟩ := hp35
  have hWN : ab_WN (ab_tA S) σ35 := ⟨fun n j hn hj => (hk35 n j hn).trans (hW31 n j hn hj), fun n j hn hj => hW35 n j hn hj⟩
  refine wk_aload_n C rfl dX5_runTick_38 ?_
  refine wk_ofV C (wk_runV (index := 248) (ci := 5) (st := []) C (c_X5_pickAll l g hI _ (ab_tA S) (b + 32) hI4 hC35 hWN) (cwV 0 C.2.2.2.2.1 gX5_runTick_X5_pickAll rfl rfl rfl (by decide +kernel) ⟨Nat.le_of_ble_eq_true rfl, Nat.le_of_ble_eq_true rfl⟩) rfl (show 0 < (1:Nat) by decide) rfl rfl rfl (Nat.le_of_ble_eq_true rfl) dX5_runTick_39 ⟨Nat.zero_le _, Nat.zero_le _⟩) (fun σ39 hp39 => ?_)
  obtain ⟨hC39, hW39, hK39⟩ := hp39
  refine wk_aload_n C rfl dX5_runTick_42 ?_
  refine wk_iload_n C rfl dX5_runTick_43 ?_
  refine wk_ofV C (wk_runV (index := 251) (ci := 5) (st := []) C (c_X5_moveAll l g hI _ (ab_T S % 7) (by omega) (ab_tA S) (b + 32) hI4 hC39 hK39 (by rw [hT4])) (cwV 1 C.2.2.2.2.1 gX5_runTick_X5_moveAll rfl rfl rfl (by decide +kernel) ⟨Nat.le_of_ble_eq_true rfl, Nat.le_of_ble_eq_true rfl⟩) rfl (show 0 < (1:Nat) by decide) rfl rfl rfl (Nat.le_of_ble_eq_true rfl) dX5_runTick_44 ⟨Nat.zero_le _, Nat.zero_le _⟩) (fun σ44 hp44 => ?_)
  refine wk_aload_n C rfl dX5_runTick_47 ?_
  refine wk_ofV C (wk_runV (index := 254) (ci := 5) (st := []) C (c_X5_sendAll l g hI _ (ab_tA S) (b + 32) hI4 (by omega) hp44) (cwV 0 C.2.2.2.2.1 gX5_runTick_X5_sendAll rfl rfl rfl (by decide +kernel) ⟨Nat.le_of_ble_eq_true rfl, Nat.le_of_ble_eq_true rfl⟩) rfl (show 0 < (1:Nat) by decide) rfl rfl rfl (Nat.le_of_ble_eq_true rfl) dX5_runTick_48 ⟨Nat.zero_le _, Nat.zero_le _⟩) (fun σ48 hp48 => ?_)
  have hfin := C_tickN hS hb hp48
  have hnt := hp48.1.2.1
  rw [MS_o (by omega), show ab_tA S 19 3 = S 19 3 from hA.2.2.2 3] at hnt
  refine wk_aload_n C rfl dX5_runTick_51 ?_
  refine wk_dup C dX5_runTick_52 ?_
  refine wk_geti C (k := 0) (ci := 5) (j := 9) (T := TX5) rfl (show 0 < (1:Nat) by decide) rfl in_c_X5_runTick_X5 (by decide) (by decide +kernel) rfl dX5_runTick_53 ?_
  rw [hnt]
  refine wk_iconst C dX5_runTick_56 ?_
  refine wk_iadd C dX5_runTick_57 ?_
  refine wk_put C (k := 0) (ci := 5) (j := 9) (T := TX5) rfl (show 0 < (1:Nat) by decide) rfl in_c_X5_runTick_X5 tyX5 tyX5_ok nmX5 (by decide) (by decide +kernel) rfl rfl (by decide +kernel) dX5_runTick_58 ?_
  refine wk_iload_n C rfl dX5_runTick_61 ?_
  refine wk_iret C hr hlk dX5_runTick_62 ?_
  exact ⟨hfin, rfl⟩
