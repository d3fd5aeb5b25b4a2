theorem in_c_X5_wantedAtLeaf_X0 : ∀ w ∈ u_ws RX0 TX0 13, w ∈ wsX5_wantedAtLeaf := by decide +kernel
theorem in_c_X5_wantedAtLeaf_X2 : ∀ w ∈ u_ws RX2 TX2 7, w ∈ wsX5_wantedAtLeaf := by decide +kernel
theorem in_c_X5_wantedAtLeaf_X4 : ∀ w ∈ u_ws RX4 TX4 4, w ∈ wsX5_wantedAtLeaf := by decide +kernel
theorem in_c_X5_wantedAtLeaf_X5 : ∀ w ∈ u_ws RX5 TX5 13, w ∈ wsX5_wantedAtLeaf := by decide +kernel
set_option maxRecDepth 100000 in
set_option maxHeartbeats 4000000 in
/-- wantedAtLeaf -/
theorem c_X5_wantedAtLeaf (l : Launch) (g : am_g) (hI : am_inj (gC g)) (σ : am_M) (n q : Nat) (hnq : ab_nq n q) (S : ab_S) (b : Int) (hC : ab_C S σ) (hS : ab_I S b) : Met l yX5_wantedAtLeaf wsX5_wantedAtLeaf ({ frames := 2, cells := 0, slots := 0, locals := 49 }) (am_P (gC g) σ [.inr (0, 0), .inl ((n : Nat) : Int), .inr (11, q)]) (am_QI (gC g) (fun r σ' => ab_C (ab_ch S q) σ' ∧ r = ab_wl (ab_ch S q) n q ∧ ∀ k i j, ¬ k = 14 → σ' k i j = σ k i j)) 0 0 (am_FA (gC g)) := by
  refine wk_start (cc := cX5_wantedAtLeaf) (nL := 6) (ret := (some .int)) (own := RX5) (by decide) rfl hI rfl (Nat.le_of_ble_eq_true rfl) ?_
  intro p e s m below meth c C hr hlk
  change wk _ p l e _ s m _ below meth c 0 0 _ _ _ _ 0 [some (.inr (0, 0)), some (.inl ((n : Nat) : Int)), some (.inr (11, q)), none, none, none] [] σ
  have hnq2 := hnq
  unfold ab_nq at hnq2
  have hq64 : q < 64 := by omega
  have hL4 := hC.2.2.2.1 q hq64
  have hs4 := hS.s4 hq64
  refine wk_aload_n C rfl dX5_wantedAtLeaf_0 ?_
  refine wk_getiN C (k := 11) (ci := 2) (j := 3) (T := TX2) (host := RX5) rfl (show _ < (64:Nat) by omega) rfl in_c_X5_wantedAtLeaf_X2 (by decide) (by decide +kernel) rfl dX5_wantedAtLeaf_1 ?_
  rw [hL4.1]
  refine wk_if_ne C 9 (by omega) (by decide) dX5_wantedAtLeaf_4 (fun hc4 => ?_) (fun hc4 => ?_)
  · skip
    have hpos : 0 < S 14 q := by omega
    obtain ⟨hfl, hfn, hif, hq21, hq22, hq23, hq6, hq7, hq8⟩ := ab_hd hS hq64 hpos
    obtain ⟨hlb, hlb4, hla, hla4⟩ := ab_lbv hif
    have hif0 := hif.1
    have hif1 := hif.2.1
    have hn24 := hS.2.1.2.2.2.2
    have hb1 := hS.1
    have hcf : ∀ j, j < 13 → σ 9 (ab_fl S q) j = S j (ab_fl S q) := fun j hj => hC.2.1 _ j hfn hj
    have hpk : ∀ x, x < 4 → σ 14 (4 * q + (σ 11 q 2).toNat) x = S (20 + x) (4 * q) := fun x hx => by
      have := hC.2.2.2.2.1 q 0 x hq64 (by simpa using hpos) hx
      rw [show (σ 11 q 2 + ((0 : Nat) : Int)) % 4 = σ 11 q 2 by omega] at this
      exact this
    refine wk_aload_n C rfl dX5_wantedAtLeaf_9 ?_
    refine wk_ofR C (wk_runN (host := RX5) (index := 260) (ci := 2) (st := []) C (c_X2_firstPacket l g hI _ q hq64 hL4.2.2.1) ⟨va_cnB 0 C.2.2.2.2.1 gX5_wantedAtLeaf_X2_firstPacket_n260 rfl rfl rfl (C.2.2.2.2.2.1.2 _ (by decide +kernel)) (C.2.2.2.2.1 (.initialized RX2) (by decide +kernel)) (by decide +kernel) ⟨Nat.le_of_ble_eq_true rfl, Nat.le_of_ble_eq_true rfl⟩, C.2.2.2.2.1 (.instanceMethod yX2_firstPacket) (by decide +kernel), C.2.2.2.2.1 (.selects RX2 yX2_firstPacket yX2_firstPacket) (by decide +kernel)⟩ rfl (show _ < (64:Nat) by omega) rfl rfl rfl (Nat.le_of_ble_eq_true rfl) dX5_wantedAtLeaf_10 ⟨Nat.zero_le _, Nat.zero_le _⟩) (fun r10 σ10 hp10 => ?_)
    obtain ⟨hsg10, rfl⟩ := hp10
    rw [hsg10]
    refine wk_astore_n C (by decide) (Nat.le_of_ble_eq_true rfl) dX5_wantedAtLeaf_13 ?_
    refine wk_aload_n C rfl dX5_wantedAtLeaf_14 ?_
    refine wk_getr C (k := 0) (ci := 5) (j := 0) (T := TX5) rfl (show 0 < (1:Nat) by decide) rfl in_c_X5_wantedAtLeaf_X5 (by decide) (by decide +kernel) rfl dX5_wantedAtLeaf_15 ?_
    refine wk_aload_n C rfl dX5_wantedAtLeaf_18 ?_
    refine wk_getiN C (k := 14) (ci := 4) (j := 0) (T := TX4) (host := RX5) rfl (show _ < (256:Nat) by omega) rfl in_c_X5_wantedAtLeaf_X4 (by decide) (by decide +kernel) rfl dX5_wantedAtLeaf_19 ?_
    rw [hpk 0 (by omega)]
    simp only [Nat.add_zero]
    rw [← hfl]
    refine wk_aald C (k := 1) rfl rfl (show 0 < (1:Nat) by decide) (Nat.le_of_ble_eq_true rfl) ((ab_fl S q)) rfl (show _ < (24:Nat) by omega) dX5_wantedAtLeaf_22 ?_
    refine wk_astore C (by decide) (Nat.le_of_ble_eq_true rfl) dX5_wantedAtLeaf_23 ?_
    refine wk_aload C rfl dX5_wantedAtLeaf_25 ?_
    refine wk_ofI C (wk_runN (host := RX5) (index := 230) (ci := 0) (st := []) C (c_X0_targetLeaf l g hI _ (ab_fl S q) (by omega) (by rw [hcf 1 (by omega)]; exact hif1)) ⟨va_cnB 0 C.2.2.2.2.1 gX5_wantedAtLeaf_X0_targetLeaf_n230 rfl rfl rfl (C.2.2.2.2.2.1.2 _ (by decide +kernel)) (C.2.2.2.2.1 (.initialized RX0) (by decide +kernel)) (by decide +kernel) ⟨Nat.le_of_ble_eq_true rfl, Nat.le_of_ble_eq_true rfl⟩, C.2.2.2.2.1 (.instanceMethod yX0_targetLeaf) (by decide +kernel), C.2.2.2.2.1 (.selects RX0 yX0_targetLeaf yX0_targetLeaf) (by decide +kernel)⟩ rfl (show _ < (24:Nat) by omega) rfl rfl rfl (Nat.le_of_ble_eq_true rfl) dX5_wantedAtLeaf_27 ⟨Nat.zero_le _, Nat.zero_le _⟩) (fun r27 σ27 hp27 => ?_)
    obtain ⟨hsg27, rfl⟩ := hp27
    rw [hsg27]
    rw [hcf 1 (by omega), ← hlb]
    refine wk_iload_n C rfl dX5_wantedAtLeaf_30 ?_
    refine wk_icmp_ne C 42 (by omega) (by omega) (by decide) dX5_wantedAtLeaf_31 (fun hc31 => ?_) (fun hc31 => ?_)
    · skip
      have hl : ¬ ab_lb S (ab_fl S q) = n := by omega
      obtain ⟨q1, q2, q3, q4, q5, q6, q7⟩ := wl_q hS hnq hpos hl
      refine wk_aload_n C rfl dX5_wantedAtLeaf_42 ?_
      refine wk_aload_n C rfl dX5_wantedAtLeaf_43 ?_
      refine wk_getiN C (k := 14) (ci := 4) (j := 3) (T := TX4) (host := RX5) rfl (show _ < (256:Nat) by omega) rfl in_c_X5_wantedAtLeaf_X4 (by decide) (by decide +kernel) rfl dX5_wantedAtLeaf_44 ?_
      rw [hpk 3 (by omega)]
      simp only [Nat.reduceAdd]
      rw [show S 23 (4 * q) = (((S 23 (4 * q)).toNat : Nat) : Int) from (Int.toNat_of_nonneg q7).symm]
      refine wk_iload_n C rfl dX5_wantedAtLeaf_47 ?_
      refine wk_aload C rfl dX5_wantedAtLeaf_48 ?_
      refine wk_ofI C (wk_runN (host := RX5) (index := 230) (ci := 0) (st := [_, _, _]) C (c_X0_targetLeaf l g hI _ (ab_fl S q) (by omega) (by rw [hcf 1 (by omega)]; exact hif1)) ⟨va_cnB 0 C.2.2.2.2.1 gX5_wantedAtLeaf_X0_targetLeaf_n230 rfl rfl rfl (C.2.2.2.2.2.1.2 _ (by decide +kernel)) (C.2.2.2.2.1 (.initialized RX0) (by decide +kernel)) (by decide +kernel) ⟨Nat.le_of_ble_eq_true rfl, Nat.le_of_ble_eq_true rfl⟩, C.2.2.2.2.1 (.instanceMethod yX0_targetLeaf) (by decide +kernel), C.2.2.2.2.1 (.selects RX0 yX0_targetLeaf yX0_targetLeaf) (by decide +kernel)⟩ rfl (show _ < (24:Nat) by omega) rfl rfl rfl (Nat.le_of_ble_eq_true rfl) dX5_wantedAtLeaf_50 ⟨Nat.zero_le _, Nat.zero_le _⟩) (fun r50 σ50 hp50 => ?_)
      obtain ⟨hsg50, rfl⟩ := hp50
      rw [hsg50]
      rw [hcf 1 (by omega), ← hlb]
      refine wk_ofI C (wk_runV (index := 286) (ci := 5) (st := []) C (c_X5_isUsable l g hI _ (S 23 (4 * q)).toNat n (ab_lb S (ab_fl S q)) (by omega) (by omega) hlb4 S b hC hS) (cwV 3 C.2.2.2.2.1 gX5_wantedAtLeaf_X5_isUsable rfl rfl rfl (by decide +kernel) ⟨Nat.le_of_ble_eq_true rfl, Nat.le_of_ble_eq_true rfl⟩) rfl (show 0 < (1:Nat) by decide) rfl rfl rfl (Nat.le_of_ble_eq_true rfl) dX5_wantedAtLeaf_53 ⟨Nat.zero_le _, Nat.zero_le _⟩) (fun r53 σ53 hp53 => ?_)
      obtain ⟨hsg53, rfl⟩ := hp53
      rw [hsg53]
      have h1r := ab_1r (ab_us S n (ab_lb S (ab_fl S q)) (S 23 (4 * q)).toNat)
      refine wk_if_ne C 87 (by omega) (by decide) dX5_wantedAtLeaf_56 (fun hc56 => ?_) (fun hc56 => ?_)
      · skip
        have hu : ab_us S n (ab_lb S (ab_fl S q)) (S 23 (4 * q)).toNat = true := by
          cases hz : ab_us S n (ab_lb S (ab_fl S q)) (S 23 (4 * q)).toNat
          · rw [hz] at hc56; simp [ab_1] at hc56
          · rfl
        obtain ⟨w1, w2⟩ := wl_c hS hnq hpos hl hu
        have hCf : ab_C (ab_ch S q) σ := by rw [w1]; exact hC
        have hrf : 4 + S 23 (4 * q) = ab_wl (ab_ch S q) n q := by rw [w1, w2]
        have hkf : ∀ k i j, ¬ k = 14 → σ k i j = σ k i j := fun _ _ _ _ => rfl
        refine wk_iconst C dX5_wantedAtLeaf_87 ?_
        refine wk_aload_n C rfl dX5_wantedAtLeaf_88 ?_
        refine wk_getiN C (k := 14) (ci := 4) (j := 3) (T := TX4) (host := RX5) rfl (show _ < (256:Nat) by omega) rfl in_c_X5_wantedAtLeaf_X4 (by decide) (by decide +kernel) rfl dX5_wantedAtLeaf_89 ?_
        first
          | (rw [hpk 3 (by omega)]; simp only [Nat.reduceAdd])
          | (rw [am_up_app, if_pos ⟨rfl, rfl, rfl⟩])
        refine wk_iadd C dX5_wantedAtLeaf_92 ?_
        refine wk_iret C hr hlk dX5_wantedAtLeaf_93 ?_
        exact ⟨hCf, hrf, hkf⟩
      · skip
        have hu : ab_us S n (ab_lb S (ab_fl S q)) (S 23 (4 * q)).toNat = false := by
          cases hz : ab_us S n (ab_lb S (ab_fl S q)) (S 23 (4 * q)).toNat
          · rfl
          · rw [hz] at hc56; simp [ab_1] at hc56
        refine wk_aload_n C rfl dX5_wantedAtLeaf_59 ?_
        refine wk_aload_n C rfl dX5_wantedAtLeaf_60 ?_
        refine wk_getiN C (k := 14) (ci := 4) (j := 0) (T := TX4) (host := RX5) rfl (show _ < (256:Nat) by omega) rfl in_c_X5_wantedAtLeaf_X4 (by decide) (by decide +kernel) rfl dX5_wantedAtLeaf_61 ?_
        rw [hpk 0 (by omega)]
        simp only [Nat.add_zero]
        rw [← hfl]
        refine wk_aload_n C rfl dX5_wantedAtLeaf_64 ?_
        refine wk_getiN C (k := 14) (ci := 4) (j := 2) (T := TX4) (host := RX5) rfl (show _ < (256:Nat) by omega) rfl in_c_X5_wantedAtLeaf_X4 (by decide) (by decide +kernel) rfl dX5_wantedAtLeaf_65 ?_
        rw [hpk 2 (by omega)]
        simp only [Nat.reduceAdd]
        refine wk_ofI C (wk_runV (index := 292) (ci := 5) (st := []) C (c_X5_chosenSpine l g hI _ (ab_fl S q) (S 22 (4 * q)) S b hC hS hfn (by omega)) (cwV 2 C.2.2.2.2.1 gX5_wantedAtLeaf_X5_chosenSpine rfl rfl rfl (by decide +kernel) ⟨Nat.le_of_ble_eq_true rfl, Nat.le_of_ble_eq_true rfl⟩) rfl (show 0 < (1:Nat) by decide) rfl rfl rfl (Nat.le_of_ble_eq_true rfl) dX5_wantedAtLeaf_68 ⟨Nat.zero_le _, Nat.zero_le _⟩) (fun r68 σ68 hp68 => ?_)
        obtain ⟨hsg68, rfl⟩ := hp68
        rw [hsg68]
        have hcr := ab_chosen_rng S (ab_fl S q) (S 22 (4 * q))
        refine wk_istore C (by decide) (Nat.le_of_ble_eq_true rfl) dX5_wantedAtLeaf_71 ?_
        refine wk_iload C rfl dX5_wantedAtLeaf_73 ?_
        refine wk_iconst C dX5_wantedAtLeaf_75 ?_
        refine wk_icmp_ne C 81 (by omega) (by omega) (by decide) dX5_wantedAtLeaf_76 (fun hc76 => ?_) (fun hc76 => ?_)
        · skip
          obtain ⟨w1, w2⟩ := wl_e hS hnq hpos hl hu hc76
          have hCf : ab_C (ab_ch S q) (am_up σ 14 (4 * q + (σ 11 q 2).toNat) 3 (ab_chosen S (ab_fl S q) (S 22 (4 * q)))) := by
            rw [w1]
            exact C_spine hC hq64 hpos (fun L hL => (hS.s4 hL).2.1) _
          have hrf : 4 + ab_chosen S (ab_fl S q) (S 22 (4 * q)) = ab_wl (ab_ch S q) n q := by rw [w1, w2]
          have hkf : ∀ k i j, ¬ k = 14 → am_up σ 14 (4 * q + (σ 11 q 2).toNat) 3 (ab_chosen S (ab_fl S q) (S 22 (4 * q))) k i j = σ k i j := fun k i j z => by rw [am_up_app, if_neg (by omega)]
          refine wk_aload_n C rfl dX5_wantedAtLeaf_81 ?_
          refine wk_iload C rfl dX5_wantedAtLeaf_82 ?_
          refine wk_putN C (k := 14) (ci := 4) (j := 3) (T := TX4) (host := RX5) rfl (show _ < (256:Nat) by omega) rfl in_c_X5_wantedAtLeaf_X4 tyX4 tyX4_ok nmX4 (by decide) (by decide +kernel) rfl rfl (by decide +kernel) dX5_wantedAtLeaf_84 ?_
          refine wk_iconst C dX5_wantedAtLeaf_87 ?_
          refine wk_aload_n C rfl dX5_wantedAtLeaf_88 ?_
          refine wk_getiN C (k := 14) (ci := 4) (j := 3) (T := TX4) (host := RX5) rfl (show _ < (256:Nat) by omega) rfl in_c_X5_wantedAtLeaf_X4 (by decide) (by decide +kernel) rfl dX5_wantedAtLeaf_89 ?_
          first
            | (rw [hpk 3 (by omega)]; simp only [Nat.reduceAdd])
            | (rw [am_up_app, if_pos ⟨rfl, rfl, rfl⟩])
          refine wk_iadd C dX5_wantedAtLeaf_92 ?_
          refine wk_iret C hr hlk dX5_wantedAtLeaf_93 ?_
          exact ⟨hCf, hrf, hkf⟩
        · skip
          obtain ⟨w1, w2⟩ := wl_d hS hnq hpos hl hu hc76
          refine wk_iconst C dX5_wantedAtLeaf_79 ?_
          refine wk_iret C hr hlk dX5_wantedAtLeaf_80 ?_
          rw [w1, w2]
          exact ⟨hC, rfl, fun _ _ _ _ => rfl⟩
    · skip
      have hl : ab_lb S (ab_fl S q) = n := by omega
      obtain ⟨w1, w2⟩ := wl_b hS hnq hpos hl
      refine wk_aload C rfl dX5_wantedAtLeaf_34 ?_
      refine wk_getiN C (k := 9) (ci := 0) (j := 1) (T := TX0) (host := RX5) rfl (show _ < (24:Nat) by omega) rfl in_c_X5_wantedAtLeaf_X0 (by decide) (by decide +kernel) rfl dX5_wantedAtLeaf_36 ?_
      rw [hcf 1 (by omega)]
      refine wk_iconst C dX5_wantedAtLeaf_39 ?_
      refine wk_irem C (by omega) (by omega) dX5_wantedAtLeaf_40 ?_
      refine wk_iret C hr hlk dX5_wantedAtLeaf_41 ?_
      rw [w1, w2]
      exact ⟨hC, rfl, fun _ _ _ _ => rfl⟩
  · skip
    refine wk_iconst C dX5_wantedAtLeaf_7 ?_
    refine wk_iret C hr hlk dX5_wantedAtLeaf_8 ?_
    obtain ⟨w1, w2⟩ := wl_a (n := n) hc4
    rw [w1, w2]
    exact ⟨hC, rfl, fun _ _ _ _ => rfl⟩

theorem in_c_X5_wantedAtSpine_X2 : ∀ w ∈ u_ws RX2 TX2 7, w ∈ wsX5_wantedAtSpine := by decide +kernel
theorem in_c_X5_wantedAtSpine_X4 : ∀ w ∈ u_ws RX4 TX4 4, w ∈ wsX5_wantedAtSpine := by decide +kernel
theorem in_c_X5_wantedAtSpine_X5 : ∀ w ∈ u_ws RX5 TX5 13, w ∈ wsX5_wantedAtSpine := by decide +kernel
set_option maxRecDepth 100000 in
set_option maxHeartbeats 4000000 in
/-- wantedAtSpine -/
theorem c_X5_wantedAtSpine (l : Launch) (g : am_g) (hI : am_inj (gC g)) (σ : am_M) (sp q : Nat) (hsp : sp < 4) (hq64 : q < 64) (S : ab_S) (b : Int) (hC : ab_C S σ) (hS : ab_I S b) : Met l yX5_wantedAtSpine wsX5_wantedAtSpine ({ frames := 1, cells := 0, slots := 0, locals := 22 }) (am_P (gC g) σ [.inr (0, 0), .inl ((sp : Nat) : Int), .inr (11, q)]) (am_QI (gC g) (fun r σ' => σ' = σ ∧ r = ab_ws S sp q)) 0 0 (am_FA (gC g)) := by
  refine wk_start (cc := cX5_wantedAtSpine) (nL := 4) (ret := (some .int)) (own := RX5) (by decide) rfl hI rfl (Nat.le_of_ble_eq_true rfl) ?_
  intro p e s m below meth c C hr hlk
  change wk _ p l e _ s m _ below meth c 0 0 _ _ _ _ 0 [some (.inr (0, 0)), some (.inl ((sp : Nat) : Int)), some (.inr (11, q)), none] [] σ
  have hL4 := hC.2.2.2.1 q hq64
  have hs4 := hS.s4 hq64
  refine wk_aload_n C rfl dX5_wantedAtSpine_0 ?_
  refine wk_getiN C (k := 11) (ci := 2) (j := 3) (T := TX2) (host := RX5) rfl (show _ < (64:Nat) by omega) rfl in_c_X5_wantedAtSpine_X2 (by decide) (by decide +kernel) rfl dX5_wantedAtSpine_1 ?_
  rw [hL4.1]
  refine wk_if_ne C 9 (by omega) (by decide) dX5_wantedAtSpine_4 (fun hc4 => ?_) (fun hc4 => ?_)
  · skip
    have hpos : 0 < S 14 q := by omega
    obtain ⟨hfl, hfn, hif, hq21, hq22, hq23, hq6, hq7, hq8⟩ := ab_hd hS hq64 hpos
    obtain ⟨hlb, hlb4, hla, hla4⟩ := ab_lbv hif
    have hif0 := hif.1
    have hif1 := hif.2.1
    have hn24 := hS.2.1.2.2.2.2
    have hb1 := hS.1
    have hcf : ∀ j, j < 13 → σ 9 (ab_fl S q) j = S j (ab_fl S q) := fun j hj => hC.2.1 _ j hfn hj
    have hpk : ∀ x, x < 4 → σ 14 (4 * q + (σ 11 q 2).toNat) x = S (20 + x) (4 * q) := fun x hx => by
      have := hC.2.2.2.2.1 q 0 x hq64 (by simpa using hpos) hx
      rw [show (σ 11 q 2 + ((0 : Nat) : Int)) % 4 = σ 11 q 2 by omega] at this
      exact this
    refine wk_aload_n C rfl dX5_wantedAtSpine_9 ?_
    refine wk_getr C (k := 0) (ci := 5) (j := 0) (T := TX5) rfl (show 0 < (1:Nat) by decide) rfl in_c_X5_wantedAtSpine_X5 (by decide) (by decide +kernel) rfl dX5_wantedAtSpine_10 ?_
    refine wk_aload_n C rfl dX5_wantedAtSpine_13 ?_
    refine wk_ofR C (wk_runN (host := RX5) (index := 260) (ci := 2) (st := [_]) C (c_X2_firstPacket l g hI _ q hq64 hL4.2.2.1) ⟨va_cnB 0 C.2.2.2.2.1 gX5_wantedAtSpine_X2_firstPacket_n260 rfl rfl rfl (C.2.2.2.2.2.1.2 _ (by decide +kernel)) (C.2.2.2.2.1 (.initialized RX2) (by decide +kernel)) (by decide +kernel) ⟨Nat.le_of_ble_eq_true rfl, Nat.le_of_ble_eq_true rfl⟩, C.2.2.2.2.1 (.instanceMethod yX2_firstPacket) (by decide +kernel), C.2.2.2.2.1 (.selects RX2 yX2_firstPacket yX2_firstPacket) (by decide +kernel)⟩ rfl (show _ < (64:Nat) by omega) rfl rfl rfl (Nat.le_of_ble_eq_true rfl) dX5_wantedAtSpine_14 ⟨Nat.zero_le _, Nat.zero_le _⟩) (fun r14 σ14 hp14 => ?_)
    obtain ⟨hsg14, rfl⟩ := hp14
    rw [hsg14]
    refine wk_getiN C (k := 14) (ci := 4) (j := 0) (T := TX4) (host := RX5) rfl (show _ < (256:Nat) by omega) rfl in_c_X5_wantedAtSpine_X4 (by decide) (by decide +kernel) rfl dX5_wantedAtSpine_17 ?_
    rw [hpk 0 (by omega)]
    simp only [Nat.add_zero]
    rw [← hfl]
    refine wk_aald C (k := 1) rfl rfl (show 0 < (1:Nat) by decide) (Nat.le_of_ble_eq_true rfl) ((ab_fl S q)) rfl (show _ < (24:Nat) by omega) dX5_wantedAtSpine_20 ?_
    refine wk_ofI C (wk_runN (host := RX5) (index := 230) (ci := 0) (st := []) C (c_X0_targetLeaf l g hI _ (ab_fl S q) (by omega) (by rw [hcf 1 (by omega)]; exact hif1)) ⟨va_cnB 0 C.2.2.2.2.1 gX5_wantedAtSpine_X0_targetLeaf_n230 rfl rfl rfl (C.2.2.2.2.2.1.2 _ (by decide +kernel)) (C.2.2.2.2.1 (.initialized RX0) (by decide +kernel)) (by decide +kernel) ⟨Nat.le_of_ble_eq_true rfl, Nat.le_of_ble_eq_true rfl⟩, C.2.2.2.2.1 (.instanceMethod yX0_targetLeaf) (by decide +kernel), C.2.2.2.2.1 (.selects RX0 yX0_targetLeaf yX0_targetLeaf) (by decide +kernel)⟩ rfl (show _ < (24:Nat) by omega) rfl rfl rfl (Nat.le_of_ble_eq_true rfl) dX5_wantedAtSpine_21 ⟨Nat.zero_le _, Nat.zero_le _⟩) (fun r21 σ21 hp21 => ?_)
    obtain ⟨hsg21, rfl⟩ := hp21
    rw [hsg21]
    rw [hcf 1 (by omega), ← hlb]
    refine wk_istore_n C (by decide) (Nat.le_of_ble_eq_true rfl) dX5_wantedAtSpine_24 ?_
    refine wk_aload_n C rfl dX5_wantedAtSpine_25 ?_
    refine wk_iload_n C rfl dX5_wantedAtSpine_26 ?_
    refine wk_iload_n C rfl dX5_wantedAtSpine_27 ?_
    refine wk_ofI C (wk_runV (index := 132) (ci := 5) (st := []) C (c_X5_isCut l g hI _ (ab_lb S (ab_fl S q)) sp hlb4 hsp S b hC hS) (cwV 2 C.2.2.2.2.1 gX5_wantedAtSpine_X5_isCut rfl rfl rfl (by decide +kernel) ⟨Nat.le_of_ble_eq_true rfl, Nat.le_of_ble_eq_true rfl⟩) rfl (show 0 < (1:Nat) by decide) rfl rfl rfl (Nat.le_of_ble_eq_true rfl) dX5_wantedAtSpine_28 ⟨Nat.zero_le _, Nat.zero_le _⟩) (fun r28 σ28 hp28 => ?_)
    obtain ⟨hsg28, rfl⟩ := hp28
    rw [hsg28]
    have h18 := hS.2.2.2.2.2.2.1 (4 * ab_lb S (ab_fl S q) + sp) (by omega)
    refine wk_if_eq C 38 (by omega) (by decide) dX5_wantedAtSpine_31 (fun hc31 => ?_) (fun hc31 => ?_)
    · skip
      refine wk_iload_n C rfl dX5_wantedAtSpine_38 ?_
      refine wk_iret C hr hlk dX5_wantedAtSpine_39 ?_
      refine ⟨rfl, ?_⟩
      rw [ab_ws, if_neg hc4]
      first
        | rw [if_pos hc31]
        | rw [if_neg hc31]
    · skip
      refine wk_iconst C dX5_wantedAtSpine_34 ?_
      refine wk_goto C 39 (by decide) dX5_wantedAtSpine_35 ?_
      refine wk_iret C hr hlk dX5_wantedAtSpine_39 ?_
      refine ⟨rfl, ?_⟩
      rw [ab_ws, if_neg hc4]
      first
        | rw [if_pos hc31]
        | rw [if_neg hc31]
  · skip
    refine wk_iconst C dX5_wantedAtSpine_7 ?_
    refine wk_iret C hr hlk dX5_wantedAtSpine_8 ?_
    rw [ab_ws, if_pos hc4]
    exact ⟨rfl, rfl⟩
