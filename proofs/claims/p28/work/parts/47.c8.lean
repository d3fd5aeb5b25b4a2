theorem WN_rng {S : ab_S} {σ : am_M} {b : Int} (h : ab_I S b) (W : ab_WN S σ) {n : Nat} (hn : n < 8) : ∀ j, j < lc_d n → -1000 ≤ σ 18 n j ∧ σ 18 n j ≤ 1000 := by
  intro j hj
  by_cases h4 : n < 4
  · have hd : lc_d n = 8 := by rw [lc_d, if_pos h4]
    rw [hd] at hj
    rw [W.1 n j h4 hj, ab_wl_eq]
    have hw := ab_w_leaf h (lc_in_nq h4 hj)
    split
    · omega
    · split <;> omega
  · have hd : lc_d n = 4 := by rw [lc_d, if_neg h4]
    rw [hd] at hj
    have hW := W.2 (n - 4) j (by omega) hj
    rw [show 4 + (n - 4) = n by omega] at hW
    rw [hW, ab_ws]
    rcases ab_w_spine h (sp := n - 4) (j := j) (by omega) hj with ⟨w1, w2⟩ | ⟨w1, w2, w3⟩
    · rw [if_pos w1]; omega
    · rw [if_neg (by omega)]
      split <;> omega
theorem ab_Q0 (S : ab_S) (g i : Nat) : S g i = ab_Q S (ab_Yk 0) g i := by
  simp [ab_Q, ab_Yk]

theorem in_c_X3_pick_X3 : ∀ w ∈ u_ws RX3 TX3 3, w ∈ wsX3_pick := by decide +kernel
set_option maxRecDepth 100000 in
set_option maxHeartbeats 4000000 in
/-- Node.pick -/
theorem c_X3_pick (l : Launch) (g : am_g) (hI : am_inj (gC g)) (σ : am_M) (n : Nat) (hn : n < 8) (S : ab_S) (b : Int) (hS : ab_I S b) (hC : ab_C (ab_Q S (ab_Yk (ab_bs n))) σ) (hW : ab_WN S σ) (hP : ab_PK S (ab_bs n) σ) : Met l yX3_pick wsX3_pick ({ frames := 1, cells := 0, slots := 0, locals := 24 }) (am_P (gC g) σ [.inr (15, n)]) (am_QV (gC g) (fun σ' => ab_C (ab_Q S (ab_Yk (ab_bs n + lc_d n))) σ' ∧ ab_WN S σ' ∧ ab_PK S (ab_bs n + lc_d n) σ')) 0 0 (am_FA (gC g)) := by
  refine wk_start (cc := cX3_pick) (nL := 2) (ret := none) (own := RX3) (by decide) rfl hI rfl (Nat.le_of_ble_eq_true rfl) ?_
  intro p e s m below meth c C hr hlk
  change wk _ p l e _ s m _ below meth c 0 0 _ _ _ _ 0 [some (.inr (15, n)), none] [] σ
  have hd48 : lc_d n = 4 ∨ lc_d n = 8 := by unfold lc_d; split <;> simp
  refine wk_iconst C dX3_pick_0 ?_
  refine wk_istore_n C (by decide) (Nat.le_of_ble_eq_true rfl) dX3_pick_1 ?_
  have hl2 : ∀ (d i : Nat) (σ1 : am_M), lc_d n + 1 ≤ i + d → i ≤ lc_d n → (ab_C (ab_Q S (ab_Yk (ab_bs n + i))) σ1 ∧ ab_WN S σ1 ∧ ab_PK S (ab_bs n + i) σ1) → wk (gC g) p l e (headSpec wsX3_pick ({ frames := 1, cells := 0, slots := 0, locals := 24 })).room s m ([.inr (15, n)].map (am_tv (gC g))).toArray below meth c 0 0 (MQ below (am_QV (gC g) (fun σ' => ab_C (ab_Q S (ab_Yk (ab_bs n + lc_d n))) σ' ∧ ab_WN S σ' ∧ ab_PK S (ab_bs n + lc_d n) σ')) ([.inr (15, n)].map (am_tv (gC g))).toArray s 0 0 (am_FA (gC g))) (am_FA (gC g)) s.heap 2 2 [some (.inr (15, n)), some (.inl ((i : Nat) : Int))] [] σ1 := by
    intro d
    induction d with
    | zero => intro i σ1 h1 h2 h3; omega
    | succ d ih =>
      intro i σ1 h1 h2 h3
      refine wk_iload_n C rfl dX3_pick_2 ?_
      refine wk_aload_n C rfl dX3_pick_3 ?_
      refine wk_getr C (k := 15) (ci := 3) (j := 1) (T := TX3) rfl (show _ < (8:Nat) by omega) rfl in_c_X3_pick_X3 (by decide) (by decide +kernel) rfl dX3_pick_4 ?_
      refine wk_alenR C (k := 17) rfl rfl (show _ < (8:Nat) by omega) dX3_pick_7 ?_
      refine wk_icmp_ge C 31 (by omega) (by omega) (by decide) dX3_pick_8 (fun hc8 => ?_) (fun hc8 => ?_)
      · skip
        refine wk_vret C hr hlk dX3_pick_31 ?_
        have h4 : i = lc_d n := by omega
        subst h4
        exact h3
      · skip
        have hil : i < lc_d n := by omega
        obtain ⟨c1, c2, c3⟩ := C_pick hS h3.2.1 hn hil h3.1
        have h4 := h3.1.2.2.2.1 (lc_out n i) (ab_ord_out hn hil).2.2
        have hs4 := hS.s4 (ab_ord_out hn hil).2.2
        have hq15 := (hS.2.2.2.1 (lc_out n i) (ab_ord_out hn hil).2.2).2.2.2
        refine wk_aload_n C rfl dX3_pick_11 ?_
        refine wk_getr C (k := 15) (ci := 3) (j := 1) (T := TX3) rfl (show _ < (8:Nat) by omega) rfl in_c_X3_pick_X3 (by decide) (by decide +kernel) rfl dX3_pick_12 ?_
        refine wk_iload_n C rfl dX3_pick_15 ?_
        refine wk_aald C (k := 17) rfl rfl (show _ < (8:Nat) by omega) (by omega) (i) (by omega) (by omega) dX3_pick_16 ?_
        have ho := ab_ord_out hn (show i < lc_d n by omega)
        refine wk_aload_n C rfl dX3_pick_17 ?_
        refine wk_getr C (k := 15) (ci := 3) (j := 2) (T := TX3) rfl (show _ < (8:Nat) by omega) rfl in_c_X3_pick_X3 (by decide) (by decide +kernel) rfl dX3_pick_18 ?_
        refine wk_iload_n C rfl dX3_pick_21 ?_
        refine wk_ofV C (wk_runN (host := RX5) (index := 24) (ci := 2) (st := []) C (c_X2_pick l g hI _ (lc_out n i) ho.2.2 n (lc_d n) hn rfl (i : Int) (by omega) (by rw [h4.2.1, ab_Qo _ _ _ _ (by omega)]; omega) (by rw [h4.2.2.2, ab_Q15, if_neg (by rintro ⟨-, z, -⟩; simp only [ab_Yk, decide_eq_true_eq] at z; omega)]; omega) (WN_rng hS h3.2.1 hn)) ⟨va_cnB 2 C.2.2.2.2.1 gX3_pick_X2_pick_n24 rfl rfl rfl (C.2.2.2.2.2.1.2 _ (by decide +kernel)) (C.2.2.2.2.1 (.initialized RX2) (by decide +kernel)) (by decide +kernel) ⟨Nat.le_of_ble_eq_true rfl, Nat.le_of_ble_eq_true rfl⟩, C.2.2.2.2.1 (.instanceMethod yX2_pick) (by decide +kernel), C.2.2.2.2.1 (.selects RX2 yX2_pick yX2_pick) (by decide +kernel)⟩ rfl (show _ < (64:Nat) by omega) rfl rfl rfl (Nat.le_of_ble_eq_true rfl) dX3_pick_22 ⟨Nat.zero_le _, Nat.zero_le _⟩) (fun σ22 hp22 => ?_)
        subst hp22
        refine wk_iinc C rfl (by decide) dX3_pick_25 ?_
        refine wk_goto C 2 (by decide) dX3_pick_28 ?_
        refine ih (i + 1) _ (by omega) (by omega) ⟨c1, ⟨fun n9 j9 z1 z2 => ?_, fun n9 j9 z1 z2 => ?_⟩, fun L z1 z2 z3 => ?_⟩
        · rw [c3 18 n9 j9 (by omega)]; exact h3.2.1.1 n9 j9 z1 z2
        · rw [c3 18 (4 + n9) j9 (by omega)]; exact h3.2.1.2 n9 j9 z1 z2
        · by_cases e : L = lc_out n i
          · rw [e]; exact c2
          · rw [c3 11 L 6 (by omega)]
            have : ¬ ab_ord L = ab_ord (lc_out n i) := fun z => e (ab_ord_inj ⟨z1, z2⟩ ho.2 z)
            exact h3.2.2 L z1 z2 (by omega)
  exact hl2 (lc_d n + 1) 0 σ (by omega) (by omega) ⟨hC, hW, hP⟩

theorem in_c_X5_pickAll_X5 : ∀ w ∈ u_ws RX5 TX5 13, w ∈ wsX5_pickAll := by decide +kernel
set_option maxRecDepth 100000 in
set_option maxHeartbeats 4000000 in
/-- pickAll -/
theorem c_X5_pickAll (l : Launch) (g : am_g) (hI : am_inj (gC g)) (σ : am_M) (S : ab_S) (b : Int) (hS : ab_I S b) (hC : ab_C S σ) (hW : ab_WN S σ) : Met l yX5_pickAll wsX5_pickAll ({ frames := 2, cells := 0, slots := 0, locals := 45 }) (am_P (gC g) σ [.inr (0, 0)]) (am_QV (gC g) (fun σ' => ab_C (ab_Q S (ab_Yk (48))) σ' ∧ ab_WN S σ' ∧ ab_PK S (48) σ')) 0 0 (am_FA (gC g)) := by
  refine wk_start (cc := cX5_pickAll) (nL := 2) (ret := none) (own := RX5) (by decide) rfl hI rfl (Nat.le_of_ble_eq_true rfl) ?_
  intro p e s m below meth c C hr hlk
  change wk _ p l e _ s m _ below meth c 0 0 _ _ _ _ 0 [some (.inr (0, 0)), none] [] σ
  refine wk_iconst C dX5_pickAll_0 ?_
  refine wk_istore_n C (by decide) (Nat.le_of_ble_eq_true rfl) dX5_pickAll_1 ?_
  have hl2 : ∀ (d n : Nat) (σ1 : am_M), 5 ≤ n + d → n ≤ 4 → (ab_C (ab_Q S (ab_Yk (8 * n))) σ1 ∧ ab_WN S σ1 ∧ ab_PK S (8 * n) σ1) → wk (gC g) p l e (headSpec wsX5_pickAll ({ frames := 2, cells := 0, slots := 0, locals := 45 })).room s m ([.inr (0, 0)].map (am_tv (gC g))).toArray below meth c 0 0 (MQ below (am_QV (gC g) (fun σ' => ab_C (ab_Q S (ab_Yk (48))) σ' ∧ ab_WN S σ' ∧ ab_PK S (48) σ')) ([.inr (0, 0)].map (am_tv (gC g))).toArray s 0 0 (am_FA (gC g))) (am_FA (gC g)) s.heap 2 2 [some (.inr (0, 0)), some (.inl ((n : Nat) : Int))] [] σ1 := by
    intro d
    induction d with
    | zero => intro n σ1 h1 h2 h3; omega
    | succ d ih =>
      intro n σ1 h1 h2 h3
      refine wk_iload_n C rfl dX5_pickAll_2 ?_
      refine wk_iconst C dX5_pickAll_3 ?_
      refine wk_icmp_ge C 22 (by omega) (by omega) (by decide) dX5_pickAll_4 (fun hc4 => ?_) (fun hc4 => ?_)
      · skip
        refine wk_iconst C dX5_pickAll_22 ?_
        refine wk_istore_n C (by decide) (Nat.le_of_ble_eq_true rfl) dX5_pickAll_23 ?_
        have hl24 : ∀ (d2 n2 : Nat) (σ2 : am_M), 5 ≤ n2 + d2 → n2 ≤ 4 → (ab_C (ab_Q S (ab_Yk (32 + 4 * n2))) σ2 ∧ ab_WN S σ2 ∧ ab_PK S (32 + 4 * n2) σ2) → wk (gC g) p l e (headSpec wsX5_pickAll ({ frames := 2, cells := 0, slots := 0, locals := 45 })).room s m ([.inr (0, 0)].map (am_tv (gC g))).toArray below meth c 0 0 (MQ below (am_QV (gC g) (fun σ' => ab_C (ab_Q S (ab_Yk (48))) σ' ∧ ab_WN S σ' ∧ ab_PK S (48) σ')) ([.inr (0, 0)].map (am_tv (gC g))).toArray s 0 0 (am_FA (gC g))) (am_FA (gC g)) s.heap 2 24 [some (.inr (0, 0)), some (.inl ((n2 : Nat) : Int))] [] σ2 := by
          intro d2
          induction d2 with
          | zero => intro n2 σ2 g1 g2 g3; omega
          | succ d2 ih2 =>
            intro n2 σ2 g1 g2 g3
            refine wk_iload_n C rfl dX5_pickAll_24 ?_
            refine wk_iconst C dX5_pickAll_25 ?_
            refine wk_icmp_ge C 44 (by omega) (by omega) (by decide) dX5_pickAll_26 (fun hc26 => ?_) (fun hc26 => ?_)
            · skip
              refine wk_vret C hr hlk dX5_pickAll_44 ?_
              have h4 : n2 = 4 := by omega
              subst h4
              exact g3
            · skip
              have hb : ab_bs (4 + n2) = 16 + 4 * (4 + n2) := by rw [ab_bs, if_neg (by omega)]
              have hd : lc_d (4 + n2) = 4 := by rw [lc_d, if_neg (by omega)]
              have hk : 32 + 4 * n2 = 16 + 4 * (4 + n2) := by omega
              rw [hk] at g3
              refine wk_aload_n C rfl dX5_pickAll_29 ?_
              refine wk_getr C (k := 0) (ci := 5) (j := 6) (T := TX5) rfl (show 0 < (1:Nat) by decide) rfl in_c_X5_pickAll_X5 (by decide) (by decide +kernel) rfl dX5_pickAll_30 ?_
              refine wk_iload_n C rfl dX5_pickAll_33 ?_
              refine wk_aald C (k := 7) rfl rfl (show 0 < (1:Nat) by decide) (Nat.le_of_ble_eq_true rfl) (n2) (by omega) (show _ < (4:Nat) by omega) dX5_pickAll_34 ?_
              refine wk_ofV C (wk_runN (host := RX5) (index := 298) (ci := 3) (st := []) C (c_X3_pick l g hI _ (4 + n2) (by omega) S b hS (by rw [hb]; exact g3.1) g3.2.1 (by rw [hb]; exact g3.2.2)) ⟨va_cnB 0 C.2.2.2.2.1 gX5_pickAll_X3_pick_n298 rfl rfl rfl (C.2.2.2.2.2.1.2 _ (by decide +kernel)) (C.2.2.2.2.1 (.initialized RX3) (by decide +kernel)) (by decide +kernel) ⟨Nat.le_of_ble_eq_true rfl, Nat.le_of_ble_eq_true rfl⟩, C.2.2.2.2.1 (.instanceMethod yX3_pick) (by decide +kernel), C.2.2.2.2.1 (.selects RX3 yX3_pick yX3_pick) (by decide +kernel)⟩ rfl (show _ < (8:Nat) by omega) rfl rfl rfl (Nat.le_of_ble_eq_true rfl) dX5_pickAll_35 ⟨Nat.zero_le _, Nat.zero_le _⟩) (fun σ35 hp35 => ?_)
              refine wk_iinc C rfl (by decide) dX5_pickAll_38 ?_
              refine wk_goto C 24 (by decide) dX5_pickAll_41 ?_
              refine ih2 (n2 + 1) _ (by omega) (by omega) ?_
              rw [hb, hd] at hp35
              rw [show 32 + 4 * (n2 + 1) = 16 + 4 * (4 + n2) + 4 by omega]
              exact hp35
        have h4 : n = 4 := by omega
        subst h4
        exact hl24 5 0 _ (by omega) (by omega) h3
      · skip
        have hb : ab_bs n = 8 * n := by rw [ab_bs, if_pos (by omega)]
        have hd : lc_d n = 8 := by rw [lc_d, if_pos (by omega)]
        refine wk_aload_n C rfl dX5_pickAll_7 ?_
        refine wk_getr C (k := 0) (ci := 5) (j := 5) (T := TX5) rfl (show 0 < (1:Nat) by decide) rfl in_c_X5_pickAll_X5 (by decide) (by decide +kernel) rfl dX5_pickAll_8 ?_
        refine wk_iload_n C rfl dX5_pickAll_11 ?_
        refine wk_aald C (k := 6) rfl rfl (show 0 < (1:Nat) by decide) (Nat.le_of_ble_eq_true rfl) (n) (by omega) (show _ < (4:Nat) by omega) dX5_pickAll_12 ?_
        refine wk_ofV C (wk_runN (host := RX5) (index := 298) (ci := 3) (st := []) C (c_X3_pick l g hI _ n (by omega) S b hS (by rw [hb]; exact h3.1) h3.2.1 (by rw [hb]; exact h3.2.2)) ⟨va_cnB 0 C.2.2.2.2.1 gX5_pickAll_X3_pick_n298 rfl rfl rfl (C.2.2.2.2.2.1.2 _ (by decide +kernel)) (C.2.2.2.2.1 (.initialized RX3) (by decide +kernel)) (by decide +kernel) ⟨Nat.le_of_ble_eq_true rfl, Nat.le_of_ble_eq_true rfl⟩, C.2.2.2.2.1 (.instanceMethod yX3_pick) (by decide +kernel), C.2.2.2.2.1 (.selects RX3 yX3_pick yX3_pick) (by decide +kernel)⟩ rfl (show _ < (8:Nat) by omega) rfl rfl rfl (Nat.le_of_ble_eq_true rfl) dX5_pickAll_13 ⟨Nat.zero_le _, Nat.zero_le _⟩) (fun σ13 hp13 => ?_)
        refine wk_iinc C rfl (by decide) dX5_pickAll_16 ?_
        refine wk_goto C 2 (by decide) dX5_pickAll_19 ?_
        refine ih (n + 1) _ (by omega) (by omega) ?_
        rw [hb, hd] at hp13
        rw [show 8 * (n + 1) = 8 * n + 8 by omega]
        exact hp13
  exact hl2 5 0 σ (by omega) (by omega) ⟨C_ext (ab_Q0 S) hC, hW, fun L _ _ z => by omega⟩
