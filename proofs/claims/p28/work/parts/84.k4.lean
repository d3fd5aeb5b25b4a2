theorem in_cc_X5_init_X0 : ∀ w ∈ u_ws RX0 TX0 13, w ∈ wsX5_init := by decide +kernel
theorem in_cc_X5_init_X1 : ∀ w ∈ u_ws RX1 TX1 4, w ∈ wsX5_init := by decide +kernel
theorem in_cc_X5_init_X2 : ∀ w ∈ u_ws RX2 TX2 7, w ∈ wsX5_init := by decide +kernel
theorem in_cc_X5_init_X3 : ∀ w ∈ u_ws RX3 TX3 3, w ∈ wsX5_init := by decide +kernel
theorem in_cc_X5_init_X5 : ∀ w ∈ u_ws RX5 TX5 13, w ∈ wsX5_init := by decide +kernel
set_option maxRecDepth 100000 in
set_option maxHeartbeats 4000000 in
/-- new Fabricsim -/
theorem cc_X5_init (l : Launch) (g : am_g) (hI : am_inj (gC g)) (z : Nat) (σ : am_M) (hcA : cA g z) : Met l yX5_init wsX5_init ({ frames := 4, cells := 528, slots := 2868, locals := 81 }) (cP (gC g) (z, σ) [.inr (0, 0)]) (am_QV (gC g) (fun σ' => ab_C (ab_new0 0 5 8) σ')) (528) (2868) (am_FA (gC g)) := by
  refine ck_start (cc := cX5_init) (nL := 2) (ret := none) (own := RX5) (by decide) rfl hI rfl (Nat.le_of_ble_eq_true rfl) ?_
  intro p e s m below meth c C hao hnm hr hlk
  change ck _ p l e _ s m _ below meth c 0 0 _ _ _ _ 0 [some (.inr (0, 0)), none] [] (z, σ)
  have hcA2 := hcA
  obtain ⟨hA0, hA1, hA9, hA10, hA32, hA15⟩ := hcA2
  have hs0 : ∀ k x j, (k < 0 ∧ x = 0 ∧ j = 0) → σ k x j ≠ 0 := fun k x j h => absurd h.1 (Nat.not_lt_zero _)
  refine ck_aload_n C rfl dX5_init_0 ?_
  refine ck_obj C (idx := 3) (by decide +kernel) (by decide +kernel) (by decide +kernel) (Nat.le_of_ble_eq_true rfl) (Nat.le_of_ble_eq_true rfl) (Nat.le_of_ble_eq_true rfl) dX5_init_1 ?_
  refine ck_aload_n C rfl dX5_init_4 ?_
  refine ck_bipush C (n := 24) (by decide) dX5_init_5 ?_
  refine ck_anew C (t := 2) (n := 24) (i := 0) (index := 9) 1 hao.1 rfl rfl (show _ < (1:Nat) by omega) (Eq.trans (hA1 1 (by omega) (by omega)) (show _ = z by omega)) (by omega) (by omega) (by decide +kernel) (show 0 + 1 ≤ 528 by omega) (show 0 + 24 ≤ 2868 by omega) dX5_init_7 ?_
  change ck _ p l e _ s m _ below meth c (0 + 1) (0 + 24) _ _ _ _ _ _ _ (z + 1, σ)
  refine ck_putR C hnm (k := 0) (ci := 5) (j := 0) (T := TX5) rfl (show _ < (1:Nat) by omega) (ca_lt (rfl : g.2.2 0 0 = g.2.2 0 0) (show _ < z + 1 by omega)) rfl in_cc_X5_init_X5 tyX5 tyX5_ok nmX5 (by decide) (by decide +kernel) rfl rfl rfl (fun _ => rfl) (fun _ => rfl) dX5_init_10 ?_
  have hs1 := up_nz hs0 0 (0) (0)
  change ck _ p l e _ s m _ below meth c (0 + 1) (0 + 24) _ _ _ _ _ _ _ (z + 1, am_up σ 0 (0) (0) 1)
  generalize am_up σ 0 (0) (0) 1 = σ1 at hs1 ⊢
  refine ck_aload_n C rfl dX5_init_13 ?_
  refine ck_bipush C (n := 16) (by decide) dX5_init_14 ?_
  refine ck_anew C (t := 3) (n := 16) (i := 0) (index := 15) 2 hao.2.1 rfl rfl (show _ < (1:Nat) by omega) (Eq.trans (hA1 2 (by omega) (by omega)) (show _ = z + 1 by omega)) (by omega) (by omega) (by decide +kernel) (show 0 + 1 + 1 ≤ 528 by omega) (show 0 + 24 + 16 ≤ 2868 by omega) dX5_init_16 ?_
  change ck _ p l e _ s m _ below meth c (0 + 1 + 1) (0 + 24 + 16) _ _ _ _ _ _ _ (z + 1 + 1, σ1)
  refine ck_putR C hnm (k := 0) (ci := 5) (j := 1) (T := TX5) rfl (show _ < (1:Nat) by omega) (ca_lt (rfl : g.2.2 0 0 = g.2.2 0 0) (show _ < z + 1 + 1 by omega)) rfl in_cc_X5_init_X5 tyX5 tyX5_ok nmX5 (by decide) (by decide +kernel) rfl rfl rfl (fun _ => rfl) (fun _ => rfl) dX5_init_19 ?_
  have hs2 := up_nz hs1 0 (0) (1)
  change ck _ p l e _ s m _ below meth c (0 + 1 + 1) (0 + 24 + 16) _ _ _ _ _ _ _ (z + 1 + 1, am_up σ1 0 (0) (1) 1)
  generalize am_up σ1 0 (0) (1) 1 = σ2 at hs2 ⊢
  refine ck_aload_n C rfl dX5_init_22 ?_
  refine ck_bipush C (n := 64) (by decide) dX5_init_23 ?_
  refine ck_anew C (t := 4) (n := 64) (i := 0) (index := 21) 3 hao.2.2.1 rfl rfl (show _ < (1:Nat) by omega) (Eq.trans (hA1 3 (by omega) (by omega)) (show _ = z + 1 + 1 by omega)) (by omega) (by omega) (by decide +kernel) (show 0 + 1 + 1 + 1 ≤ 528 by omega) (show 0 + 24 + 16 + 64 ≤ 2868 by omega) dX5_init_25 ?_
  change ck _ p l e _ s m _ below meth c (0 + 1 + 1 + 1) (0 + 24 + 16 + 64) _ _ _ _ _ _ _ (z + 1 + 1 + 1, σ2)
  refine ck_putR C hnm (k := 0) (ci := 5) (j := 2) (T := TX5) rfl (show _ < (1:Nat) by omega) (ca_lt (rfl : g.2.2 0 0 = g.2.2 0 0) (show _ < z + 1 + 1 + 1 by omega)) rfl in_cc_X5_init_X5 tyX5 tyX5_ok nmX5 (by decide) (by decide +kernel) rfl rfl rfl (fun _ => rfl) (fun _ => rfl) dX5_init_28 ?_
  have hs3 := up_nz hs2 0 (0) (2)
  change ck _ p l e _ s m _ below meth c (0 + 1 + 1 + 1) (0 + 24 + 16 + 64) _ _ _ _ _ _ _ (z + 1 + 1 + 1, am_up σ2 0 (0) (2) 1)
  generalize am_up σ2 0 (0) (2) 1 = σ3 at hs3 ⊢
  refine ck_aload_n C rfl dX5_init_31 ?_
  refine ck_bipush C (n := 16) (by decide) dX5_init_32 ?_
  refine ck_anew C (t := 4) (n := 16) (i := 0) (index := 21) 4 hao.2.2.1 rfl rfl (show _ < (1:Nat) by omega) (Eq.trans (hA1 4 (by omega) (by omega)) (show _ = z + 1 + 1 + 1 by omega)) (by omega) (by omega) (by decide +kernel) (show 0 + 1 + 1 + 1 + 1 ≤ 528 by omega) (show 0 + 24 + 16 + 64 + 16 ≤ 2868 by omega) dX5_init_34 ?_
  change ck _ p l e _ s m _ below meth c (0 + 1 + 1 + 1 + 1) (0 + 24 + 16 + 64 + 16) _ _ _ _ _ _ _ (z + 1 + 1 + 1 + 1, σ3)
  refine ck_putR C hnm (k := 0) (ci := 5) (j := 3) (T := TX5) rfl (show _ < (1:Nat) by omega) (ca_lt (rfl : g.2.2 0 0 = g.2.2 0 0) (show _ < z + 1 + 1 + 1 + 1 by omega)) rfl in_cc_X5_init_X5 tyX5 tyX5_ok nmX5 (by decide) (by decide +kernel) rfl rfl rfl (fun _ => rfl) (fun _ => rfl) dX5_init_37 ?_
  have hs4 := up_nz hs3 0 (0) (3)
  change ck _ p l e _ s m _ below meth c (0 + 1 + 1 + 1 + 1) (0 + 24 + 16 + 64 + 16) _ _ _ _ _ _ _ (z + 1 + 1 + 1 + 1, am_up σ3 0 (0) (3) 1)
  generalize am_up σ3 0 (0) (3) 1 = σ4 at hs4 ⊢
  refine ck_aload_n C rfl dX5_init_40 ?_
  refine ck_bipush C (n := 16) (by decide) dX5_init_41 ?_
  refine ck_anew C (t := 4) (n := 16) (i := 0) (index := 21) 5 hao.2.2.1 rfl rfl (show _ < (1:Nat) by omega) (Eq.trans (hA1 5 (by omega) (by omega)) (show _ = z + 1 + 1 + 1 + 1 by omega)) (by omega) (by omega) (by decide +kernel) (show 0 + 1 + 1 + 1 + 1 + 1 ≤ 528 by omega) (show 0 + 24 + 16 + 64 + 16 + 16 ≤ 2868 by omega) dX5_init_43 ?_
  change ck _ p l e _ s m _ below meth c (0 + 1 + 1 + 1 + 1 + 1) (0 + 24 + 16 + 64 + 16 + 16) _ _ _ _ _ _ _ (z + 1 + 1 + 1 + 1 + 1, σ4)
  refine ck_putR C hnm (k := 0) (ci := 5) (j := 4) (T := TX5) rfl (show _ < (1:Nat) by omega) (ca_lt (rfl : g.2.2 0 0 = g.2.2 0 0) (show _ < z + 1 + 1 + 1 + 1 + 1 by omega)) rfl in_cc_X5_init_X5 tyX5 tyX5_ok nmX5 (by decide) (by decide +kernel) rfl rfl rfl (fun _ => rfl) (fun _ => rfl) dX5_init_46 ?_
  have hs5 := up_nz hs4 0 (0) (4)
  change ck _ p l e _ s m _ below meth c (0 + 1 + 1 + 1 + 1 + 1) (0 + 24 + 16 + 64 + 16 + 16) _ _ _ _ _ _ _ (z + 1 + 1 + 1 + 1 + 1, am_up σ4 0 (0) (4) 1)
  generalize am_up σ4 0 (0) (4) 1 = σ5 at hs5 ⊢
  refine ck_aload_n C rfl dX5_init_49 ?_
  refine ck_iconst C dX5_init_50 ?_
  refine ck_anew C (t := 5) (n := 4) (i := 0) (index := 33) 6 hao.2.2.2.1 rfl rfl (show _ < (1:Nat) by omega) (Eq.trans (hA1 6 (by omega) (by omega)) (show _ = z + 1 + 1 + 1 + 1 + 1 by omega)) (by omega) (by omega) (by decide +kernel) (show 0 + 1 + 1 + 1 + 1 + 1 + 1 ≤ 528 by omega) (show 0 + 24 + 16 + 64 + 16 + 16 + 4 ≤ 2868 by omega) dX5_init_51 ?_
  change ck _ p l e _ s m _ below meth c (0 + 1 + 1 + 1 + 1 + 1 + 1) (0 + 24 + 16 + 64 + 16 + 16 + 4) _ _ _ _ _ _ _ (z + 1 + 1 + 1 + 1 + 1 + 1, σ5)
  refine ck_putR C hnm (k := 0) (ci := 5) (j := 5) (T := TX5) rfl (show _ < (1:Nat) by omega) (ca_lt (rfl : g.2.2 0 0 = g.2.2 0 0) (show _ < z + 1 + 1 + 1 + 1 + 1 + 1 by omega)) rfl in_cc_X5_init_X5 tyX5 tyX5_ok nmX5 (by decide) (by decide +kernel) rfl rfl rfl (fun _ => rfl) (fun _ => rfl) dX5_init_54 ?_
  have hs6 := up_nz hs5 0 (0) (5)
  change ck _ p l e _ s m _ below meth c (0 + 1 + 1 + 1 + 1 + 1 + 1) (0 + 24 + 16 + 64 + 16 + 16 + 4) _ _ _ _ _ _ _ (z + 1 + 1 + 1 + 1 + 1 + 1, am_up σ5 0 (0) (5) 1)
  generalize am_up σ5 0 (0) (5) 1 = σ6 at hs6 ⊢
  refine ck_aload_n C rfl dX5_init_57 ?_
  refine ck_iconst C dX5_init_58 ?_
  refine ck_anew C (t := 5) (n := 4) (i := 0) (index := 33) 7 hao.2.2.2.1 rfl rfl (show _ < (1:Nat) by omega) (Eq.trans (hA1 7 (by omega) (by omega)) (show _ = z + 1 + 1 + 1 + 1 + 1 + 1 by omega)) (by omega) (by omega) (by decide +kernel) (show 0 + 1 + 1 + 1 + 1 + 1 + 1 + 1 ≤ 528 by omega) (show 0 + 24 + 16 + 64 + 16 + 16 + 4 + 4 ≤ 2868 by omega) dX5_init_59 ?_
  change ck _ p l e _ s m _ below meth c (0 + 1 + 1 + 1 + 1 + 1 + 1 + 1) (0 + 24 + 16 + 64 + 16 + 16 + 4 + 4) _ _ _ _ _ _ _ (z + 1 + 1 + 1 + 1 + 1 + 1 + 1, σ6)
  refine ck_putR C hnm (k := 0) (ci := 5) (j := 6) (T := TX5) rfl (show _ < (1:Nat) by omega) (ca_lt (rfl : g.2.2 0 0 = g.2.2 0 0) (show _ < z + 1 + 1 + 1 + 1 + 1 + 1 + 1 by omega)) rfl in_cc_X5_init_X5 tyX5 tyX5_ok nmX5 (by decide) (by decide +kernel) rfl rfl rfl (fun _ => rfl) (fun _ => rfl) dX5_init_62 ?_
  have hs7 := up_nz hs6 0 (0) (6)
  change ck _ p l e _ s m _ below meth c (0 + 1 + 1 + 1 + 1 + 1 + 1 + 1) (0 + 24 + 16 + 64 + 16 + 16 + 4 + 4) _ _ _ _ _ _ _ (z + 1 + 1 + 1 + 1 + 1 + 1 + 1, am_up σ6 0 (0) (6) 1)
  generalize am_up σ6 0 (0) (6) 1 = σ7 at hs7 ⊢
  refine ck_aload_n C rfl dX5_init_65 ?_
  refine ck_iconst C dX5_init_66 ?_
  refine ck_newa C (t := 0) (n := 4) (i := 0) 8 rfl rfl rfl (show _ < (1:Nat) by omega) (Eq.trans (hA1 8 (by omega) (by omega)) (show _ = z + 1 + 1 + 1 + 1 + 1 + 1 + 1 by omega)) (by omega) (by omega) (by decide) rfl (by intro D hD; cases hD) (by decide +kernel) (show 0 + 1 + 1 + 1 + 1 + 1 + 1 + 1 + 1 ≤ 528 by omega) (show 0 + 24 + 16 + 64 + 16 + 16 + 4 + 4 + 4 ≤ 2868 by omega) dX5_init_67 ?_
  change ck _ p l e _ s m _ below meth c (0 + 1 + 1 + 1 + 1 + 1 + 1 + 1 + 1) (0 + 24 + 16 + 64 + 16 + 16 + 4 + 4 + 4) _ _ _ _ _ _ _ (z + 1 + 1 + 1 + 1 + 1 + 1 + 1 + 1, σ7)
  refine ck_putR C hnm (k := 0) (ci := 5) (j := 7) (T := TX5) rfl (show _ < (1:Nat) by omega) (ca_lt (rfl : g.2.2 0 0 = g.2.2 0 0) (show _ < z + 1 + 1 + 1 + 1 + 1 + 1 + 1 + 1 by omega)) rfl in_cc_X5_init_X5 tyX5 tyX5_ok nmX5 (by decide) (by decide +kernel) rfl rfl rfl (fun _ => rfl) (fun _ => rfl) dX5_init_69 ?_
  have hs8 := up_nz hs7 0 (0) (7)
  change ck _ p l e _ s m _ below meth c (0 + 1 + 1 + 1 + 1 + 1 + 1 + 1 + 1) (0 + 24 + 16 + 64 + 16 + 16 + 4 + 4 + 4) _ _ _ _ _ _ _ (z + 1 + 1 + 1 + 1 + 1 + 1 + 1 + 1, am_up σ7 0 (0) (7) 1)
  generalize am_up σ7 0 (0) (7) 1 = σ8 at hs8 ⊢
  refine ck_iconst C dX5_init_72 ?_
  refine ck_istore_n C (by decide) (Nat.le_of_ble_eq_true rfl) dX5_init_73 ?_
  have hl74 : ∀ (d i : Nat) (σ9 : am_M), 25 ≤ i + d → i ≤ 24 → (∀ k x j, cS i 0 0 0 0 k x j → σ9 k x j ≠ 0) → ck (gC g) p l e (headSpec wsX5_init ({ frames := 4, cells := 528, slots := 2868, locals := 81 })).room s m ([.inr (0, 0)].map (am_tv (gC g))).toArray below meth c (8 + i) (148 + 13 * i) (MQ below (am_QV (gC g) (fun σ' => ab_C (ab_new0 0 5 8) σ')) ([.inr (0, 0)].map (am_tv (gC g))).toArray s (528) (2868) (am_FA (gC g))) (am_FA (gC g)) s.heap 2 74 [some (.inr (0, 0)), some (.inl ((i : Nat) : Int))] [] (z + 8 + i, σ9) := by
    intro d
    induction d with
    | zero => intro i σ9 h1 h2 h3; exact absurd h1 (by omega)
    | succ d ih =>
      intro i σ9 h1 h2 hs9
      refine ck_iload_n C rfl dX5_init_74 ?_
      refine ck_bipush C (n := 24) (by decide) dX5_init_75 ?_
      refine ck_icmp_ge C 99 (by omega) (by omega) (by decide) dX5_init_77 (fun hc77 => ?_) (fun hc77 => ?_)
      · skip
        obtain rfl : i = 24 := by omega
        refine ck_iconst C dX5_init_99 ?_
        refine ck_istore_n C (by decide) (Nat.le_of_ble_eq_true rfl) dX5_init_100 ?_
        have hl101 : ∀ (d h : Nat) (σ10 : am_M), 17 ≤ h + d → h ≤ 16 → (∀ k x j, cS 24 h 0 0 0 k x j → σ10 k x j ≠ 0) → ck (gC g) p l e (headSpec wsX5_init ({ frames := 4, cells := 528, slots := 2868, locals := 81 })).room s m ([.inr (0, 0)].map (am_tv (gC g))).toArray below meth c (32 + 15 * h) (460 + 72 * h) (MQ below (am_QV (gC g) (fun σ' => ab_C (ab_new0 0 5 8) σ')) ([.inr (0, 0)].map (am_tv (gC g))).toArray s (528) (2868) (am_FA (gC g))) (am_FA (gC g)) s.heap 2 101 [some (.inr (0, 0)), some (.inl ((h : Nat) : Int))] [] (z + 32 + 15 * h, σ10) := by
          intro d
          induction d with
          | zero => intro h σ10 h1 h2 h3; exact absurd h1 (by omega)
          | succ d ih =>
            intro h σ10 h1 h2 hs10
            refine ck_iload_n C rfl dX5_init_101 ?_
            refine ck_bipush C (n := 16) (by decide) dX5_init_102 ?_
            refine ck_icmp_ge C 159 (by omega) (by omega) (by decide) dX5_init_104 (fun hc104 => ?_) (fun hc104 => ?_)
            · skip
              obtain rfl : h = 16 := by omega
              refine ck_iconst C dX5_init_159 ?_
              refine ck_istore_n C (by decide) (Nat.le_of_ble_eq_true rfl) dX5_init_160 ?_
              have hl161 : ∀ (d i : Nat) (σ11 : am_M), 17 ≤ i + d → i ≤ 16 → (∀ k x j, cS 24 16 i 0 0 k x j → σ11 k x j ≠ 0) → ck (gC g) p l e (headSpec wsX5_init ({ frames := 4, cells := 528, slots := 2868, locals := 81 })).room s m ([.inr (0, 0)].map (am_tv (gC g))).toArray below meth c (272 + 14 * i) (1612 + 68 * i) (MQ below (am_QV (gC g) (fun σ' => ab_C (ab_new0 0 5 8) σ')) ([.inr (0, 0)].map (am_tv (gC g))).toArray s (528) (2868) (am_FA (gC g))) (am_FA (gC g)) s.heap 2 161 [some (.inr (0, 0)), some (.inl ((i : Nat) : Int))] [] (z + 272 + 14 * i, σ11) := by
                intro d
                induction d with
                | zero => intro i σ11 h1 h2 h3; exact absurd h1 (by omega)
                | succ d ih =>
                  intro i σ11 h1 h2 hs11
                  refine ck_iload_n C rfl dX5_init_161 ?_
                  refine ck_bipush C (n := 16) (by decide) dX5_init_162 ?_
                  refine ck_icmp_ge C 229 (by omega) (by omega) (by decide) dX5_init_164 (fun hc164 => ?_) (fun hc164 => ?_)
                  · skip
                    obtain rfl : i = 16 := by omega
                    refine ck_iconst C dX5_init_229 ?_
                    refine ck_istore_n C (by decide) (Nat.le_of_ble_eq_true rfl) dX5_init_230 ?_
                    have hl231 : ∀ (d n : Nat) (σ12 : am_M), 5 ≤ n + d → n ≤ 4 → (∀ k x j, cS 24 16 16 n 0 k x j → σ12 k x j ≠ 0) → ck (gC g) p l e (headSpec wsX5_init ({ frames := 4, cells := 528, slots := 2868, locals := 81 })).room s m ([.inr (0, 0)].map (am_tv (gC g))).toArray below meth c (496 + 4 * n) (2700 + 27 * n) (MQ below (am_QV (gC g) (fun σ' => ab_C (ab_new0 0 5 8) σ')) ([.inr (0, 0)].map (am_tv (gC g))).toArray s (528) (2868) (am_FA (gC g))) (am_FA (gC g)) s.heap 2 231 [some (.inr (0, 0)), some (.inl ((n : Nat) : Int))] [] (z + 496 + 4 * n, σ12) := by
                      intro d
                      induction d with
                      | zero => intro n σ12 h1 h2 h3; exact absurd h1 (by omega)
                      | succ d ih =>
                        intro n σ12 h1 h2 hs12
                        refine ck_iload_n C rfl dX5_init_231 ?_
                        refine ck_iconst C dX5_init_232 ?_
                        refine ck_icmp_ge C 264 (by omega) (by omega) (by decide) dX5_init_233 (fun hc233 => ?_) (fun hc233 => ?_)
                        · skip
                          obtain rfl : n = 4 := by omega
                          refine ck_iconst C dX5_init_264 ?_
                          refine ck_istore_n C (by decide) (Nat.le_of_ble_eq_true rfl) dX5_init_265 ?_
                          have hl266 : ∀ (d n : Nat) (σ13 : am_M), 5 ≤ n + d → n ≤ 4 → (∀ k x j, cS 24 16 16 4 n k x j → σ13 k x j ≠ 0) → ck (gC g) p l e (headSpec wsX5_init ({ frames := 4, cells := 528, slots := 2868, locals := 81 })).room s m ([.inr (0, 0)].map (am_tv (gC g))).toArray below meth c (512 + 4 * n) (2808 + 15 * n) (MQ below (am_QV (gC g) (fun σ' => ab_C (ab_new0 0 5 8) σ')) ([.inr (0, 0)].map (am_tv (gC g))).toArray s (528) (2868) (am_FA (gC g))) (am_FA (gC g)) s.heap 2 266 [some (.inr (0, 0)), some (.inl ((n : Nat) : Int))] [] (z + 512 + 4 * n, σ13) := by
                            intro d
                            induction d with
                            | zero => intro n σ13 h1 h2 h3; exact absurd h1 (by omega)
                            | succ d ih =>
                              intro n σ13 h1 h2 hs13
                              refine ck_iload_n C rfl dX5_init_266 ?_
                              refine ck_iconst C dX5_init_267 ?_
                              refine ck_icmp_ge C 297 (by omega) (by omega) (by decide) dX5_init_268 (fun hc268 => ?_) (fun hc268 => ?_)
                              · skip
                                obtain rfl : n = 4 := by omega
                                refine ck_aload_n C rfl dX5_init_297 ?_
                                refine ck_iconst C dX5_init_298 ?_
                                refine ck_iconst C dX5_init_299 ?_
                                refine ck_bipush C (n := 8) (by decide) dX5_init_300 ?_
                                refine ck_fin C hr hlk (by omega) (by omega) (fun H hH => cS_full hcA hs13 hH) (wk_runV (index := 66) (ci := 5) (st := []) C (c_X5_begin l g hI σ13 0 5 8) (cwV 3 C.2.2.2.2.1 gX5_init_X5_begin rfl rfl rfl (by decide +kernel) ⟨Nat.le_of_ble_eq_true rfl, Nat.le_of_ble_eq_true rfl⟩) rfl (show 0 < (1:Nat) by decide) rfl rfl rfl (Nat.le_of_ble_eq_true rfl) dX5_init_302 ⟨Nat.le_of_ble_eq_true rfl, Nat.le_of_ble_eq_true rfl⟩) dX5_init_305 (fun _ h => h)
                              · skip
                                refine ck_aload_n C rfl dX5_init_271 ?_
                                refine ck_getr C (k := 0) (ci := 5) (j := 6) (T := TX5) rfl (show _ < (1:Nat) by omega) (ca_lt (rfl : g.2.2 0 0 = g.2.2 0 0) (show _ < z + 512 + 4 * n by omega)) (hs13 0 (0) 6 (by (try simp only [lS, hS, nS, cS]); (try simp) <;> omega)) rfl in_cc_X5_init_X5 (by decide) (by decide +kernel) rfl dX5_init_272 ?_
                                refine ck_iload_n C rfl dX5_init_275 ?_
                                refine ck_new C (ci := 3) (i := (4 + n)) (T := TX3) (index := 33) 15 [true, true, true] rfl (show _ < (8:Nat) by omega) (Eq.trans (hA15 (4 + n) (by omega)).1 (show _ = z + 512 + 4 * n by omega)) rfl in_cc_X5_init_X3 tyX3 tyX3_ok (by decide +kernel) (by decide +kernel) (by decide +kernel) rfl (by decide +kernel) (show 512 + 4 * n + 1 ≤ 528 by omega) (show 2808 + 15 * n + 3 ≤ 2868 by omega) dX5_init_276 ?_
                                change ck _ p l e _ s m _ below meth c (512 + 4 * n + 1) (2808 + 15 * n + 3) _ _ _ _ _ _ _ (z + 512 + 4 * n + 1, σ13)
                                refine ck_dup C dX5_init_279 ?_
                                refine ck_iconst C dX5_init_280 ?_
                                refine ck_iconst C dX5_init_281 ?_
                                refine ck_ofV C (ck_runIN (host := RX5) (index := 56) (st := [_, _, _]) C hao (cc_X3_init l g hI (z + 512 + 4 * n) σ13 (4 + n) 4 (by omega) (by rw [lc_d, if_neg (by omega)]) (show nd_A g (4 + n) (z + 512 + 4 * n) by have h9 := hA15 (4 + n) (by omega); rwa [show z + 496 + 4 * (4 + n) = z + 512 + 4 * n by omega] at h9)) ⟨va_cnB 2 C.2.2.2.2.1 gX5_init_X3_init_n56 rfl rfl rfl (C.2.2.2.2.2.1.2 _ (by decide +kernel)) (C.2.2.2.2.1 (.initialized RX3) (by decide +kernel)) (by decide +kernel) ⟨Nat.le_of_ble_eq_true rfl, Nat.le_of_ble_eq_true rfl⟩, rfl, C.2.2.2.2.1 (.instanceMethod yX3_init) (by decide +kernel)⟩ rfl rfl (Nat.le_of_ble_eq_true rfl) dX5_init_282 ⟨show 512 + 4 * n + 1 + 3 ≤ 528 by omega, show 2808 + 15 * n + 3 + 12 ≤ 2868 by omega⟩) (fun w14 hp14 => ?_)
                                obtain ⟨z14, σ14⟩ := w14
                                obtain ⟨hz14, hp14⟩ := hp14
                                change z14 = _ at hz14
                                subst hz14
                                have hs14 := cs_imp hs13 hp14
                                change ck _ p l e _ s m _ below meth c (512 + 4 * n + 1 + 3) (2808 + 15 * n + 3 + 12) _ _ _ _ _ _ _ (z + 512 + 4 * n + 4, σ14)
                                refine ck_aast C (k := 7) (ci := 3) rfl rfl (show _ < (1:Nat) by omega) (ca_lt (hA1 7 (by omega) (by omega)) (show _ < z + 512 + 4 * n + 4 by omega)) (Nat.le_of_ble_eq_true rfl) (n) (by omega) (show _ < (4:Nat) by omega) rfl rfl rfl (show _ < (8:Nat) by omega) (ca_lt (hA15 (4 + n) (by omega)).1 (show _ < z + 512 + 4 * n + 4 by omega)) dX5_init_285 ?_
                                have hs15 := up_nz hs14 7 (0) (n)
                                change ck _ p l e _ s m _ below meth c (512 + 4 * n + 1 + 3) (2808 + 15 * n + 3 + 12) _ _ _ _ _ _ _ (z + 512 + 4 * n + 4, am_up σ14 7 (0) (n) 1)
                                generalize am_up σ14 7 (0) (n) 1 = σ15 at hs15 ⊢
                                refine ck_aload_n C rfl dX5_init_286 ?_
                                refine ck_iload_n C rfl dX5_init_287 ?_
                                refine ck_ofV C (ck_runV (index := 63) (ci := 5) (st := []) C hao (cc_X5_joinSpine l g hI z (z + 512 + 4 * n + 4) σ15 n (by omega) hcA (by omega) (fun k x j hq => hs15 k x j (by (try simp only [lS, hS, nS, cS] at hq); (repeat' (first | (refine Or.elim hq ?_ ?_ <;> clear hq <;> intro hq) | fail)) <;> (first | (obtain ⟨rfl, hq⟩ := hq; ((try simp only [lS, hS, nS, cS]); (try simp) <;> omega)) | (obtain ⟨rfl | rfl, hq⟩ := hq <;> ((try simp only [lS, hS, nS, cS]); (try simp) <;> omega)) | (simp only [hq]; simp) | (simp [hq]))))) (cwV 1 C.2.2.2.2.1 gX5_init_X5_joinSpine rfl rfl rfl (by decide +kernel) ⟨Nat.le_of_ble_eq_true rfl, Nat.le_of_ble_eq_true rfl⟩) rfl (show _ < (1:Nat) by omega) (ca_lt (rfl : g.2.2 0 0 = g.2.2 0 0) (show _ < z + 512 + 4 * n + 4 by omega)) rfl rfl rfl (Nat.le_of_ble_eq_true rfl) dX5_init_288 ⟨show 512 + 4 * n + 1 + 3 + 0 ≤ 528 by omega, show 2808 + 15 * n + 3 + 12 + 0 ≤ 2868 by omega⟩) (fun w16 hp16 => ?_)
                                obtain ⟨z16, σ16⟩ := w16
                                obtain ⟨hz16, hp16⟩ := hp16
                                change z16 = _ at hz16
                                subst hz16
                                have hs16 := cs_imp hs15 hp16
                                change ck _ p l e _ s m _ below meth c (512 + 4 * n + 1 + 3) (2808 + 15 * n + 3 + 12) _ _ _ _ _ _ _ (z + 512 + 4 * n + 4, σ16)
                                refine ck_iinc C rfl (by decide) dX5_init_291 ?_
                                refine ck_goto C 266 (by decide) dX5_init_294 ?_
                                refine ck_of (cells' := 512 + 4 * (n + 1)) (slots' := 2808 + 15 * (n + 1)) (σ' := (z + 512 + 4 * (n + 1), σ16)) (by omega) (by omega) (show _ = _ by omega) rfl ?_
                                exact ih (n + 1) _ (by omega) (by omega) (fun k x j hq => hs16 k x j (by (try simp only [lS, hS, nS, cS] at hq); (repeat' (first | (refine Or.elim hq ?_ ?_ <;> clear hq <;> intro hq) | fail)) <;> (first | (obtain ⟨rfl, hq⟩ := hq; ((try simp only [lS, hS, nS, cS]); (try simp) <;> omega)) | (obtain ⟨rfl | rfl, hq⟩ := hq <;> ((try simp only [lS, hS, nS, cS]); (try simp) <;> omega)) | (simp only [hq]; simp) | (simp [hq]))))
                          refine ck_of (cells' := 512 + 4 * 0) (slots' := 2808 + 15 * 0) (σ' := (z + 512 + 4 * 0, σ12)) (by omega) (by omega) (show _ = _ by omega) rfl ?_
                          exact hl266 5 0 _ (by omega) (by omega) (fun k x j hq => hs12 k x j (by (try simp only [lS, hS, nS, cS] at hq); (repeat' (first | (refine Or.elim hq ?_ ?_ <;> clear hq <;> intro hq) | fail)) <;> (first | (obtain ⟨rfl, hq⟩ := hq; ((try simp only [lS, hS, nS, cS]); (try simp) <;> omega)) | (obtain ⟨rfl | rfl, hq⟩ := hq <;> ((try simp only [lS, hS, nS, cS]); (try simp) <;> omega)) | (simp only [hq]; simp) | (simp [hq]))))
                        · skip
                          refine ck_aload_n C rfl dX5_init_236 ?_
                          refine ck_getr C (k := 0) (ci := 5) (j := 5) (T := TX5) rfl (show _ < (1:Nat) by omega) (ca_lt (rfl : g.2.2 0 0 = g.2.2 0 0) (show _ < z + 496 + 4 * n by omega)) (hs12 0 (0) 5 (by (try simp only [lS, hS, nS, cS]); (try simp) <;> omega)) rfl in_cc_X5_init_X5 (by decide) (by decide +kernel) rfl dX5_init_237 ?_
                          refine ck_iload_n C rfl dX5_init_240 ?_
                          refine ck_new C (ci := 3) (i := n) (T := TX3) (index := 33) 15 [true, true, true] rfl (show _ < (8:Nat) by omega) (Eq.trans (hA15 n (by omega)).1 (show _ = z + 496 + 4 * n by omega)) rfl in_cc_X5_init_X3 tyX3 tyX3_ok (by decide +kernel) (by decide +kernel) (by decide +kernel) rfl (by decide +kernel) (show 496 + 4 * n + 1 ≤ 528 by omega) (show 2700 + 27 * n + 3 ≤ 2868 by omega) dX5_init_241 ?_
                          change ck _ p l e _ s m _ below meth c (496 + 4 * n + 1) (2700 + 27 * n + 3) _ _ _ _ _ _ _ (z + 496 + 4 * n + 1, σ12)
                          refine ck_dup C dX5_init_244 ?_
                          refine ck_bipush C (n := 8) (by decide) dX5_init_245 ?_
                          refine ck_bipush C (n := 8) (by decide) dX5_init_247 ?_
                          refine ck_ofV C (ck_runIN (host := RX5) (index := 56) (st := [_, _, _]) C hao (cc_X3_init l g hI (z + 496 + 4 * n) σ12 n 8 (by omega) (by rw [lc_d, if_pos (by omega)]) (hA15 n (by omega))) ⟨va_cnB 2 C.2.2.2.2.1 gX5_init_X3_init_n56 rfl rfl rfl (C.2.2.2.2.2.1.2 _ (by decide +kernel)) (C.2.2.2.2.1 (.initialized RX3) (by decide +kernel)) (by decide +kernel) ⟨Nat.le_of_ble_eq_true rfl, Nat.le_of_ble_eq_true rfl⟩, rfl, C.2.2.2.2.1 (.instanceMethod yX3_init) (by decide +kernel)⟩ rfl rfl (Nat.le_of_ble_eq_true rfl) dX5_init_249 ⟨show 496 + 4 * n + 1 + 3 ≤ 528 by omega, show 2700 + 27 * n + 3 + 24 ≤ 2868 by omega⟩) (fun w17 hp17 => ?_)
                          obtain ⟨z17, σ17⟩ := w17
                          obtain ⟨hz17, hp17⟩ := hp17
                          change z17 = _ at hz17
                          subst hz17
                          have hs17 := cs_imp hs12 hp17
                          change ck _ p l e _ s m _ below meth c (496 + 4 * n + 1 + 3) (2700 + 27 * n + 3 + 24) _ _ _ _ _ _ _ (z + 496 + 4 * n + 4, σ17)
                          refine ck_aast C (k := 6) (ci := 3) rfl rfl (show _ < (1:Nat) by omega) (ca_lt (hA1 6 (by omega) (by omega)) (show _ < z + 496 + 4 * n + 4 by omega)) (Nat.le_of_ble_eq_true rfl) (n) (by omega) (show _ < (4:Nat) by omega) rfl rfl rfl (show _ < (8:Nat) by omega) (ca_lt (hA15 n (by omega)).1 (show _ < z + 496 + 4 * n + 4 by omega)) dX5_init_252 ?_
                          have hs18 := up_nz hs17 6 (0) (n)
                          change ck _ p l e _ s m _ below meth c (496 + 4 * n + 1 + 3) (2700 + 27 * n + 3 + 24) _ _ _ _ _ _ _ (z + 496 + 4 * n + 4, am_up σ17 6 (0) (n) 1)
                          generalize am_up σ17 6 (0) (n) 1 = σ18 at hs18 ⊢
                          refine ck_aload_n C rfl dX5_init_253 ?_
                          refine ck_iload_n C rfl dX5_init_254 ?_
                          refine ck_ofV C (ck_runV (index := 59) (ci := 5) (st := []) C hao (cc_X5_joinLeaf l g hI z (z + 496 + 4 * n + 4) σ18 n (by omega) hcA (by omega) (fun k x j hq => hs18 k x j (by (try simp only [lS, hS, nS, cS] at hq); (repeat' (first | (refine Or.elim hq ?_ ?_ <;> clear hq <;> intro hq) | fail)) <;> (first | (obtain ⟨rfl, hq⟩ := hq; ((try simp only [lS, hS, nS, cS]); (try simp) <;> omega)) | (obtain ⟨rfl | rfl, hq⟩ := hq <;> ((try simp only [lS, hS, nS, cS]); (try simp) <;> omega)) | (simp only [hq]; simp) | (simp [hq]))))) (cwV 1 C.2.2.2.2.1 gX5_init_X5_joinLeaf rfl rfl rfl (by decide +kernel) ⟨Nat.le_of_ble_eq_true rfl, Nat.le_of_ble_eq_true rfl⟩) rfl (show _ < (1:Nat) by omega) (ca_lt (rfl : g.2.2 0 0 = g.2.2 0 0) (show _ < z + 496 + 4 * n + 4 by omega)) rfl rfl rfl (Nat.le_of_ble_eq_true rfl) dX5_init_255 ⟨show 496 + 4 * n + 1 + 3 + 0 ≤ 528 by omega, show 2700 + 27 * n + 3 + 24 + 0 ≤ 2868 by omega⟩) (fun w19 hp19 => ?_)
                          obtain ⟨z19, σ19⟩ := w19
                          obtain ⟨hz19, hp19⟩ := hp19
                          change z19 = _ at hz19
                          subst hz19
                          have hs19 := cs_imp hs18 hp19
                          change ck _ p l e _ s m _ below meth c (496 + 4 * n + 1 + 3) (2700 + 27 * n + 3 + 24) _ _ _ _ _ _ _ (z + 496 + 4 * n + 4, σ19)
                          refine ck_iinc C rfl (by decide) dX5_init_258 ?_
                          refine ck_goto C 231 (by decide) dX5_init_261 ?_
                          refine ck_of (cells' := 496 + 4 * (n + 1)) (slots' := 2700 + 27 * (n + 1)) (σ' := (z + 496 + 4 * (n + 1), σ19)) (by omega) (by omega) (show _ = _ by omega) rfl ?_
                          exact ih (n + 1) _ (by omega) (by omega) (fun k x j hq => hs19 k x j (by (try simp only [lS, hS, nS, cS] at hq); (repeat' (first | (refine Or.elim hq ?_ ?_ <;> clear hq <;> intro hq) | fail)) <;> (first | (obtain ⟨rfl, hq⟩ := hq; ((try simp only [lS, hS, nS, cS]); (try simp) <;> omega)) | (obtain ⟨rfl | rfl, hq⟩ := hq <;> ((try simp only [lS, hS, nS, cS]); (try simp) <;> omega)) | (simp only [hq]; simp) | (simp [hq]))))
                    refine ck_of (cells' := 496 + 4 * 0) (slots' := 2700 + 27 * 0) (σ' := (z + 496 + 4 * 0, σ11)) (by omega) (by omega) (show _ = _ by omega) rfl ?_
                    exact hl231 5 0 _ (by omega) (by omega) (fun k x j hq => hs11 k x j (by (try simp only [lS, hS, nS, cS] at hq); (repeat' (first | (refine Or.elim hq ?_ ?_ <;> clear hq <;> intro hq) | fail)) <;> (first | (obtain ⟨rfl, hq⟩ := hq; ((try simp only [lS, hS, nS, cS]); (try simp) <;> omega)) | (obtain ⟨rfl | rfl, hq⟩ := hq <;> ((try simp only [lS, hS, nS, cS]); (try simp) <;> omega)) | (simp only [hq]; simp) | (simp [hq]))))
                  · skip
                    refine ck_aload_n C rfl dX5_init_167 ?_
                    refine ck_getr C (k := 0) (ci := 5) (j := 3) (T := TX5) rfl (show _ < (1:Nat) by omega) (ca_lt (rfl : g.2.2 0 0 = g.2.2 0 0) (show _ < z + 272 + 14 * i by omega)) (hs11 0 (0) 3 (by (try simp only [lS, hS, nS, cS]); (try simp) <;> omega)) rfl in_cc_X5_init_X5 (by decide) (by decide +kernel) rfl dX5_init_168 ?_
                    refine ck_iload_n C rfl dX5_init_171 ?_
                    refine ck_new C (ci := 2) (i := (32 + i)) (T := TX2) (index := 21) 11 [true, true, false, false, false, false, false] rfl (show _ < (64:Nat) by omega) (Eq.trans (hA32 i (by omega)).1.1 (show _ = z + 272 + 14 * i by omega)) rfl in_cc_X5_init_X2 tyX2 tyX2_ok (by decide +kernel) (by decide +kernel) (by decide +kernel) rfl (by decide +kernel) (show 272 + 14 * i + 1 ≤ 528 by omega) (show 1612 + 68 * i + 7 ≤ 2868 by omega) dX5_init_172 ?_
                    change ck _ p l e _ s m _ below meth c (272 + 14 * i + 1) (1612 + 68 * i + 7) _ _ _ _ _ _ _ (z + 272 + 14 * i + 1, σ11)
                    refine ck_dup C dX5_init_175 ?_
                    refine ck_ofV C (ck_runIN (host := RX5) (index := 55) (st := [_, _, _]) C hao (cc_X2_init l g hI (z + 272 + 14 * i) σ11 (32 + i) (by omega) (hA32 i (by omega)).1) ⟨va_cnB 0 C.2.2.2.2.1 gX5_init_X2_init_n55 rfl rfl rfl (C.2.2.2.2.2.1.2 _ (by decide +kernel)) (C.2.2.2.2.1 (.initialized RX2) (by decide +kernel)) (by decide +kernel) ⟨Nat.le_of_ble_eq_true rfl, Nat.le_of_ble_eq_true rfl⟩, rfl, C.2.2.2.2.1 (.instanceMethod yX2_init) (by decide +kernel)⟩ rfl rfl (Nat.le_of_ble_eq_true rfl) dX5_init_176 ⟨show 272 + 14 * i + 1 + 6 ≤ 528 by omega, show 1612 + 68 * i + 7 + 27 ≤ 2868 by omega⟩) (fun w20 hp20 => ?_)
                    obtain ⟨z20, σ20⟩ := w20
                    obtain ⟨hz20, hp20⟩ := hp20
                    change z20 = _ at hz20
                    subst hz20
                    have hs20 := cs_imp hs11 hp20
                    change ck _ p l e _ s m _ below meth c (272 + 14 * i + 1 + 6) (1612 + 68 * i + 7 + 27) _ _ _ _ _ _ _ (z + 272 + 14 * i + 7, σ20)
                    refine ck_aast C (k := 4) (ci := 2) rfl rfl (show _ < (1:Nat) by omega) (ca_lt (hA1 4 (by omega) (by omega)) (show _ < z + 272 + 14 * i + 7 by omega)) (Nat.le_of_ble_eq_true rfl) (i) (by omega) (show _ < (16:Nat) by omega) rfl rfl rfl (show _ < (64:Nat) by omega) (ca_lt (hA32 i (by omega)).1.1 (show _ < z + 272 + 14 * i + 7 by omega)) dX5_init_179 ?_
                    have hs21 := up_nz hs20 4 (0) (i)
                    change ck _ p l e _ s m _ below meth c (272 + 14 * i + 1 + 6) (1612 + 68 * i + 7 + 27) _ _ _ _ _ _ _ (z + 272 + 14 * i + 7, am_up σ20 4 (0) (i) 1)
                    generalize am_up σ20 4 (0) (i) 1 = σ21 at hs21 ⊢
                    refine ck_aload_n C rfl dX5_init_180 ?_
                    refine ck_getr C (k := 0) (ci := 5) (j := 4) (T := TX5) rfl (show _ < (1:Nat) by omega) (ca_lt (rfl : g.2.2 0 0 = g.2.2 0 0) (show _ < z + 272 + 14 * i + 7 by omega)) (hs21 0 (0) 4 (by (try simp only [lS, hS, nS, cS]); (try simp) <;> omega)) rfl in_cc_X5_init_X5 (by decide) (by decide +kernel) rfl dX5_init_181 ?_
                    refine ck_iload_n C rfl dX5_init_184 ?_
                    refine ck_new C (ci := 2) (i := (48 + i)) (T := TX2) (index := 21) 11 [true, true, false, false, false, false, false] rfl (show _ < (64:Nat) by omega) (Eq.trans (hA32 i (by omega)).2.1 (show _ = z + 272 + 14 * i + 7 by omega)) rfl in_cc_X5_init_X2 tyX2 tyX2_ok (by decide +kernel) (by decide +kernel) (by decide +kernel) rfl (by decide +kernel) (show 272 + 14 * i + 1 + 6 + 1 ≤ 528 by omega) (show 1612 + 68 * i + 7 + 27 + 7 ≤ 2868 by omega) dX5_init_185 ?_
                    change ck _ p l e _ s m _ below meth c (272 + 14 * i + 1 + 6 + 1) (1612 + 68 * i + 7 + 27 + 7) _ _ _ _ _ _ _ (z + 272 + 14 * i + 7 + 1, σ21)
                    refine ck_dup C dX5_init_188 ?_
                    refine ck_ofV C (ck_runIN (host := RX5) (index := 55) (st := [_, _, _]) C hao (cc_X2_init l g hI (z + 272 + 14 * i + 7) σ21 (48 + i) (by omega) (hA32 i (by omega)).2) ⟨va_cnB 0 C.2.2.2.2.1 gX5_init_X2_init_n55 rfl rfl rfl (C.2.2.2.2.2.1.2 _ (by decide +kernel)) (C.2.2.2.2.1 (.initialized RX2) (by decide +kernel)) (by decide +kernel) ⟨Nat.le_of_ble_eq_true rfl, Nat.le_of_ble_eq_true rfl⟩, rfl, C.2.2.2.2.1 (.instanceMethod yX2_init) (by decide +kernel)⟩ rfl rfl (Nat.le_of_ble_eq_true rfl) dX5_init_189 ⟨show 272 + 14 * i + 1 + 6 + 1 + 6 ≤ 528 by omega, show 1612 + 68 * i + 7 + 27 + 7 + 27 ≤ 2868 by omega⟩) (fun w22 hp22 => ?_)
                    obtain ⟨z22, σ22⟩ := w22
                    obtain ⟨hz22, hp22⟩ := hp22
                    change z22 = _ at hz22
                    subst hz22
                    have hs22 := cs_imp hs21 hp22
                    change ck _ p l e _ s m _ below meth c (272 + 14 * i + 1 + 6 + 1 + 6) (1612 + 68 * i + 7 + 27 + 7 + 27) _ _ _ _ _ _ _ (z + 272 + 14 * i + 7 + 7, σ22)
                    refine ck_aast C (k := 5) (ci := 2) rfl rfl (show _ < (1:Nat) by omega) (ca_lt (hA1 5 (by omega) (by omega)) (show _ < z + 272 + 14 * i + 7 + 7 by omega)) (Nat.le_of_ble_eq_true rfl) (i) (by omega) (show _ < (16:Nat) by omega) rfl rfl rfl (show _ < (64:Nat) by omega) (ca_lt (hA32 i (by omega)).2.1 (show _ < z + 272 + 14 * i + 7 + 7 by omega)) dX5_init_192 ?_
                    have hs23 := up_nz hs22 5 (0) (i)
                    change ck _ p l e _ s m _ below meth c (272 + 14 * i + 1 + 6 + 1 + 6) (1612 + 68 * i + 7 + 27 + 7 + 27) _ _ _ _ _ _ _ (z + 272 + 14 * i + 7 + 7, am_up σ22 5 (0) (i) 1)
                    generalize am_up σ22 5 (0) (i) 1 = σ23 at hs23 ⊢
                    refine ck_aload_n C rfl dX5_init_193 ?_
                    refine ck_getr C (k := 0) (ci := 5) (j := 2) (T := TX5) rfl (show _ < (1:Nat) by omega) (ca_lt (rfl : g.2.2 0 0 = g.2.2 0 0) (show _ < z + 272 + 14 * i + 7 + 7 by omega)) (hs23 0 (0) 2 (by (try simp only [lS, hS, nS, cS]); (try simp) <;> omega)) rfl in_cc_X5_init_X5 (by decide) (by decide +kernel) rfl dX5_init_194 ?_
                    refine ck_bipush C (n := 32) (by decide) dX5_init_197 ?_
                    refine ck_iload_n C rfl dX5_init_199 ?_
                    refine ck_iadd C dX5_init_200 ?_
                    refine ck_aload_n C rfl dX5_init_201 ?_
                    refine ck_getr C (k := 0) (ci := 5) (j := 3) (T := TX5) rfl (show _ < (1:Nat) by omega) (ca_lt (rfl : g.2.2 0 0 = g.2.2 0 0) (show _ < z + 272 + 14 * i + 7 + 7 by omega)) (hs23 0 (0) 3 (by (try simp only [lS, hS, nS, cS]); (try simp) <;> omega)) rfl in_cc_X5_init_X5 (by decide) (by decide +kernel) rfl dX5_init_202 ?_
                    refine ck_iload_n C rfl dX5_init_205 ?_
                    refine ck_aald C (k := 4) rfl rfl (show _ < (1:Nat) by omega) (ca_lt (hA1 4 (by omega) (by omega)) (show _ < z + 272 + 14 * i + 7 + 7 by omega)) (Nat.le_of_ble_eq_true rfl) (i) (hs23 4 (0) (i) (by (try simp only [lS, hS, nS, cS]); (try simp) <;> omega)) (by omega) (show _ < (16:Nat) by omega) dX5_init_206 ?_
                    refine ck_aast C (k := 3) (ci := 2) rfl rfl (show _ < (1:Nat) by omega) (ca_lt (hA1 3 (by omega) (by omega)) (show _ < z + 272 + 14 * i + 7 + 7 by omega)) (Nat.le_of_ble_eq_true rfl) ((32 + i)) (by omega) (show _ < (64:Nat) by omega) rfl rfl rfl (show _ < (64:Nat) by omega) (ca_lt (hA32 i (by omega)).1.1 (show _ < z + 272 + 14 * i + 7 + 7 by omega)) dX5_init_207 ?_
                    have hs24 := up_nz hs23 3 (0) ((32 + i))
                    change ck _ p l e _ s m _ below meth c (272 + 14 * i + 1 + 6 + 1 + 6) (1612 + 68 * i + 7 + 27 + 7 + 27) _ _ _ _ _ _ _ (z + 272 + 14 * i + 7 + 7, am_up σ23 3 (0) ((32 + i)) 1)
                    generalize am_up σ23 3 (0) ((32 + i)) 1 = σ24 at hs24 ⊢
                    refine ck_aload_n C rfl dX5_init_208 ?_
                    refine ck_getr C (k := 0) (ci := 5) (j := 2) (T := TX5) rfl (show _ < (1:Nat) by omega) (ca_lt (rfl : g.2.2 0 0 = g.2.2 0 0) (show _ < z + 272 + 14 * i + 7 + 7 by omega)) (hs24 0 (0) 2 (by (try simp only [lS, hS, nS, cS]); (try simp) <;> omega)) rfl in_cc_X5_init_X5 (by decide) (by decide +kernel) rfl dX5_init_209 ?_
                    refine ck_bipush C (n := 48) (by decide) dX5_init_212 ?_
                    refine ck_iload_n C rfl dX5_init_214 ?_
                    refine ck_iadd C dX5_init_215 ?_
                    refine ck_aload_n C rfl dX5_init_216 ?_
                    refine ck_getr C (k := 0) (ci := 5) (j := 4) (T := TX5) rfl (show _ < (1:Nat) by omega) (ca_lt (rfl : g.2.2 0 0 = g.2.2 0 0) (show _ < z + 272 + 14 * i + 7 + 7 by omega)) (hs24 0 (0) 4 (by (try simp only [lS, hS, nS, cS]); (try simp) <;> omega)) rfl in_cc_X5_init_X5 (by decide) (by decide +kernel) rfl dX5_init_217 ?_
                    refine ck_iload_n C rfl dX5_init_220 ?_
                    refine ck_aald C (k := 5) rfl rfl (show _ < (1:Nat) by omega) (ca_lt (hA1 5 (by omega) (by omega)) (show _ < z + 272 + 14 * i + 7 + 7 by omega)) (Nat.le_of_ble_eq_true rfl) (i) (hs24 5 (0) (i) (by (try simp only [lS, hS, nS, cS]); (try simp) <;> omega)) (by omega) (show _ < (16:Nat) by omega) dX5_init_221 ?_
                    refine ck_aast C (k := 3) (ci := 2) rfl rfl (show _ < (1:Nat) by omega) (ca_lt (hA1 3 (by omega) (by omega)) (show _ < z + 272 + 14 * i + 7 + 7 by omega)) (Nat.le_of_ble_eq_true rfl) ((48 + i)) (by omega) (show _ < (64:Nat) by omega) rfl rfl rfl (show _ < (64:Nat) by omega) (ca_lt (hA32 i (by omega)).2.1 (show _ < z + 272 + 14 * i + 7 + 7 by omega)) dX5_init_222 ?_
                    have hs25 := up_nz hs24 3 (0) ((48 + i))
                    change ck _ p l e _ s m _ below meth c (272 + 14 * i + 1 + 6 + 1 + 6) (1612 + 68 * i + 7 + 27 + 7 + 27) _ _ _ _ _ _ _ (z + 272 + 14 * i + 7 + 7, am_up σ24 3 (0) ((48 + i)) 1)
                    generalize am_up σ24 3 (0) ((48 + i)) 1 = σ25 at hs25 ⊢
                    refine ck_iinc C rfl (by decide) dX5_init_223 ?_
                    refine ck_goto C 161 (by decide) dX5_init_226 ?_
                    refine ck_of (cells' := 272 + 14 * (i + 1)) (slots' := 1612 + 68 * (i + 1)) (σ' := (z + 272 + 14 * (i + 1), σ25)) (by omega) (by omega) (show _ = _ by omega) rfl ?_
                    exact ih (i + 1) _ (by omega) (by omega) (fun k x j hq => hs25 k x j (by (try simp only [lS, hS, nS, cS] at hq); (repeat' (first | (refine Or.elim hq ?_ ?_ <;> clear hq <;> intro hq) | fail)) <;> (first | (obtain ⟨rfl, hq⟩ := hq; ((try simp only [lS, hS, nS, cS]); (try simp) <;> omega)) | (obtain ⟨rfl | rfl, hq⟩ := hq <;> ((try simp only [lS, hS, nS, cS]); (try simp) <;> omega)) | (simp only [hq]; simp) | (simp [hq]))))
              refine ck_of (cells' := 272 + 14 * 0) (slots' := 1612 + 68 * 0) (σ' := (z + 272 + 14 * 0, σ10)) (by omega) (by omega) (show _ = _ by omega) rfl ?_
              exact hl161 17 0 _ (by omega) (by omega) (fun k x j hq => hs10 k x j (by (try simp only [lS, hS, nS, cS] at hq); (repeat' (first | (refine Or.elim hq ?_ ?_ <;> clear hq <;> intro hq) | fail)) <;> (first | (obtain ⟨rfl, hq⟩ := hq; ((try simp only [lS, hS, nS, cS]); (try simp) <;> omega)) | (obtain ⟨rfl | rfl, hq⟩ := hq <;> ((try simp only [lS, hS, nS, cS]); (try simp) <;> omega)) | (simp only [hq]; simp) | (simp [hq]))))
            · skip
              refine ck_aload_n C rfl dX5_init_107 ?_
              refine ck_getr C (k := 0) (ci := 5) (j := 1) (T := TX5) rfl (show _ < (1:Nat) by omega) (ca_lt (rfl : g.2.2 0 0 = g.2.2 0 0) (show _ < z + 32 + 15 * h by omega)) (hs10 0 (0) 1 (by (try simp only [lS, hS, nS, cS]); (try simp) <;> omega)) rfl in_cc_X5_init_X5 (by decide) (by decide +kernel) rfl dX5_init_108 ?_
              refine ck_iload_n C rfl dX5_init_111 ?_
              refine ck_new C (ci := 1) (i := h) (T := TX1) (index := 15) 10 [true, true, false, false] rfl (show _ < (16:Nat) by omega) (Eq.trans (hA10 h (by omega)).1 (show _ = z + 32 + 15 * h by omega)) rfl in_cc_X5_init_X1 tyX1 tyX1_ok (by decide +kernel) (by decide +kernel) (by decide +kernel) rfl (by decide +kernel) (show 32 + 15 * h + 1 ≤ 528 by omega) (show 460 + 72 * h + 4 ≤ 2868 by omega) dX5_init_112 ?_
              change ck _ p l e _ s m _ below meth c (32 + 15 * h + 1) (460 + 72 * h + 4) _ _ _ _ _ _ _ (z + 32 + 15 * h + 1, σ10)
              refine ck_dup C dX5_init_115 ?_
              refine ck_ofV C (ck_runIN (host := RX5) (index := 47) (st := [_, _, _]) C hao (cc_X1_init l g hI (z + 32 + 15 * h) σ10 h (by omega) (hA10 h (by omega)).1 (hA10 h (by omega)).2.1 (hA10 h (by omega)).2.2) ⟨va_cnB 0 C.2.2.2.2.1 gX5_init_X1_init_n47 rfl rfl rfl (C.2.2.2.2.2.1.2 _ (by decide +kernel)) (C.2.2.2.2.1 (.initialized RX1) (by decide +kernel)) (by decide +kernel) ⟨Nat.le_of_ble_eq_true rfl, Nat.le_of_ble_eq_true rfl⟩, rfl, C.2.2.2.2.1 (.instanceMethod yX1_init) (by decide +kernel)⟩ rfl rfl (Nat.le_of_ble_eq_true rfl) dX5_init_116 ⟨show 32 + 15 * h + 1 + 14 ≤ 528 by omega, show 460 + 72 * h + 4 + 68 ≤ 2868 by omega⟩) (fun w26 hp26 => ?_)
              obtain ⟨z26, σ26⟩ := w26
              obtain ⟨hz26, hp26⟩ := hp26
              change z26 = _ at hz26
              subst hz26
              have hs26 := cs_imp hs10 hp26
              change ck _ p l e _ s m _ below meth c (32 + 15 * h + 1 + 14) (460 + 72 * h + 4 + 68) _ _ _ _ _ _ _ (z + 32 + 15 * h + 15, σ26)
              refine ck_aast C (k := 2) (ci := 1) rfl rfl (show _ < (1:Nat) by omega) (ca_lt (hA1 2 (by omega) (by omega)) (show _ < z + 32 + 15 * h + 15 by omega)) (Nat.le_of_ble_eq_true rfl) (h) (by omega) (show _ < (16:Nat) by omega) rfl rfl rfl (show _ < (16:Nat) by omega) (ca_lt (hA10 h (by omega)).1 (show _ < z + 32 + 15 * h + 15 by omega)) dX5_init_119 ?_
              have hs27 := up_nz hs26 2 (0) (h)
              change ck _ p l e _ s m _ below meth c (32 + 15 * h + 1 + 14) (460 + 72 * h + 4 + 68) _ _ _ _ _ _ _ (z + 32 + 15 * h + 15, am_up σ26 2 (0) (h) 1)
              generalize am_up σ26 2 (0) (h) 1 = σ27 at hs27 ⊢
              refine ck_aload_n C rfl dX5_init_120 ?_
              refine ck_getr C (k := 0) (ci := 5) (j := 2) (T := TX5) rfl (show _ < (1:Nat) by omega) (ca_lt (rfl : g.2.2 0 0 = g.2.2 0 0) (show _ < z + 32 + 15 * h + 15 by omega)) (hs27 0 (0) 2 (by (try simp only [lS, hS, nS, cS]); (try simp) <;> omega)) rfl in_cc_X5_init_X5 (by decide) (by decide +kernel) rfl dX5_init_121 ?_
              refine ck_iload_n C rfl dX5_init_124 ?_
              refine ck_aload_n C rfl dX5_init_125 ?_
              refine ck_getr C (k := 0) (ci := 5) (j := 1) (T := TX5) rfl (show _ < (1:Nat) by omega) (ca_lt (rfl : g.2.2 0 0 = g.2.2 0 0) (show _ < z + 32 + 15 * h + 15 by omega)) (hs27 0 (0) 1 (by (try simp only [lS, hS, nS, cS]); (try simp) <;> omega)) rfl in_cc_X5_init_X5 (by decide) (by decide +kernel) rfl dX5_init_126 ?_
              refine ck_iload_n C rfl dX5_init_129 ?_
              refine ck_aald C (k := 2) rfl rfl (show _ < (1:Nat) by omega) (ca_lt (hA1 2 (by omega) (by omega)) (show _ < z + 32 + 15 * h + 15 by omega)) (Nat.le_of_ble_eq_true rfl) (h) (hs27 2 (0) (h) (by (try simp only [lS, hS, nS, cS]); (try simp) <;> omega)) (by omega) (show _ < (16:Nat) by omega) dX5_init_130 ?_
              refine ck_getrN C (k := 10) (ci := 1) (j := 0) (T := TX1) (host := RX5) rfl (show _ < (16:Nat) by omega) (ca_lt (hA10 h (by omega)).1 (show _ < z + 32 + 15 * h + 15 by omega)) (hs27 10 (h) 0 (by (try simp only [lS, hS, nS, cS]); (try simp) <;> omega)) rfl in_cc_X5_init_X1 (by decide) (by decide +kernel) rfl dX5_init_131 ?_
              refine ck_aast C (k := 3) (ci := 2) rfl rfl (show _ < (1:Nat) by omega) (ca_lt (hA1 3 (by omega) (by omega)) (show _ < z + 32 + 15 * h + 15 by omega)) (Nat.le_of_ble_eq_true rfl) (h) (by omega) (show _ < (64:Nat) by omega) rfl rfl rfl (show _ < (64:Nat) by omega) (ca_lt (hA10 h (by omega)).2.1.1 (show _ < z + 32 + 15 * h + 15 by omega)) dX5_init_134 ?_
              have hs28 := up_nz hs27 3 (0) (h)
              change ck _ p l e _ s m _ below meth c (32 + 15 * h + 1 + 14) (460 + 72 * h + 4 + 68) _ _ _ _ _ _ _ (z + 32 + 15 * h + 15, am_up σ27 3 (0) (h) 1)
              generalize am_up σ27 3 (0) (h) 1 = σ28 at hs28 ⊢
              refine ck_aload_n C rfl dX5_init_135 ?_
              refine ck_getr C (k := 0) (ci := 5) (j := 2) (T := TX5) rfl (show _ < (1:Nat) by omega) (ca_lt (rfl : g.2.2 0 0 = g.2.2 0 0) (show _ < z + 32 + 15 * h + 15 by omega)) (hs28 0 (0) 2 (by (try simp only [lS, hS, nS, cS]); (try simp) <;> omega)) rfl in_cc_X5_init_X5 (by decide) (by decide +kernel) rfl dX5_init_136 ?_
              refine ck_bipush C (n := 16) (by decide) dX5_init_139 ?_
              refine ck_iload_n C rfl dX5_init_141 ?_
              refine ck_iadd C dX5_init_142 ?_
              refine ck_aload_n C rfl dX5_init_143 ?_
              refine ck_getr C (k := 0) (ci := 5) (j := 1) (T := TX5) rfl (show _ < (1:Nat) by omega) (ca_lt (rfl : g.2.2 0 0 = g.2.2 0 0) (show _ < z + 32 + 15 * h + 15 by omega)) (hs28 0 (0) 1 (by (try simp only [lS, hS, nS, cS]); (try simp) <;> omega)) rfl in_cc_X5_init_X5 (by decide) (by decide +kernel) rfl dX5_init_144 ?_
              refine ck_iload_n C rfl dX5_init_147 ?_
              refine ck_aald C (k := 2) rfl rfl (show _ < (1:Nat) by omega) (ca_lt (hA1 2 (by omega) (by omega)) (show _ < z + 32 + 15 * h + 15 by omega)) (Nat.le_of_ble_eq_true rfl) (h) (hs28 2 (0) (h) (by (try simp only [lS, hS, nS, cS]); (try simp) <;> omega)) (by omega) (show _ < (16:Nat) by omega) dX5_init_148 ?_
              refine ck_getrN C (k := 10) (ci := 1) (j := 1) (T := TX1) (host := RX5) rfl (show _ < (16:Nat) by omega) (ca_lt (hA10 h (by omega)).1 (show _ < z + 32 + 15 * h + 15 by omega)) (hs28 10 (h) 1 (by (try simp only [lS, hS, nS, cS]); (try simp) <;> omega)) rfl in_cc_X5_init_X1 (by decide) (by decide +kernel) rfl dX5_init_149 ?_
              refine ck_aast C (k := 3) (ci := 2) rfl rfl (show _ < (1:Nat) by omega) (ca_lt (hA1 3 (by omega) (by omega)) (show _ < z + 32 + 15 * h + 15 by omega)) (Nat.le_of_ble_eq_true rfl) ((16 + h)) (by omega) (show _ < (64:Nat) by omega) rfl rfl rfl (show _ < (64:Nat) by omega) (ca_lt (hA10 h (by omega)).2.2.1 (show _ < z + 32 + 15 * h + 15 by omega)) dX5_init_152 ?_
              have hs29 := up_nz hs28 3 (0) ((16 + h))
              change ck _ p l e _ s m _ below meth c (32 + 15 * h + 1 + 14) (460 + 72 * h + 4 + 68) _ _ _ _ _ _ _ (z + 32 + 15 * h + 15, am_up σ28 3 (0) ((16 + h)) 1)
              generalize am_up σ28 3 (0) ((16 + h)) 1 = σ29 at hs29 ⊢
              refine ck_iinc C rfl (by decide) dX5_init_153 ?_
              refine ck_goto C 101 (by decide) dX5_init_156 ?_
              refine ck_of (cells' := 32 + 15 * (h + 1)) (slots' := 460 + 72 * (h + 1)) (σ' := (z + 32 + 15 * (h + 1), σ29)) (by omega) (by omega) (show _ = _ by omega) rfl ?_
              exact ih (h + 1) _ (by omega) (by omega) (fun k x j hq => hs29 k x j (by (try simp only [lS, hS, nS, cS] at hq); (repeat' (first | (refine Or.elim hq ?_ ?_ <;> clear hq <;> intro hq) | fail)) <;> (first | (obtain ⟨rfl, hq⟩ := hq; ((try simp only [lS, hS, nS, cS]); (try simp) <;> omega)) | (obtain ⟨rfl | rfl, hq⟩ := hq <;> ((try simp only [lS, hS, nS, cS]); (try simp) <;> omega)) | (simp only [hq]; simp) | (simp [hq]))))
        refine ck_of (cells' := 32 + 15 * 0) (slots' := 460 + 72 * 0) (σ' := (z + 32 + 15 * 0, σ9)) (by omega) (by omega) (show _ = _ by omega) rfl ?_
        exact hl101 17 0 _ (by omega) (by omega) (fun k x j hq => hs9 k x j (by (try simp only [lS, hS, nS, cS] at hq); (repeat' (first | (refine Or.elim hq ?_ ?_ <;> clear hq <;> intro hq) | fail)) <;> (first | (obtain ⟨rfl, hq⟩ := hq; ((try simp only [lS, hS, nS, cS]); (try simp) <;> omega)) | (obtain ⟨rfl | rfl, hq⟩ := hq <;> ((try simp only [lS, hS, nS, cS]); (try simp) <;> omega)) | (simp only [hq]; simp) | (simp [hq]))))
      · skip
        refine ck_aload_n C rfl dX5_init_80 ?_
        refine ck_getr C (k := 0) (ci := 5) (j := 0) (T := TX5) rfl (show _ < (1:Nat) by omega) (ca_lt (rfl : g.2.2 0 0 = g.2.2 0 0) (show _ < z + 8 + i by omega)) (hs9 0 (0) 0 (by (try simp only [lS, hS, nS, cS]); (try simp) <;> omega)) rfl in_cc_X5_init_X5 (by decide) (by decide +kernel) rfl dX5_init_81 ?_
        refine ck_iload_n C rfl dX5_init_84 ?_
        refine ck_new C (ci := 0) (i := i) (T := TX0) (index := 9) 9 [false, false, false, false, false, false, false, false, false, false, false, false, false] rfl (show _ < (24:Nat) by omega) (Eq.trans (hA9 i (by omega)) (show _ = z + 8 + i by omega)) rfl in_cc_X5_init_X0 tyX0 tyX0_ok (by decide +kernel) (by decide +kernel) (by decide +kernel) rfl (by decide +kernel) (show 8 + i + 1 ≤ 528 by omega) (show 148 + 13 * i + 13 ≤ 2868 by omega) dX5_init_85 ?_
        change ck _ p l e _ s m _ below meth c (8 + i + 1) (148 + 13 * i + 13) _ _ _ _ _ _ _ (z + 8 + i + 1, σ9)
        refine ck_dup C dX5_init_88 ?_
        refine ck_ofV C (ck_runIN (host := RX5) (index := 46) (st := [_, _, _]) C hao (cc_X0_init l g hI (z + 8 + i + 1) σ9 i) ⟨va_cnB 0 C.2.2.2.2.1 gX5_init_X0_init_n46 rfl rfl rfl (C.2.2.2.2.2.1.2 _ (by decide +kernel)) (C.2.2.2.2.1 (.initialized RX0) (by decide +kernel)) (by decide +kernel) ⟨Nat.le_of_ble_eq_true rfl, Nat.le_of_ble_eq_true rfl⟩, rfl, C.2.2.2.2.1 (.instanceMethod yX0_init) (by decide +kernel)⟩ rfl rfl (Nat.le_of_ble_eq_true rfl) dX5_init_89 ⟨show 8 + i + 1 + 0 ≤ 528 by omega, show 148 + 13 * i + 13 + 0 ≤ 2868 by omega⟩) (fun w30 hp30 => ?_)
        subst hp30
        refine ck_aast C (k := 1) (ci := 0) rfl rfl (show _ < (1:Nat) by omega) (ca_lt (hA1 1 (by omega) (by omega)) (show _ < z + 8 + i + 1 by omega)) (Nat.le_of_ble_eq_true rfl) (i) (by omega) (show _ < (24:Nat) by omega) rfl rfl rfl (show _ < (24:Nat) by omega) (ca_lt (hA9 i (by omega)) (show _ < z + 8 + i + 1 by omega)) dX5_init_92 ?_
        have hs31 := up_nz hs9 1 (0) (i)
        change ck _ p l e _ s m _ below meth c (8 + i + 1 + 0) (148 + 13 * i + 13 + 0) _ _ _ _ _ _ _ (z + 8 + i + 1, am_up σ9 1 (0) (i) 1)
        generalize am_up σ9 1 (0) (i) 1 = σ31 at hs31 ⊢
        refine ck_iinc C rfl (by decide) dX5_init_93 ?_
        refine ck_goto C 74 (by decide) dX5_init_96 ?_
        refine ck_of (cells' := 8 + (i + 1)) (slots' := 148 + 13 * (i + 1)) (σ' := (z + 8 + (i + 1), σ31)) (by omega) (by omega) (show _ = _ by omega) rfl ?_
        exact ih (i + 1) _ (by omega) (by omega) (fun k x j hq => hs31 k x j (by (try simp only [lS, hS, nS, cS] at hq); (repeat' (first | (refine Or.elim hq ?_ ?_ <;> clear hq <;> intro hq) | fail)) <;> (first | (obtain ⟨rfl, hq⟩ := hq; ((try simp only [lS, hS, nS, cS]); (try simp) <;> omega)) | (obtain ⟨rfl | rfl, hq⟩ := hq <;> ((try simp only [lS, hS, nS, cS]); (try simp) <;> omega)) | (simp only [hq]; simp) | (simp [hq]))))
  refine ck_of (cells' := 8 + 0) (slots' := 148 + 13 * 0) (σ' := (z + 8 + 0, σ8)) (by omega) (by omega) (show _ = _ by omega) rfl ?_
  exact hl74 25 0 _ (by omega) (by omega) (fun k x j hq => hs8 k x j (by (try simp only [lS, hS, nS, cS] at hq); (repeat' (first | (refine Or.elim hq ?_ ?_ <;> clear hq <;> intro hq) | fail)) <;> (first | (obtain ⟨rfl, hq⟩ := hq; ((try simp only [lS, hS, nS, cS]); (try simp) <;> omega)) | (obtain ⟨rfl | rfl, hq⟩ := hq <;> ((try simp only [lS, hS, nS, cS]); (try simp) <;> omega)) | (simp only [hq]; simp) | (simp [hq]))))
