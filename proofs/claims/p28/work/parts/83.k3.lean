theorem in_cc_X5_northOf_X5 : ∀ w ∈ u_ws RX5 TX5 13, w ∈ wsX5_northOf := by decide +kernel
set_option maxRecDepth 100000 in
set_option maxHeartbeats 4000000 in
/-- northOf of a component under construction -/
theorem cc_X5_northOf (l : Launch) (g : am_g) (hI : am_inj (gC g)) (z : Nat) (σ : am_M) (a b : Nat) (ha : a < 4) (hb : b < 4) (hz0 : g.2.2 0 0 < z) (hz1 : g.2.2 4 0 < z) (hs0 : ∀ k x j, ((k = 0 ∧ x = 0 ∧ j = 3) ∨ (k = 4 ∧ x = 0 ∧ j = a * 4 + b)) → σ k x j ≠ 0) : Met l yX5_northOf wsX5_northOf ({ frames := 0, cells := 0, slots := 0, locals := 0 }) (cP (gC g) (z, σ) [.inr (0, 0), .inl ((a : Nat) : Int), .inl ((b : Nat) : Int)]) (cQR (gC g) (fun r w => w = (z, σ) ∧ r = (11, 32 + (a * 4 + b)))) (0) (0) (am_FA (gC g)) := by
  refine ck_start (cc := cX5_northOf) (nL := 3) (ret := (some (.object "Fabricsim$Link"))) (own := RX5) (by decide) rfl hI rfl (Nat.le_of_ble_eq_true rfl) ?_
  intro p e s m below meth c C hao hnm hr hlk
  change ck _ p l e _ s m _ below meth c 0 0 _ _ _ _ 0 [some (.inr (0, 0)), some (.inl ((a : Nat) : Int)), some (.inl ((b : Nat) : Int))] [] (z, σ)
  refine ck_aload_n C rfl dX5_northOf_0 ?_
  refine ck_getr C (k := 0) (ci := 5) (j := 3) (T := TX5) rfl (show _ < (1:Nat) by omega) (ca_lt (rfl : g.2.2 0 0 = g.2.2 0 0) (show _ < z by omega)) (hs0 0 (0) 3 (by (try simp only [lS, hS, nS, cS]); (try simp) <;> omega)) rfl in_cc_X5_northOf_X5 (by decide) (by decide +kernel) rfl dX5_northOf_1 ?_
  refine ck_iload_n C rfl dX5_northOf_4 ?_
  refine ck_iconst C dX5_northOf_5 ?_
  refine ck_imul C dX5_northOf_6 ?_
  refine ck_iload_n C rfl dX5_northOf_7 ?_
  refine ck_iadd C dX5_northOf_8 ?_
  refine ck_aald C (k := 4) rfl rfl (show _ < (1:Nat) by omega) (ca_lt (rfl : g.2.2 4 0 = g.2.2 4 0) (show _ < z by omega)) (Nat.le_of_ble_eq_true rfl) (((a * 4) + b)) (hs0 4 (0) (((a * 4) + b)) (by (try simp only [lS, hS, nS, cS]); (try simp) <;> omega)) (by omega) (show _ < (16:Nat) by omega) dX5_northOf_9 ?_
  refine ck_aret C hr hlk dX5_northOf_10 ?_
  exact ⟨rfl, rfl⟩

theorem in_cc_X5_southOf_X5 : ∀ w ∈ u_ws RX5 TX5 13, w ∈ wsX5_southOf := by decide +kernel
set_option maxRecDepth 100000 in
set_option maxHeartbeats 4000000 in
/-- southOf of a component under construction -/
theorem cc_X5_southOf (l : Launch) (g : am_g) (hI : am_inj (gC g)) (z : Nat) (σ : am_M) (a b : Nat) (ha : a < 4) (hb : b < 4) (hz0 : g.2.2 0 0 < z) (hz1 : g.2.2 5 0 < z) (hs0 : ∀ k x j, ((k = 0 ∧ x = 0 ∧ j = 4) ∨ (k = 5 ∧ x = 0 ∧ j = a * 4 + b)) → σ k x j ≠ 0) : Met l yX5_southOf wsX5_southOf ({ frames := 0, cells := 0, slots := 0, locals := 0 }) (cP (gC g) (z, σ) [.inr (0, 0), .inl ((a : Nat) : Int), .inl ((b : Nat) : Int)]) (cQR (gC g) (fun r w => w = (z, σ) ∧ r = (11, 48 + (a * 4 + b)))) (0) (0) (am_FA (gC g)) := by
  refine ck_start (cc := cX5_southOf) (nL := 3) (ret := (some (.object "Fabricsim$Link"))) (own := RX5) (by decide) rfl hI rfl (Nat.le_of_ble_eq_true rfl) ?_
  intro p e s m below meth c C hao hnm hr hlk
  change ck _ p l e _ s m _ below meth c 0 0 _ _ _ _ 0 [some (.inr (0, 0)), some (.inl ((a : Nat) : Int)), some (.inl ((b : Nat) : Int))] [] (z, σ)
  refine ck_aload_n C rfl dX5_southOf_0 ?_
  refine ck_getr C (k := 0) (ci := 5) (j := 4) (T := TX5) rfl (show _ < (1:Nat) by omega) (ca_lt (rfl : g.2.2 0 0 = g.2.2 0 0) (show _ < z by omega)) (hs0 0 (0) 4 (by (try simp only [lS, hS, nS, cS]); (try simp) <;> omega)) rfl in_cc_X5_southOf_X5 (by decide) (by decide +kernel) rfl dX5_southOf_1 ?_
  refine ck_iload_n C rfl dX5_southOf_4 ?_
  refine ck_iconst C dX5_southOf_5 ?_
  refine ck_imul C dX5_southOf_6 ?_
  refine ck_iload_n C rfl dX5_southOf_7 ?_
  refine ck_iadd C dX5_southOf_8 ?_
  refine ck_aald C (k := 5) rfl rfl (show _ < (1:Nat) by omega) (ca_lt (rfl : g.2.2 5 0 = g.2.2 5 0) (show _ < z by omega)) (Nat.le_of_ble_eq_true rfl) (((a * 4) + b)) (hs0 5 (0) (((a * 4) + b)) (by (try simp only [lS, hS, nS, cS]); (try simp) <;> omega)) (by omega) (show _ < (16:Nat) by omega) dX5_southOf_9 ?_
  refine ck_aret C hr hlk dX5_southOf_10 ?_
  exact ⟨rfl, rfl⟩

theorem in_cc_X5_joinLeaf_X1 : ∀ w ∈ u_ws RX1 TX1 4, w ∈ wsX5_joinLeaf := by decide +kernel
theorem in_cc_X5_joinLeaf_X3 : ∀ w ∈ u_ws RX3 TX3 3, w ∈ wsX5_joinLeaf := by decide +kernel
theorem in_cc_X5_joinLeaf_X5 : ∀ w ∈ u_ws RX5 TX5 13, w ∈ wsX5_joinLeaf := by decide +kernel
set_option maxRecDepth 100000 in
set_option maxHeartbeats 4000000 in
/-- joinLeaf -/
theorem cc_X5_joinLeaf (l : Launch) (g : am_g) (hI : am_inj (gC g)) (z0 z : Nat) (σ : am_M) (n : Nat) (hn : n < 4) (hcA : cA g z0) (hz : z0 + 500 + 4 * n ≤ z) (hsI : ∀ k x j, (cS 24 16 16 n 0 k x j ∨ (k = 6 ∧ x = 0 ∧ j = n) ∨ nS n k x j) → σ k x j ≠ 0) : Met l yX5_joinLeaf wsX5_joinLeaf ({ frames := 1, cells := 0, slots := 0, locals := 22 }) (cP (gC g) (z, σ) [.inr (0, 0), .inl ((n : Nat) : Int)]) (cQV (gC g) (fun w => w.1 = z ∧ ∀ k x j, (σ k x j ≠ 0 ∨ ((k = 16 ∨ k = 17) ∧ x = n ∧ j < 8)) → w.2 k x j ≠ 0)) (0) (0) (am_FA (gC g)) := by
  refine ck_start (cc := cX5_joinLeaf) (nL := 5) (ret := none) (own := RX5) (by decide) rfl hI rfl (Nat.le_of_ble_eq_true rfl) ?_
  intro p e s m below meth c C hao hnm hr hlk
  change ck _ p l e _ s m _ below meth c 0 0 _ _ _ _ 0 [some (.inr (0, 0)), some (.inl ((n : Nat) : Int)), none, none, none] [] (z, σ)
  obtain ⟨hA0, hA1, hA9, hA10, hA32, hA15⟩ := hcA
  have hs0 : ∀ k x j, (σ k x j ≠ 0 ∨ (cS 24 16 16 n 0 k x j ∨ (k = 6 ∧ x = 0 ∧ j = n) ∨ nS n k x j)) → σ k x j ≠ 0 := fun k x j hq => hq.elim id (hsI k x j)
  refine ck_aload_n C rfl dX5_joinLeaf_0 ?_
  refine ck_getr C (k := 0) (ci := 5) (j := 5) (T := TX5) rfl (show _ < (1:Nat) by omega) (ca_lt (rfl : g.2.2 0 0 = g.2.2 0 0) (show _ < z by omega)) (hs0 0 (0) 5 (by (try simp only [lS, hS, nS, cS]); (try simp) <;> omega)) rfl in_cc_X5_joinLeaf_X5 (by decide) (by decide +kernel) rfl dX5_joinLeaf_1 ?_
  refine ck_iload_n C rfl dX5_joinLeaf_4 ?_
  refine ck_aald C (k := 6) rfl rfl (show _ < (1:Nat) by omega) (ca_lt (hA1 6 (by omega) (by omega)) (show _ < z by omega)) (Nat.le_of_ble_eq_true rfl) (n) (hs0 6 (0) (n) (by (try simp only [lS, hS, nS, cS]); (try simp) <;> omega)) (by omega) (show _ < (4:Nat) by omega) dX5_joinLeaf_5 ?_
  refine ck_astore_n C (by decide) (Nat.le_of_ble_eq_true rfl) dX5_joinLeaf_6 ?_
  refine ck_iconst C dX5_joinLeaf_7 ?_
  refine ck_istore_n C (by decide) (Nat.le_of_ble_eq_true rfl) dX5_joinLeaf_8 ?_
  have hl9 : ∀ (d u : Nat) (σ1 : am_M), 5 ≤ u + d → u ≤ 4 → (∀ k x j, ((σ k x j ≠ 0 ∨ (cS 24 16 16 n 0 k x j ∨ (k = 6 ∧ x = 0 ∧ j = n) ∨ nS n k x j)) ∨ ((k = 16 ∨ k = 17) ∧ x = n ∧ j < u)) → σ1 k x j ≠ 0) → ck (gC g) p l e (headSpec wsX5_joinLeaf ({ frames := 1, cells := 0, slots := 0, locals := 22 })).room s m ([.inr (0, 0), .inl ((n : Nat) : Int)].map (am_tv (gC g))).toArray below meth c (0) (0) (MQ below (cQV (gC g) (fun w => w.1 = z ∧ ∀ k x j, (σ k x j ≠ 0 ∨ ((k = 16 ∨ k = 17) ∧ x = n ∧ j < 8)) → w.2 k x j ≠ 0)) ([.inr (0, 0), .inl ((n : Nat) : Int)].map (am_tv (gC g))).toArray s (0) (0) (am_FA (gC g))) (am_FA (gC g)) s.heap 5 9 [some (.inr (0, 0)), some (.inl ((n : Nat) : Int)), some (.inr (15, n)), some (.inl ((u : Nat) : Int)), none] [] (z, σ1) := by
    intro d
    induction d with
    | zero => intro u σ1 h1 h2 h3; exact absurd h1 (by omega)
    | succ d ih =>
      intro u σ1 h1 h2 hs1
      refine ck_iload_n C rfl dX5_joinLeaf_9 ?_
      refine ck_iconst C dX5_joinLeaf_10 ?_
      refine ck_icmp_ge C 54 (by omega) (by omega) (by decide) dX5_joinLeaf_11 (fun hc11 => ?_) (fun hc11 => ?_)
      · skip
        obtain rfl : u = 4 := by omega
        refine ck_iconst C dX5_joinLeaf_54 ?_
        refine ck_istore_n C (by decide) (Nat.le_of_ble_eq_true rfl) dX5_joinLeaf_55 ?_
        have hl56 : ∀ (d u : Nat) (σ2 : am_M), 5 ≤ u + d → u ≤ 4 → (∀ k x j, ((σ k x j ≠ 0 ∨ (cS 24 16 16 n 0 k x j ∨ (k = 6 ∧ x = 0 ∧ j = n) ∨ nS n k x j)) ∨ ((k = 16 ∨ k = 17) ∧ x = n ∧ j < 4 + u)) → σ2 k x j ≠ 0) → ck (gC g) p l e (headSpec wsX5_joinLeaf ({ frames := 1, cells := 0, slots := 0, locals := 22 })).room s m ([.inr (0, 0), .inl ((n : Nat) : Int)].map (am_tv (gC g))).toArray below meth c (0) (0) (MQ below (cQV (gC g) (fun w => w.1 = z ∧ ∀ k x j, (σ k x j ≠ 0 ∨ ((k = 16 ∨ k = 17) ∧ x = n ∧ j < 8)) → w.2 k x j ≠ 0)) ([.inr (0, 0), .inl ((n : Nat) : Int)].map (am_tv (gC g))).toArray s (0) (0) (am_FA (gC g))) (am_FA (gC g)) s.heap 5 56 [some (.inr (0, 0)), some (.inl ((n : Nat) : Int)), some (.inr (15, n)), some (.inl ((u : Nat) : Int)), none] [] (z, σ2) := by
          intro d
          induction d with
          | zero => intro u σ2 h1 h2 h3; exact absurd h1 (by omega)
          | succ d ih =>
            intro u σ2 h1 h2 hs2
            refine ck_iload_n C rfl dX5_joinLeaf_56 ?_
            refine ck_iconst C dX5_joinLeaf_57 ?_
            refine ck_icmp_ge C 95 (by omega) (by omega) (by decide) dX5_joinLeaf_58 (fun hc58 => ?_) (fun hc58 => ?_)
            · skip
              obtain rfl : u = 4 := by omega
              refine ck_vret C hr hlk rfl rfl dX5_joinLeaf_95 ?_
              refine ⟨rfl, fun k x j hq => hs2 k x j ?_⟩
              (try simp only [lS, hS, nS, cS] at hq); (repeat' (first | (refine Or.elim hq ?_ ?_ <;> clear hq <;> intro hq) | fail)) <;> (first | (obtain ⟨rfl, hq⟩ := hq; ((try simp only [lS, hS, nS, cS]); (try simp) <;> omega)) | (obtain ⟨rfl | rfl, hq⟩ := hq <;> ((try simp only [lS, hS, nS, cS]); (try simp) <;> omega)) | (simp only [hq]; simp) | (simp [hq]))
            · skip
              refine ck_aload_n C rfl dX5_joinLeaf_61 ?_
              refine ck_getrN C (k := 15) (ci := 3) (j := 0) (T := TX3) (host := RX5) rfl (show _ < (8:Nat) by omega) (ca_lt (hA15 n (by omega)).1 (show _ < z by omega)) (hs2 15 (n) 0 (by (try simp only [lS, hS, nS, cS]); (try simp) <;> omega)) rfl in_cc_X5_joinLeaf_X3 (by decide) (by decide +kernel) rfl dX5_joinLeaf_62 ?_
              refine ck_iconst C dX5_joinLeaf_65 ?_
              refine ck_iload_n C rfl dX5_joinLeaf_66 ?_
              refine ck_iadd C dX5_joinLeaf_67 ?_
              refine ck_aload_n C rfl dX5_joinLeaf_68 ?_
              refine ck_iload_n C rfl dX5_joinLeaf_69 ?_
              refine ck_iload_n C rfl dX5_joinLeaf_70 ?_
              refine ck_ofR C (ck_runV (index := 76) (ci := 5) (st := [_, _]) C hao (cc_X5_southOf l g hI (z) σ2 u n (by omega) (by omega) (by omega) (ca_lt (hA1 5 (by omega) (by omega)) (by omega)) (fun k x j hq => hs2 k x j (by (try simp only [lS, hS, nS, cS] at hq); (repeat' (first | (refine Or.elim hq ?_ ?_ <;> clear hq <;> intro hq) | fail)) <;> (first | (obtain ⟨rfl, hq⟩ := hq; ((try simp only [lS, hS, nS, cS]); (try simp) <;> omega)) | (obtain ⟨rfl | rfl, hq⟩ := hq <;> ((try simp only [lS, hS, nS, cS]); (try simp) <;> omega)) | (simp only [hq]; simp) | (simp [hq]))))) (cwV 2 C.2.2.2.2.1 gX5_joinLeaf_X5_southOf rfl rfl rfl (by decide +kernel) ⟨Nat.le_of_ble_eq_true rfl, Nat.le_of_ble_eq_true rfl⟩) rfl (show _ < (1:Nat) by omega) (ca_lt (rfl : g.2.2 0 0 = g.2.2 0 0) (show _ < z by omega)) rfl rfl rfl (Nat.le_of_ble_eq_true rfl) dX5_joinLeaf_71 ⟨show 0 + 0 ≤ 0 by omega, show 0 + 0 ≤ 0 by omega⟩) (fun r3 w3 hp3 => ?_)
              obtain ⟨hw3, hr3⟩ := hp3
              subst hw3 hr3
              refine ck_aast C (k := 16) (ci := 2) rfl rfl (show _ < (8:Nat) by omega) (ca_lt (hA15 n (by omega)).2.1 (show _ < z by omega)) (by have := lc_dle (n); omega) ((4 + u)) (by omega) (show _ < lc_d n by rw [lc_d, if_pos (by omega)]; omega) (by show (11, lc_in n (4 + u)) = (11, 48 + (u * 4 + n)); rw [lc_in, if_pos (by omega), if_neg (by omega)]; simp only [Prod.mk.injEq, true_and]; omega) rfl rfl (show _ < (64:Nat) by omega) (ca_lt (hA32 (u * 4 + n) (by omega)).2.1 (show _ < z by omega)) dX5_joinLeaf_74 ?_
              have hs4 := up_nz hs2 16 (n) ((4 + u))
              change ck _ p l e _ s m _ below meth c (0) (0) _ _ _ _ _ _ _ (z, am_up σ2 16 (n) ((4 + u)) 1)
              generalize am_up σ2 16 (n) ((4 + u)) 1 = σ4 at hs4 ⊢
              refine ck_aload_n C rfl dX5_joinLeaf_75 ?_
              refine ck_getrN C (k := 15) (ci := 3) (j := 1) (T := TX3) (host := RX5) rfl (show _ < (8:Nat) by omega) (ca_lt (hA15 n (by omega)).1 (show _ < z by omega)) (hs4 15 (n) 1 (by (try simp only [lS, hS, nS, cS]); (try simp) <;> omega)) rfl in_cc_X5_joinLeaf_X3 (by decide) (by decide +kernel) rfl dX5_joinLeaf_76 ?_
              refine ck_iconst C dX5_joinLeaf_79 ?_
              refine ck_iload_n C rfl dX5_joinLeaf_80 ?_
              refine ck_iadd C dX5_joinLeaf_81 ?_
              refine ck_aload_n C rfl dX5_joinLeaf_82 ?_
              refine ck_iload_n C rfl dX5_joinLeaf_83 ?_
              refine ck_iload_n C rfl dX5_joinLeaf_84 ?_
              refine ck_ofR C (ck_runV (index := 80) (ci := 5) (st := [_, _]) C hao (cc_X5_northOf l g hI (z) σ4 n u (by omega) (by omega) (by omega) (ca_lt (hA1 4 (by omega) (by omega)) (by omega)) (fun k x j hq => hs4 k x j (by (try simp only [lS, hS, nS, cS] at hq); (repeat' (first | (refine Or.elim hq ?_ ?_ <;> clear hq <;> intro hq) | fail)) <;> (first | (obtain ⟨rfl, hq⟩ := hq; ((try simp only [lS, hS, nS, cS]); (try simp) <;> omega)) | (obtain ⟨rfl | rfl, hq⟩ := hq <;> ((try simp only [lS, hS, nS, cS]); (try simp) <;> omega)) | (simp only [hq]; simp) | (simp [hq]))))) (cwV 2 C.2.2.2.2.1 gX5_joinLeaf_X5_northOf rfl rfl rfl (by decide +kernel) ⟨Nat.le_of_ble_eq_true rfl, Nat.le_of_ble_eq_true rfl⟩) rfl (show _ < (1:Nat) by omega) (ca_lt (rfl : g.2.2 0 0 = g.2.2 0 0) (show _ < z by omega)) rfl rfl rfl (Nat.le_of_ble_eq_true rfl) dX5_joinLeaf_85 ⟨show 0 + 0 ≤ 0 by omega, show 0 + 0 ≤ 0 by omega⟩) (fun r5 w5 hp5 => ?_)
              obtain ⟨hw5, hr5⟩ := hp5
              subst hw5 hr5
              refine ck_aast C (k := 17) (ci := 2) rfl rfl (show _ < (8:Nat) by omega) (ca_lt (hA15 n (by omega)).2.2.1 (show _ < z by omega)) (by have := lc_dle (n); omega) ((4 + u)) (by omega) (show _ < lc_d n by rw [lc_d, if_pos (by omega)]; omega) (by show (11, lc_out n (4 + u)) = (11, 32 + (n * 4 + u)); rw [lc_out, if_pos (by omega), if_neg (by omega)]; simp only [Prod.mk.injEq, true_and]; omega) rfl rfl (show _ < (64:Nat) by omega) (ca_lt (hA32 (n * 4 + u) (by omega)).1.1 (show _ < z by omega)) dX5_joinLeaf_88 ?_
              have hs6 := up_nz hs4 17 (n) ((4 + u))
              change ck _ p l e _ s m _ below meth c (0) (0) _ _ _ _ _ _ _ (z, am_up σ4 17 (n) ((4 + u)) 1)
              generalize am_up σ4 17 (n) ((4 + u)) 1 = σ6 at hs6 ⊢
              refine ck_iinc C rfl (by decide) dX5_joinLeaf_89 ?_
              refine ck_goto C 56 (by decide) dX5_joinLeaf_92 ?_
              refine ck_le (lw := [some (.inr (0, 0)), some (.inl ((n : Nat) : Int)), some (.inr (15, n)), some (.inl (((u + 1 : Nat) : Nat) : Int)), none]) (by repeat (first | exact le_0 | refine le_s ?_ | refine le_n ?_)) ?_
              exact ih (u + 1) _ (by omega) (by omega) (fun k x j hq => hs6 k x j (by (try simp only [lS, hS, nS, cS] at hq); (repeat' (first | (refine Or.elim hq ?_ ?_ <;> clear hq <;> intro hq) | fail)) <;> (first | (obtain ⟨rfl, hq⟩ := hq; ((try simp only [lS, hS, nS, cS]); (try simp) <;> omega)) | (obtain ⟨rfl | rfl, hq⟩ := hq <;> ((try simp only [lS, hS, nS, cS]); (try simp) <;> omega)) | (simp only [hq]; simp) | (simp [hq]))))
        refine ck_of (cells' := 0) (slots' := 0) (σ' := (z, σ1)) (by omega) (by omega) (show _ = _ by omega) rfl ?_
        exact hl56 5 0 _ (by omega) (by omega) (fun k x j hq => hs1 k x j (by (try simp only [lS, hS, nS, cS] at hq); (repeat' (first | (refine Or.elim hq ?_ ?_ <;> clear hq <;> intro hq) | fail)) <;> (first | (obtain ⟨rfl, hq⟩ := hq; ((try simp only [lS, hS, nS, cS]); (try simp) <;> omega)) | (obtain ⟨rfl | rfl, hq⟩ := hq <;> ((try simp only [lS, hS, nS, cS]); (try simp) <;> omega)) | (simp only [hq]; simp) | (simp [hq]))))
      · skip
        refine ck_aload_n C rfl dX5_joinLeaf_14 ?_
        refine ck_getr C (k := 0) (ci := 5) (j := 1) (T := TX5) rfl (show _ < (1:Nat) by omega) (ca_lt (rfl : g.2.2 0 0 = g.2.2 0 0) (show _ < z by omega)) (hs1 0 (0) 1 (by (try simp only [lS, hS, nS, cS]); (try simp) <;> omega)) rfl in_cc_X5_joinLeaf_X5 (by decide) (by decide +kernel) rfl dX5_joinLeaf_15 ?_
        refine ck_iload_n C rfl dX5_joinLeaf_18 ?_
        refine ck_iconst C dX5_joinLeaf_19 ?_
        refine ck_imul C dX5_joinLeaf_20 ?_
        refine ck_iload_n C rfl dX5_joinLeaf_21 ?_
        refine ck_iadd C dX5_joinLeaf_22 ?_
        refine ck_aald C (k := 2) rfl rfl (show _ < (1:Nat) by omega) (ca_lt (hA1 2 (by omega) (by omega)) (show _ < z by omega)) (Nat.le_of_ble_eq_true rfl) (((n * 4) + u)) (hs1 2 (0) (((n * 4) + u)) (by (try simp only [lS, hS, nS, cS]); (try simp) <;> omega)) (by omega) (show _ < (16:Nat) by omega) dX5_joinLeaf_23 ?_
        refine ck_astore C (by decide) (Nat.le_of_ble_eq_true rfl) dX5_joinLeaf_24 ?_
        refine ck_aload_n C rfl dX5_joinLeaf_26 ?_
        refine ck_getrN C (k := 15) (ci := 3) (j := 0) (T := TX3) (host := RX5) rfl (show _ < (8:Nat) by omega) (ca_lt (hA15 n (by omega)).1 (show _ < z by omega)) (hs1 15 (n) 0 (by (try simp only [lS, hS, nS, cS]); (try simp) <;> omega)) rfl in_cc_X5_joinLeaf_X3 (by decide) (by decide +kernel) rfl dX5_joinLeaf_27 ?_
        refine ck_iload_n C rfl dX5_joinLeaf_30 ?_
        refine ck_aload C rfl dX5_joinLeaf_31 ?_
        refine ck_getrN C (k := 10) (ci := 1) (j := 0) (T := TX1) (host := RX5) rfl (show _ < (16:Nat) by omega) (ca_lt (hA10 ((n * 4) + u) (by omega)).1 (show _ < z by omega)) (hs1 10 (((n * 4) + u)) 0 (by (try simp only [lS, hS, nS, cS]); (try simp) <;> omega)) rfl in_cc_X5_joinLeaf_X1 (by decide) (by decide +kernel) rfl dX5_joinLeaf_33 ?_
        refine ck_aast C (k := 16) (ci := 2) rfl rfl (show _ < (8:Nat) by omega) (ca_lt (hA15 n (by omega)).2.1 (show _ < z by omega)) (by have := lc_dle (n); omega) (u) (by omega) (show _ < lc_d n by rw [lc_d, if_pos (by omega)]; omega) (by show (11, lc_in n (u)) = (11, (n * 4) + u); rw [lc_in, if_pos (by omega), if_pos (by omega)]; simp only [Prod.mk.injEq, true_and]; omega) rfl rfl (show _ < (64:Nat) by omega) (ca_lt (hA10 ((n * 4) + u) (by omega)).2.1.1 (show _ < z by omega)) dX5_joinLeaf_36 ?_
        have hs7 := up_nz hs1 16 (n) (u)
        change ck _ p l e _ s m _ below meth c (0) (0) _ _ _ _ _ _ _ (z, am_up σ1 16 (n) (u) 1)
        generalize am_up σ1 16 (n) (u) 1 = σ7 at hs7 ⊢
        refine ck_aload_n C rfl dX5_joinLeaf_37 ?_
        refine ck_getrN C (k := 15) (ci := 3) (j := 1) (T := TX3) (host := RX5) rfl (show _ < (8:Nat) by omega) (ca_lt (hA15 n (by omega)).1 (show _ < z by omega)) (hs7 15 (n) 1 (by (try simp only [lS, hS, nS, cS]); (try simp) <;> omega)) rfl in_cc_X5_joinLeaf_X3 (by decide) (by decide +kernel) rfl dX5_joinLeaf_38 ?_
        refine ck_iload_n C rfl dX5_joinLeaf_41 ?_
        refine ck_aload C rfl dX5_joinLeaf_42 ?_
        refine ck_getrN C (k := 10) (ci := 1) (j := 1) (T := TX1) (host := RX5) rfl (show _ < (16:Nat) by omega) (ca_lt (hA10 ((n * 4) + u) (by omega)).1 (show _ < z by omega)) (hs7 10 (((n * 4) + u)) 1 (by (try simp only [lS, hS, nS, cS]); (try simp) <;> omega)) rfl in_cc_X5_joinLeaf_X1 (by decide) (by decide +kernel) rfl dX5_joinLeaf_44 ?_
        refine ck_aast C (k := 17) (ci := 2) rfl rfl (show _ < (8:Nat) by omega) (ca_lt (hA15 n (by omega)).2.2.1 (show _ < z by omega)) (by have := lc_dle (n); omega) (u) (by omega) (show _ < lc_d n by rw [lc_d, if_pos (by omega)]; omega) (by show (11, lc_out n (u)) = (11, 16 + ((n * 4) + u)); rw [lc_out, if_pos (by omega), if_pos (by omega)]; simp only [Prod.mk.injEq, true_and]; omega) rfl rfl (show _ < (64:Nat) by omega) (ca_lt (hA10 ((n * 4) + u) (by omega)).2.2.1 (show _ < z by omega)) dX5_joinLeaf_47 ?_
        have hs8 := up_nz hs7 17 (n) (u)
        change ck _ p l e _ s m _ below meth c (0) (0) _ _ _ _ _ _ _ (z, am_up σ7 17 (n) (u) 1)
        generalize am_up σ7 17 (n) (u) 1 = σ8 at hs8 ⊢
        refine ck_iinc C rfl (by decide) dX5_joinLeaf_48 ?_
        refine ck_goto C 9 (by decide) dX5_joinLeaf_51 ?_
        refine ck_le (lw := [some (.inr (0, 0)), some (.inl ((n : Nat) : Int)), some (.inr (15, n)), some (.inl (((u + 1 : Nat) : Nat) : Int)), none]) (by repeat (first | exact le_0 | refine le_s ?_ | refine le_n ?_)) ?_
        exact ih (u + 1) _ (by omega) (by omega) (fun k x j hq => hs8 k x j (by (try simp only [lS, hS, nS, cS] at hq); (repeat' (first | (refine Or.elim hq ?_ ?_ <;> clear hq <;> intro hq) | fail)) <;> (first | (obtain ⟨rfl, hq⟩ := hq; ((try simp only [lS, hS, nS, cS]); (try simp) <;> omega)) | (obtain ⟨rfl | rfl, hq⟩ := hq <;> ((try simp only [lS, hS, nS, cS]); (try simp) <;> omega)) | (simp only [hq]; simp) | (simp [hq]))))
  refine ck_of (cells' := 0) (slots' := 0) (σ' := (z, σ)) (by omega) (by omega) (show _ = _ by omega) rfl ?_
  exact hl9 5 0 _ (by omega) (by omega) (fun k x j hq => hs0 k x j (by (try simp only [lS, hS, nS, cS] at hq); (repeat' (first | (refine Or.elim hq ?_ ?_ <;> clear hq <;> intro hq) | fail)) <;> (first | (obtain ⟨rfl, hq⟩ := hq; ((try simp only [lS, hS, nS, cS]); (try simp) <;> omega)) | (obtain ⟨rfl | rfl, hq⟩ := hq <;> ((try simp only [lS, hS, nS, cS]); (try simp) <;> omega)) | (simp only [hq]; simp) | (simp [hq]))))

theorem in_cc_X5_joinSpine_X3 : ∀ w ∈ u_ws RX3 TX3 3, w ∈ wsX5_joinSpine := by decide +kernel
theorem in_cc_X5_joinSpine_X5 : ∀ w ∈ u_ws RX5 TX5 13, w ∈ wsX5_joinSpine := by decide +kernel
set_option maxRecDepth 100000 in
set_option maxHeartbeats 4000000 in
/-- joinSpine -/
theorem cc_X5_joinSpine (l : Launch) (g : am_g) (hI : am_inj (gC g)) (z0 z : Nat) (σ : am_M) (n : Nat) (hn : n < 4) (hcA : cA g z0) (hz : z0 + 516 + 4 * n ≤ z) (hsI : ∀ k x j, (cS 24 16 16 4 n k x j ∨ (k = 7 ∧ x = 0 ∧ j = n) ∨ nS (4 + n) k x j) → σ k x j ≠ 0) : Met l yX5_joinSpine wsX5_joinSpine ({ frames := 1, cells := 0, slots := 0, locals := 22 }) (cP (gC g) (z, σ) [.inr (0, 0), .inl ((n : Nat) : Int)]) (cQV (gC g) (fun w => w.1 = z ∧ ∀ k x j, (σ k x j ≠ 0 ∨ ((k = 16 ∨ k = 17) ∧ x = 4 + n ∧ j < 4)) → w.2 k x j ≠ 0)) (0) (0) (am_FA (gC g)) := by
  refine ck_start (cc := cX5_joinSpine) (nL := 4) (ret := none) (own := RX5) (by decide) rfl hI rfl (Nat.le_of_ble_eq_true rfl) ?_
  intro p e s m below meth c C hao hnm hr hlk
  change ck _ p l e _ s m _ below meth c 0 0 _ _ _ _ 0 [some (.inr (0, 0)), some (.inl ((n : Nat) : Int)), none, none] [] (z, σ)
  obtain ⟨hA0, hA1, hA9, hA10, hA32, hA15⟩ := hcA
  have hs0 : ∀ k x j, (σ k x j ≠ 0 ∨ (cS 24 16 16 4 n k x j ∨ (k = 7 ∧ x = 0 ∧ j = n) ∨ nS (4 + n) k x j)) → σ k x j ≠ 0 := fun k x j hq => hq.elim id (hsI k x j)
  refine ck_aload_n C rfl dX5_joinSpine_0 ?_
  refine ck_getr C (k := 0) (ci := 5) (j := 6) (T := TX5) rfl (show _ < (1:Nat) by omega) (ca_lt (rfl : g.2.2 0 0 = g.2.2 0 0) (show _ < z by omega)) (hs0 0 (0) 6 (by (try simp only [lS, hS, nS, cS]); (try simp) <;> omega)) rfl in_cc_X5_joinSpine_X5 (by decide) (by decide +kernel) rfl dX5_joinSpine_1 ?_
  refine ck_iload_n C rfl dX5_joinSpine_4 ?_
  refine ck_aald C (k := 7) rfl rfl (show _ < (1:Nat) by omega) (ca_lt (hA1 7 (by omega) (by omega)) (show _ < z by omega)) (Nat.le_of_ble_eq_true rfl) (n) (hs0 7 (0) (n) (by (try simp only [lS, hS, nS, cS]); (try simp) <;> omega)) (by omega) (show _ < (4:Nat) by omega) dX5_joinSpine_5 ?_
  refine ck_astore_n C (by decide) (Nat.le_of_ble_eq_true rfl) dX5_joinSpine_6 ?_
  refine ck_iconst C dX5_joinSpine_7 ?_
  refine ck_istore_n C (by decide) (Nat.le_of_ble_eq_true rfl) dX5_joinSpine_8 ?_
  have hl9 : ∀ (d u : Nat) (σ1 : am_M), 5 ≤ u + d → u ≤ 4 → (∀ k x j, ((σ k x j ≠ 0 ∨ (cS 24 16 16 4 n k x j ∨ (k = 7 ∧ x = 0 ∧ j = n) ∨ nS (4 + n) k x j)) ∨ ((k = 16 ∨ k = 17) ∧ x = 4 + n ∧ j < u)) → σ1 k x j ≠ 0) → ck (gC g) p l e (headSpec wsX5_joinSpine ({ frames := 1, cells := 0, slots := 0, locals := 22 })).room s m ([.inr (0, 0), .inl ((n : Nat) : Int)].map (am_tv (gC g))).toArray below meth c (0) (0) (MQ below (cQV (gC g) (fun w => w.1 = z ∧ ∀ k x j, (σ k x j ≠ 0 ∨ ((k = 16 ∨ k = 17) ∧ x = 4 + n ∧ j < 4)) → w.2 k x j ≠ 0)) ([.inr (0, 0), .inl ((n : Nat) : Int)].map (am_tv (gC g))).toArray s (0) (0) (am_FA (gC g))) (am_FA (gC g)) s.heap 4 9 [some (.inr (0, 0)), some (.inl ((n : Nat) : Int)), some (.inr (15, (4 + n))), some (.inl ((u : Nat) : Int))] [] (z, σ1) := by
    intro d
    induction d with
    | zero => intro u σ1 h1 h2 h3; exact absurd h1 (by omega)
    | succ d ih =>
      intro u σ1 h1 h2 hs1
      refine ck_iload_n C rfl dX5_joinSpine_9 ?_
      refine ck_iconst C dX5_joinSpine_10 ?_
      refine ck_icmp_ge C 44 (by omega) (by omega) (by decide) dX5_joinSpine_11 (fun hc11 => ?_) (fun hc11 => ?_)
      · skip
        obtain rfl : u = 4 := by omega
        refine ck_vret C hr hlk rfl rfl dX5_joinSpine_44 ?_
        refine ⟨rfl, fun k x j hq => hs1 k x j ?_⟩
        (try simp only [lS, hS, nS, cS] at hq); (repeat' (first | (refine Or.elim hq ?_ ?_ <;> clear hq <;> intro hq) | fail)) <;> (first | (obtain ⟨rfl, hq⟩ := hq; ((try simp only [lS, hS, nS, cS]); (try simp) <;> omega)) | (obtain ⟨rfl | rfl, hq⟩ := hq <;> ((try simp only [lS, hS, nS, cS]); (try simp) <;> omega)) | (simp only [hq]; simp) | (simp [hq]))
      · skip
        refine ck_aload_n C rfl dX5_joinSpine_14 ?_
        refine ck_getrN C (k := 15) (ci := 3) (j := 0) (T := TX3) (host := RX5) rfl (show _ < (8:Nat) by omega) (ca_lt (hA15 (4 + n) (by omega)).1 (show _ < z by omega)) (hs1 15 ((4 + n)) 0 (by (try simp only [lS, hS, nS, cS]); (try simp) <;> omega)) rfl in_cc_X5_joinSpine_X3 (by decide) (by decide +kernel) rfl dX5_joinSpine_15 ?_
        refine ck_iload_n C rfl dX5_joinSpine_18 ?_
        refine ck_aload_n C rfl dX5_joinSpine_19 ?_
        refine ck_iload_n C rfl dX5_joinSpine_20 ?_
        refine ck_iload_n C rfl dX5_joinSpine_21 ?_
        refine ck_ofR C (ck_runV (index := 80) (ci := 5) (st := [_, _]) C hao (cc_X5_northOf l g hI (z) σ1 u n (by omega) (by omega) (by omega) (ca_lt (hA1 4 (by omega) (by omega)) (by omega)) (fun k x j hq => hs1 k x j (by (try simp only [lS, hS, nS, cS] at hq); (repeat' (first | (refine Or.elim hq ?_ ?_ <;> clear hq <;> intro hq) | fail)) <;> (first | (obtain ⟨rfl, hq⟩ := hq; ((try simp only [lS, hS, nS, cS]); (try simp) <;> omega)) | (obtain ⟨rfl | rfl, hq⟩ := hq <;> ((try simp only [lS, hS, nS, cS]); (try simp) <;> omega)) | (simp only [hq]; simp) | (simp [hq]))))) (cwV 2 C.2.2.2.2.1 gX5_joinSpine_X5_northOf rfl rfl rfl (by decide +kernel) ⟨Nat.le_of_ble_eq_true rfl, Nat.le_of_ble_eq_true rfl⟩) rfl (show _ < (1:Nat) by omega) (ca_lt (rfl : g.2.2 0 0 = g.2.2 0 0) (show _ < z by omega)) rfl rfl rfl (Nat.le_of_ble_eq_true rfl) dX5_joinSpine_22 ⟨show 0 + 0 ≤ 0 by omega, show 0 + 0 ≤ 0 by omega⟩) (fun r2 w2 hp2 => ?_)
        obtain ⟨hw2, hr2⟩ := hp2
        subst hw2 hr2
        refine ck_aast C (k := 16) (ci := 2) rfl rfl (show _ < (8:Nat) by omega) (ca_lt (hA15 (4 + n) (by omega)).2.1 (show _ < z by omega)) (by have := lc_dle ((4 + n)); omega) (u) (by omega) (show _ < lc_d (4 + n) by rw [lc_d, if_neg (by omega)]; omega) (by show (11, lc_in (4 + n) u) = (11, 32 + (u * 4 + n)); rw [lc_in, if_neg (by omega)]; simp only [Prod.mk.injEq, true_and]; omega) rfl rfl (show _ < (64:Nat) by omega) (ca_lt (hA32 (u * 4 + n) (by omega)).1.1 (show _ < z by omega)) dX5_joinSpine_25 ?_
        have hs3 := up_nz hs1 16 ((4 + n)) (u)
        change ck _ p l e _ s m _ below meth c (0) (0) _ _ _ _ _ _ _ (z, am_up σ1 16 ((4 + n)) (u) 1)
        generalize am_up σ1 16 ((4 + n)) (u) 1 = σ3 at hs3 ⊢
        refine ck_aload_n C rfl dX5_joinSpine_26 ?_
        refine ck_getrN C (k := 15) (ci := 3) (j := 1) (T := TX3) (host := RX5) rfl (show _ < (8:Nat) by omega) (ca_lt (hA15 (4 + n) (by omega)).1 (show _ < z by omega)) (hs3 15 ((4 + n)) 1 (by (try simp only [lS, hS, nS, cS]); (try simp) <;> omega)) rfl in_cc_X5_joinSpine_X3 (by decide) (by decide +kernel) rfl dX5_joinSpine_27 ?_
        refine ck_iload_n C rfl dX5_joinSpine_30 ?_
        refine ck_aload_n C rfl dX5_joinSpine_31 ?_
        refine ck_iload_n C rfl dX5_joinSpine_32 ?_
        refine ck_iload_n C rfl dX5_joinSpine_33 ?_
        refine ck_ofR C (ck_runV (index := 76) (ci := 5) (st := [_, _]) C hao (cc_X5_southOf l g hI (z) σ3 n u (by omega) (by omega) (by omega) (ca_lt (hA1 5 (by omega) (by omega)) (by omega)) (fun k x j hq => hs3 k x j (by (try simp only [lS, hS, nS, cS] at hq); (repeat' (first | (refine Or.elim hq ?_ ?_ <;> clear hq <;> intro hq) | fail)) <;> (first | (obtain ⟨rfl, hq⟩ := hq; ((try simp only [lS, hS, nS, cS]); (try simp) <;> omega)) | (obtain ⟨rfl | rfl, hq⟩ := hq <;> ((try simp only [lS, hS, nS, cS]); (try simp) <;> omega)) | (simp only [hq]; simp) | (simp [hq]))))) (cwV 2 C.2.2.2.2.1 gX5_joinSpine_X5_southOf rfl rfl rfl (by decide +kernel) ⟨Nat.le_of_ble_eq_true rfl, Nat.le_of_ble_eq_true rfl⟩) rfl (show _ < (1:Nat) by omega) (ca_lt (rfl : g.2.2 0 0 = g.2.2 0 0) (show _ < z by omega)) rfl rfl rfl (Nat.le_of_ble_eq_true rfl) dX5_joinSpine_34 ⟨show 0 + 0 ≤ 0 by omega, show 0 + 0 ≤ 0 by omega⟩) (fun r4 w4 hp4 => ?_)
        obtain ⟨hw4, hr4⟩ := hp4
        subst hw4 hr4
        refine ck_aast C (k := 17) (ci := 2) rfl rfl (show _ < (8:Nat) by omega) (ca_lt (hA15 (4 + n) (by omega)).2.2.1 (show _ < z by omega)) (by have := lc_dle ((4 + n)); omega) (u) (by omega) (show _ < lc_d (4 + n) by rw [lc_d, if_neg (by omega)]; omega) (by show (11, lc_out (4 + n) u) = (11, 48 + (n * 4 + u)); rw [lc_out, if_neg (by omega)]; simp only [Prod.mk.injEq, true_and]; omega) rfl rfl (show _ < (64:Nat) by omega) (ca_lt (hA32 (n * 4 + u) (by omega)).2.1 (show _ < z by omega)) dX5_joinSpine_37 ?_
        have hs5 := up_nz hs3 17 ((4 + n)) (u)
        change ck _ p l e _ s m _ below meth c (0) (0) _ _ _ _ _ _ _ (z, am_up σ3 17 ((4 + n)) (u) 1)
        generalize am_up σ3 17 ((4 + n)) (u) 1 = σ5 at hs5 ⊢
        refine ck_iinc C rfl (by decide) dX5_joinSpine_38 ?_
        refine ck_goto C 9 (by decide) dX5_joinSpine_41 ?_
        exact ih (u + 1) _ (by omega) (by omega) (fun k x j hq => hs5 k x j (by (try simp only [lS, hS, nS, cS] at hq); (repeat' (first | (refine Or.elim hq ?_ ?_ <;> clear hq <;> intro hq) | fail)) <;> (first | (obtain ⟨rfl, hq⟩ := hq; ((try simp only [lS, hS, nS, cS]); (try simp) <;> omega)) | (obtain ⟨rfl | rfl, hq⟩ := hq <;> ((try simp only [lS, hS, nS, cS]); (try simp) <;> omega)) | (simp only [hq]; simp) | (simp [hq]))))
  refine ck_of (cells' := 0) (slots' := 0) (σ' := (z, σ)) (by omega) (by omega) (show _ = _ by omega) rfl ?_
  exact hl9 5 0 _ (by omega) (by omega) (fun k x j hq => hs0 k x j (by (try simp only [lS, hS, nS, cS] at hq); (repeat' (first | (refine Or.elim hq ?_ ?_ <;> clear hq <;> intro hq) | fail)) <;> (first | (obtain ⟨rfl, hq⟩ := hq; ((try simp only [lS, hS, nS, cS]); (try simp) <;> omega)) | (obtain ⟨rfl | rfl, hq⟩ := hq <;> ((try simp only [lS, hS, nS, cS]); (try simp) <;> omega)) | (simp only [hq]; simp) | (simp [hq]))))
