/-! the model's cells, counted from the heap's size; its references set up to a field -/
def dA (g : am_g) (z : Nat) : Prop := g.2.2 20 0 < z ∧ ∀ k, 25 ≤ k → k ≤ 54 → g.2.2 k 0 = z + k - 25
def dI (n : Nat) (σ : am_M) : Prop := (∀ j, 5 ≤ j → j < n → σ 20 0 j ≠ 0) ∧ σ 20 0 0 = 0 ∧ σ 20 0 1 = 5 ∧ σ 20 0 2 = 8 ∧ σ 20 0 35 = 0
theorem dI_S {n : Nat} {σ : am_M} (h : dI n σ) (h1 : 5 ≤ n) (h2 : n < 35) : dI (n + 1) (am_up σ 20 0 n 1) := by
  obtain ⟨a, b, c, d, e⟩ := h
  refine ⟨fun j hj1 hj2 => ?_, ?_, ?_, ?_, ?_⟩
  · rw [am_up_app]
    split
    · decide
    · exact a j hj1 (by omega)
  · rw [am_up_app, if_neg (by omega)]; exact b
  · rw [am_up_app, if_neg (by omega)]; exact c
  · rw [am_up_app, if_neg (by omega)]; exact d
  · rw [am_up_app, if_neg (by omega)]; exact e
theorem lr_rs {j : Nat} {r : Nat × Nat} (h : lr_r[j]? = some (some r)) : 5 ≤ j ∧ j < 35 := by
  have hl : j < 36 := (List.getElem?_eq_some_iff.mp h).1
  have key : ∀ j, j < 36 → (lr_r[j]?).isSome = true → ((lr_r[j]?).map Option.isSome = some true) → 5 ≤ j ∧ j < 35 := by decide +kernel
  exact key j hl (by rw [h]; rfl) (by rw [h]; rfl)
theorem dS_full {g : am_g} {z : Nat} {σ : am_M} {H : Heap} (hA : dA g z) (hs : dI 35 σ) (hW : cw (gR g) (z + 30, σ) H) : am_wd (gR g) σ H := by
  refine hW.full (fun k i hi => ?_) (fun k i hi => ?_)
  · have hi2 : i < lr_n k := hi
    unfold lr_n at hi2
    split at hi2
    · rename_i hk
      have h0 : i = 0 := by omega
      subst h0
      show g.2.2 k 0 < z + 30
      by_cases e : k = 20
      · subst e; have := hA.1; omega
      · rw [hA.2 k (by omega) (by omega)]; omega
    · omega
  · have hi2 : i < lr_n k := hi
    show match lr_s k i with
      | .inl q => ∀ j r, q.2[j]? = some (some r) → σ k i j ≠ 0
      | .inr (.inl _) => True
      | .inr (.inr q) => ∀ j, j < q.2.1 → σ k i j ≠ 0
    unfold lr_n at hi2
    split at hi2
    · have h0 : i = 0 := by omega
      subst h0
      unfold lr_s
      by_cases e : k = 20
      · subst e
        rw [if_pos rfl]
        intro j r hj
        have := lr_rs hj
        exact hs.1 j this.1 this.2
      · rw [if_neg e]
        by_cases e2 : k = 47
        · rw [if_pos e2]; exact True.intro
        · rw [if_neg e2]; exact True.intro
    · omega

theorem in_cc_X6_init_X6 : ∀ w ∈ u_ws RX6 TX6 36, w ∈ wsX6_init := by decide +kernel
set_option maxRecDepth 100000 in
set_option maxHeartbeats 4000000 in
/-- new FabricsimModel -/
theorem cc_X6_init (l : Launch) (g : am_g) (hI : am_inj (gR g)) (z : Nat) (σ : am_M) (h0 : ∀ j, σ 20 0 j = 0) (hcA : dA g z) : Met l yX6_init wsX6_init ({ frames := 1, cells := 30, slots := 2424, locals := 30 }) (cP (gR g) (z, σ) [.inr (20, 0)]) (am_QV (gR g) (fun σ' => ab_R (ab_new0 0 5 8) σ')) (30) (2424) (am_FA (gR g)) := by
  refine ck_start (cc := cX6_init) (nL := 1) (ret := none) (own := RX6) (by decide) rfl hI rfl (Nat.le_of_ble_eq_true rfl) ?_
  intro p e s m below meth c C hao hnm hr hlk
  change ck _ p l e _ s m _ below meth c 0 0 _ _ _ _ 0 [some (.inr (20, 0))] [] (z, σ)
  obtain ⟨hA0, hA2⟩ := hcA
  have hcA : dA g z := ⟨hA0, hA2⟩
  refine ck_aload_n C rfl dX6_init_0 ?_
  refine ck_obj C (idx := 1) (by decide +kernel) (by decide +kernel) (by decide +kernel) (Nat.le_of_ble_eq_true rfl) (Nat.le_of_ble_eq_true rfl) (Nat.le_of_ble_eq_true rfl) dX6_init_1 ?_
  refine ck_aload_n C rfl dX6_init_4 ?_
  refine ck_iconst C dX6_init_5 ?_
  refine ck_put C (k := 20) (ci := 6) (j := 1) (T := TX6) rfl (show _ < (1:Nat) by omega) (ca_lt (rfl : g.2.2 20 0 = g.2.2 20 0) (show _ < z by omega)) rfl in_cc_X6_init_X6 tyX6 tyX6_ok nmX6 (by decide) (by decide +kernel) rfl rfl (by decide +kernel) dX6_init_6 ?_
  change ck _ p l e _ s m _ below meth c 0 0 _ _ _ _ _ _ _ (z, am_up σ 20 0 1 5)
  refine ck_aload_n C rfl dX6_init_9 ?_
  refine ck_bipush C (n := 8) (by decide) dX6_init_10 ?_
  refine ck_put C (k := 20) (ci := 6) (j := 2) (T := TX6) rfl (show _ < (1:Nat) by omega) (ca_lt (rfl : g.2.2 20 0 = g.2.2 20 0) (show _ < z by omega)) rfl in_cc_X6_init_X6 tyX6 tyX6_ok nmX6 (by decide) (by decide +kernel) rfl rfl (by decide +kernel) dX6_init_12 ?_
  have hs0 : dI 5 (am_up (am_up σ 20 0 1 5) 20 0 2 8) := ⟨fun j a b => absurd a (by omega), by simp [am_up_app, h0], by simp [am_up_app], by simp [am_up_app], by simp [am_up_app, h0]⟩
  change ck _ p l e _ s m _ below meth c 0 0 _ _ _ _ _ _ _ (z, am_up (am_up σ 20 0 1 5) 20 0 2 8)
  generalize am_up (am_up σ 20 0 1 5) 20 0 2 8 = σ0 at hs0 ⊢
  refine ck_aload_n C rfl dX6_init_15 ?_
  refine ck_bipush C (n := 24) (by decide) dX6_init_16 ?_
  refine ck_newa C (t := 0) (n := 24) (i := 0) 25 rfl rfl rfl (show _ < (1:Nat) by omega) (Eq.trans (hA2 25 (by omega) (by omega)) (show _ = z by omega)) (by omega) (by omega) (by decide) rfl (by intro D hD; cases hD) (by decide +kernel) (show 0 + 1 ≤ 30 by omega) (show 0 + 24 ≤ 2424 by omega) dX6_init_18 ?_
  change ck _ p l e _ s m _ below meth c (0 + 1) (0 + 24) _ _ _ _ _ _ _ (z + 1, σ0)
  refine ck_putR C hnm (k := 20) (ci := 6) (j := 5) (T := TX6) rfl (show _ < (1:Nat) by omega) (ca_lt (rfl : g.2.2 20 0 = g.2.2 20 0) (show _ < z + 1 by omega)) rfl in_cc_X6_init_X6 tyX6 tyX6_ok nmX6 (by decide) (by decide +kernel) rfl rfl rfl (fun _ => rfl) (fun _ => rfl) dX6_init_20 ?_
  have hs1 := dI_S hs0 (n := 5) (by decide) (by decide)
  change ck _ p l e _ s m _ below meth c (0 + 1) (0 + 24) _ _ _ _ _ _ _ (z + 1, am_up σ0 20 (0) (5) 1)
  generalize am_up σ0 20 (0) (5) 1 = σ1 at hs1 ⊢
  refine ck_aload_n C rfl dX6_init_23 ?_
  refine ck_bipush C (n := 24) (by decide) dX6_init_24 ?_
  refine ck_newa C (t := 0) (n := 24) (i := 0) 26 rfl rfl rfl (show _ < (1:Nat) by omega) (Eq.trans (hA2 26 (by omega) (by omega)) (show _ = z + 1 by omega)) (by omega) (by omega) (by decide) rfl (by intro D hD; cases hD) (by decide +kernel) (show 0 + 1 + 1 ≤ 30 by omega) (show 0 + 24 + 24 ≤ 2424 by omega) dX6_init_26 ?_
  change ck _ p l e _ s m _ below meth c (0 + 1 + 1) (0 + 24 + 24) _ _ _ _ _ _ _ (z + 1 + 1, σ1)
  refine ck_putR C hnm (k := 20) (ci := 6) (j := 6) (T := TX6) rfl (show _ < (1:Nat) by omega) (ca_lt (rfl : g.2.2 20 0 = g.2.2 20 0) (show _ < z + 1 + 1 by omega)) rfl in_cc_X6_init_X6 tyX6 tyX6_ok nmX6 (by decide) (by decide +kernel) rfl rfl rfl (fun _ => rfl) (fun _ => rfl) dX6_init_28 ?_
  have hs2 := dI_S hs1 (n := 6) (by decide) (by decide)
  change ck _ p l e _ s m _ below meth c (0 + 1 + 1) (0 + 24 + 24) _ _ _ _ _ _ _ (z + 1 + 1, am_up σ1 20 (0) (6) 1)
  generalize am_up σ1 20 (0) (6) 1 = σ2 at hs2 ⊢
  refine ck_aload_n C rfl dX6_init_31 ?_
  refine ck_bipush C (n := 24) (by decide) dX6_init_32 ?_
  refine ck_newa C (t := 0) (n := 24) (i := 0) 27 rfl rfl rfl (show _ < (1:Nat) by omega) (Eq.trans (hA2 27 (by omega) (by omega)) (show _ = z + 1 + 1 by omega)) (by omega) (by omega) (by decide) rfl (by intro D hD; cases hD) (by decide +kernel) (show 0 + 1 + 1 + 1 ≤ 30 by omega) (show 0 + 24 + 24 + 24 ≤ 2424 by omega) dX6_init_34 ?_
  change ck _ p l e _ s m _ below meth c (0 + 1 + 1 + 1) (0 + 24 + 24 + 24) _ _ _ _ _ _ _ (z + 1 + 1 + 1, σ2)
  refine ck_putR C hnm (k := 20) (ci := 6) (j := 7) (T := TX6) rfl (show _ < (1:Nat) by omega) (ca_lt (rfl : g.2.2 20 0 = g.2.2 20 0) (show _ < z + 1 + 1 + 1 by omega)) rfl in_cc_X6_init_X6 tyX6 tyX6_ok nmX6 (by decide) (by decide +kernel) rfl rfl rfl (fun _ => rfl) (fun _ => rfl) dX6_init_36 ?_
  have hs3 := dI_S hs2 (n := 7) (by decide) (by decide)
  change ck _ p l e _ s m _ below meth c (0 + 1 + 1 + 1) (0 + 24 + 24 + 24) _ _ _ _ _ _ _ (z + 1 + 1 + 1, am_up σ2 20 (0) (7) 1)
  generalize am_up σ2 20 (0) (7) 1 = σ3 at hs3 ⊢
  refine ck_aload_n C rfl dX6_init_39 ?_
  refine ck_bipush C (n := 24) (by decide) dX6_init_40 ?_
  refine ck_newa C (t := 0) (n := 24) (i := 0) 28 rfl rfl rfl (show _ < (1:Nat) by omega) (Eq.trans (hA2 28 (by omega) (by omega)) (show _ = z + 1 + 1 + 1 by omega)) (by omega) (by omega) (by decide) rfl (by intro D hD; cases hD) (by decide +kernel) (show 0 + 1 + 1 + 1 + 1 ≤ 30 by omega) (show 0 + 24 + 24 + 24 + 24 ≤ 2424 by omega) dX6_init_42 ?_
  change ck _ p l e _ s m _ below meth c (0 + 1 + 1 + 1 + 1) (0 + 24 + 24 + 24 + 24) _ _ _ _ _ _ _ (z + 1 + 1 + 1 + 1, σ3)
  refine ck_putR C hnm (k := 20) (ci := 6) (j := 8) (T := TX6) rfl (show _ < (1:Nat) by omega) (ca_lt (rfl : g.2.2 20 0 = g.2.2 20 0) (show _ < z + 1 + 1 + 1 + 1 by omega)) rfl in_cc_X6_init_X6 tyX6 tyX6_ok nmX6 (by decide) (by decide +kernel) rfl rfl rfl (fun _ => rfl) (fun _ => rfl) dX6_init_44 ?_
  have hs4 := dI_S hs3 (n := 8) (by decide) (by decide)
  change ck _ p l e _ s m _ below meth c (0 + 1 + 1 + 1 + 1) (0 + 24 + 24 + 24 + 24) _ _ _ _ _ _ _ (z + 1 + 1 + 1 + 1, am_up σ3 20 (0) (8) 1)
  generalize am_up σ3 20 (0) (8) 1 = σ4 at hs4 ⊢
  refine ck_aload_n C rfl dX6_init_47 ?_
  refine ck_bipush C (n := 24) (by decide) dX6_init_48 ?_
  refine ck_newa C (t := 0) (n := 24) (i := 0) 29 rfl rfl rfl (show _ < (1:Nat) by omega) (Eq.trans (hA2 29 (by omega) (by omega)) (show _ = z + 1 + 1 + 1 + 1 by omega)) (by omega) (by omega) (by decide) rfl (by intro D hD; cases hD) (by decide +kernel) (show 0 + 1 + 1 + 1 + 1 + 1 ≤ 30 by omega) (show 0 + 24 + 24 + 24 + 24 + 24 ≤ 2424 by omega) dX6_init_50 ?_
  change ck _ p l e _ s m _ below meth c (0 + 1 + 1 + 1 + 1 + 1) (0 + 24 + 24 + 24 + 24 + 24) _ _ _ _ _ _ _ (z + 1 + 1 + 1 + 1 + 1, σ4)
  refine ck_putR C hnm (k := 20) (ci := 6) (j := 9) (T := TX6) rfl (show _ < (1:Nat) by omega) (ca_lt (rfl : g.2.2 20 0 = g.2.2 20 0) (show _ < z + 1 + 1 + 1 + 1 + 1 by omega)) rfl in_cc_X6_init_X6 tyX6 tyX6_ok nmX6 (by decide) (by decide +kernel) rfl rfl rfl (fun _ => rfl) (fun _ => rfl) dX6_init_52 ?_
  have hs5 := dI_S hs4 (n := 9) (by decide) (by decide)
  change ck _ p l e _ s m _ below meth c (0 + 1 + 1 + 1 + 1 + 1) (0 + 24 + 24 + 24 + 24 + 24) _ _ _ _ _ _ _ (z + 1 + 1 + 1 + 1 + 1, am_up σ4 20 (0) (9) 1)
  generalize am_up σ4 20 (0) (9) 1 = σ5 at hs5 ⊢
  refine ck_aload_n C rfl dX6_init_55 ?_
  refine ck_bipush C (n := 24) (by decide) dX6_init_56 ?_
  refine ck_newa C (t := 0) (n := 24) (i := 0) 30 rfl rfl rfl (show _ < (1:Nat) by omega) (Eq.trans (hA2 30 (by omega) (by omega)) (show _ = z + 1 + 1 + 1 + 1 + 1 by omega)) (by omega) (by omega) (by decide) rfl (by intro D hD; cases hD) (by decide +kernel) (show 0 + 1 + 1 + 1 + 1 + 1 + 1 ≤ 30 by omega) (show 0 + 24 + 24 + 24 + 24 + 24 + 24 ≤ 2424 by omega) dX6_init_58 ?_
  change ck _ p l e _ s m _ below meth c (0 + 1 + 1 + 1 + 1 + 1 + 1) (0 + 24 + 24 + 24 + 24 + 24 + 24) _ _ _ _ _ _ _ (z + 1 + 1 + 1 + 1 + 1 + 1, σ5)
  refine ck_putR C hnm (k := 20) (ci := 6) (j := 10) (T := TX6) rfl (show _ < (1:Nat) by omega) (ca_lt (rfl : g.2.2 20 0 = g.2.2 20 0) (show _ < z + 1 + 1 + 1 + 1 + 1 + 1 by omega)) rfl in_cc_X6_init_X6 tyX6 tyX6_ok nmX6 (by decide) (by decide +kernel) rfl rfl rfl (fun _ => rfl) (fun _ => rfl) dX6_init_60 ?_
  have hs6 := dI_S hs5 (n := 10) (by decide) (by decide)
  change ck _ p l e _ s m _ below meth c (0 + 1 + 1 + 1 + 1 + 1 + 1) (0 + 24 + 24 + 24 + 24 + 24 + 24) _ _ _ _ _ _ _ (z + 1 + 1 + 1 + 1 + 1 + 1, am_up σ5 20 (0) (10) 1)
  generalize am_up σ5 20 (0) (10) 1 = σ6 at hs6 ⊢
  refine ck_aload_n C rfl dX6_init_63 ?_
  refine ck_bipush C (n := 24) (by decide) dX6_init_64 ?_
  refine ck_newa C (t := 0) (n := 24) (i := 0) 31 rfl rfl rfl (show _ < (1:Nat) by omega) (Eq.trans (hA2 31 (by omega) (by omega)) (show _ = z + 1 + 1 + 1 + 1 + 1 + 1 by omega)) (by omega) (by omega) (by decide) rfl (by intro D hD; cases hD) (by decide +kernel) (show 0 + 1 + 1 + 1 + 1 + 1 + 1 + 1 ≤ 30 by omega) (show 0 + 24 + 24 + 24 + 24 + 24 + 24 + 24 ≤ 2424 by omega) dX6_init_66 ?_
  change ck _ p l e _ s m _ below meth c (0 + 1 + 1 + 1 + 1 + 1 + 1 + 1) (0 + 24 + 24 + 24 + 24 + 24 + 24 + 24) _ _ _ _ _ _ _ (z + 1 + 1 + 1 + 1 + 1 + 1 + 1, σ6)
  refine ck_putR C hnm (k := 20) (ci := 6) (j := 11) (T := TX6) rfl (show _ < (1:Nat) by omega) (ca_lt (rfl : g.2.2 20 0 = g.2.2 20 0) (show _ < z + 1 + 1 + 1 + 1 + 1 + 1 + 1 by omega)) rfl in_cc_X6_init_X6 tyX6 tyX6_ok nmX6 (by decide) (by decide +kernel) rfl rfl rfl (fun _ => rfl) (fun _ => rfl) dX6_init_68 ?_
  have hs7 := dI_S hs6 (n := 11) (by decide) (by decide)
  change ck _ p l e _ s m _ below meth c (0 + 1 + 1 + 1 + 1 + 1 + 1 + 1) (0 + 24 + 24 + 24 + 24 + 24 + 24 + 24) _ _ _ _ _ _ _ (z + 1 + 1 + 1 + 1 + 1 + 1 + 1, am_up σ6 20 (0) (11) 1)
  generalize am_up σ6 20 (0) (11) 1 = σ7 at hs7 ⊢
  refine ck_aload_n C rfl dX6_init_71 ?_
  refine ck_bipush C (n := 24) (by decide) dX6_init_72 ?_
  refine ck_newa C (t := 0) (n := 24) (i := 0) 32 rfl rfl rfl (show _ < (1:Nat) by omega) (Eq.trans (hA2 32 (by omega) (by omega)) (show _ = z + 1 + 1 + 1 + 1 + 1 + 1 + 1 by omega)) (by omega) (by omega) (by decide) rfl (by intro D hD; cases hD) (by decide +kernel) (show 0 + 1 + 1 + 1 + 1 + 1 + 1 + 1 + 1 ≤ 30 by omega) (show 0 + 24 + 24 + 24 + 24 + 24 + 24 + 24 + 24 ≤ 2424 by omega) dX6_init_74 ?_
  change ck _ p l e _ s m _ below meth c (0 + 1 + 1 + 1 + 1 + 1 + 1 + 1 + 1) (0 + 24 + 24 + 24 + 24 + 24 + 24 + 24 + 24) _ _ _ _ _ _ _ (z + 1 + 1 + 1 + 1 + 1 + 1 + 1 + 1, σ7)
  refine ck_putR C hnm (k := 20) (ci := 6) (j := 12) (T := TX6) rfl (show _ < (1:Nat) by omega) (ca_lt (rfl : g.2.2 20 0 = g.2.2 20 0) (show _ < z + 1 + 1 + 1 + 1 + 1 + 1 + 1 + 1 by omega)) rfl in_cc_X6_init_X6 tyX6 tyX6_ok nmX6 (by decide) (by decide +kernel) rfl rfl rfl (fun _ => rfl) (fun _ => rfl) dX6_init_76 ?_
  have hs8 := dI_S hs7 (n := 12) (by decide) (by decide)
  change ck _ p l e _ s m _ below meth c (0 + 1 + 1 + 1 + 1 + 1 + 1 + 1 + 1) (0 + 24 + 24 + 24 + 24 + 24 + 24 + 24 + 24) _ _ _ _ _ _ _ (z + 1 + 1 + 1 + 1 + 1 + 1 + 1 + 1, am_up σ7 20 (0) (12) 1)
  generalize am_up σ7 20 (0) (12) 1 = σ8 at hs8 ⊢
  refine ck_aload_n C rfl dX6_init_79 ?_
  refine ck_bipush C (n := 24) (by decide) dX6_init_80 ?_
  refine ck_newa C (t := 0) (n := 24) (i := 0) 33 rfl rfl rfl (show _ < (1:Nat) by omega) (Eq.trans (hA2 33 (by omega) (by omega)) (show _ = z + 1 + 1 + 1 + 1 + 1 + 1 + 1 + 1 by omega)) (by omega) (by omega) (by decide) rfl (by intro D hD; cases hD) (by decide +kernel) (show 0 + 1 + 1 + 1 + 1 + 1 + 1 + 1 + 1 + 1 ≤ 30 by omega) (show 0 + 24 + 24 + 24 + 24 + 24 + 24 + 24 + 24 + 24 ≤ 2424 by omega) dX6_init_82 ?_
  change ck _ p l e _ s m _ below meth c (0 + 1 + 1 + 1 + 1 + 1 + 1 + 1 + 1 + 1) (0 + 24 + 24 + 24 + 24 + 24 + 24 + 24 + 24 + 24) _ _ _ _ _ _ _ (z + 1 + 1 + 1 + 1 + 1 + 1 + 1 + 1 + 1, σ8)
  refine ck_putR C hnm (k := 20) (ci := 6) (j := 13) (T := TX6) rfl (show _ < (1:Nat) by omega) (ca_lt (rfl : g.2.2 20 0 = g.2.2 20 0) (show _ < z + 1 + 1 + 1 + 1 + 1 + 1 + 1 + 1 + 1 by omega)) rfl in_cc_X6_init_X6 tyX6 tyX6_ok nmX6 (by decide) (by decide +kernel) rfl rfl rfl (fun _ => rfl) (fun _ => rfl) dX6_init_84 ?_
  have hs9 := dI_S hs8 (n := 13) (by decide) (by decide)
  change ck _ p l e _ s m _ below meth c (0 + 1 + 1 + 1 + 1 + 1 + 1 + 1 + 1 + 1) (0 + 24 + 24 + 24 + 24 + 24 + 24 + 24 + 24 + 24) _ _ _ _ _ _ _ (z + 1 + 1 + 1 + 1 + 1 + 1 + 1 + 1 + 1, am_up σ8 20 (0) (13) 1)
  generalize am_up σ8 20 (0) (13) 1 = σ9 at hs9 ⊢
  refine ck_aload_n C rfl dX6_init_87 ?_
  refine ck_bipush C (n := 24) (by decide) dX6_init_88 ?_
  refine ck_newa C (t := 0) (n := 24) (i := 0) 34 rfl rfl rfl (show _ < (1:Nat) by omega) (Eq.trans (hA2 34 (by omega) (by omega)) (show _ = z + 1 + 1 + 1 + 1 + 1 + 1 + 1 + 1 + 1 by omega)) (by omega) (by omega) (by decide) rfl (by intro D hD; cases hD) (by decide +kernel) (show 0 + 1 + 1 + 1 + 1 + 1 + 1 + 1 + 1 + 1 + 1 ≤ 30 by omega) (show 0 + 24 + 24 + 24 + 24 + 24 + 24 + 24 + 24 + 24 + 24 ≤ 2424 by omega) dX6_init_90 ?_
  change ck _ p l e _ s m _ below meth c (0 + 1 + 1 + 1 + 1 + 1 + 1 + 1 + 1 + 1 + 1) (0 + 24 + 24 + 24 + 24 + 24 + 24 + 24 + 24 + 24 + 24) _ _ _ _ _ _ _ (z + 1 + 1 + 1 + 1 + 1 + 1 + 1 + 1 + 1 + 1, σ9)
  refine ck_putR C hnm (k := 20) (ci := 6) (j := 14) (T := TX6) rfl (show _ < (1:Nat) by omega) (ca_lt (rfl : g.2.2 20 0 = g.2.2 20 0) (show _ < z + 1 + 1 + 1 + 1 + 1 + 1 + 1 + 1 + 1 + 1 by omega)) rfl in_cc_X6_init_X6 tyX6 tyX6_ok nmX6 (by decide) (by decide +kernel) rfl rfl rfl (fun _ => rfl) (fun _ => rfl) dX6_init_92 ?_
  have hs10 := dI_S hs9 (n := 14) (by decide) (by decide)
  change ck _ p l e _ s m _ below meth c (0 + 1 + 1 + 1 + 1 + 1 + 1 + 1 + 1 + 1 + 1) (0 + 24 + 24 + 24 + 24 + 24 + 24 + 24 + 24 + 24 + 24) _ _ _ _ _ _ _ (z + 1 + 1 + 1 + 1 + 1 + 1 + 1 + 1 + 1 + 1, am_up σ9 20 (0) (14) 1)
  generalize am_up σ9 20 (0) (14) 1 = σ10 at hs10 ⊢
  refine ck_aload_n C rfl dX6_init_95 ?_
  refine ck_bipush C (n := 24) (by decide) dX6_init_96 ?_
  refine ck_newa C (t := 0) (n := 24) (i := 0) 35 rfl rfl rfl (show _ < (1:Nat) by omega) (Eq.trans (hA2 35 (by omega) (by omega)) (show _ = z + 1 + 1 + 1 + 1 + 1 + 1 + 1 + 1 + 1 + 1 by omega)) (by omega) (by omega) (by decide) rfl (by intro D hD; cases hD) (by decide +kernel) (show 0 + 1 + 1 + 1 + 1 + 1 + 1 + 1 + 1 + 1 + 1 + 1 ≤ 30 by omega) (show 0 + 24 + 24 + 24 + 24 + 24 + 24 + 24 + 24 + 24 + 24 + 24 ≤ 2424 by omega) dX6_init_98 ?_
  change ck _ p l e _ s m _ below meth c (0 + 1 + 1 + 1 + 1 + 1 + 1 + 1 + 1 + 1 + 1 + 1) (0 + 24 + 24 + 24 + 24 + 24 + 24 + 24 + 24 + 24 + 24 + 24) _ _ _ _ _ _ _ (z + 1 + 1 + 1 + 1 + 1 + 1 + 1 + 1 + 1 + 1 + 1, σ10)
  refine ck_putR C hnm (k := 20) (ci := 6) (j := 15) (T := TX6) rfl (show _ < (1:Nat) by omega) (ca_lt (rfl : g.2.2 20 0 = g.2.2 20 0) (show _ < z + 1 + 1 + 1 + 1 + 1 + 1 + 1 + 1 + 1 + 1 + 1 by omega)) rfl in_cc_X6_init_X6 tyX6 tyX6_ok nmX6 (by decide) (by decide +kernel) rfl rfl rfl (fun _ => rfl) (fun _ => rfl) dX6_init_100 ?_
  have hs11 := dI_S hs10 (n := 15) (by decide) (by decide)
  change ck _ p l e _ s m _ below meth c (0 + 1 + 1 + 1 + 1 + 1 + 1 + 1 + 1 + 1 + 1 + 1) (0 + 24 + 24 + 24 + 24 + 24 + 24 + 24 + 24 + 24 + 24 + 24) _ _ _ _ _ _ _ (z + 1 + 1 + 1 + 1 + 1 + 1 + 1 + 1 + 1 + 1 + 1, am_up σ10 20 (0) (15) 1)
  generalize am_up σ10 20 (0) (15) 1 = σ11 at hs11 ⊢
  refine ck_aload_n C rfl dX6_init_103 ?_
  refine ck_bipush C (n := 24) (by decide) dX6_init_104 ?_
  refine ck_newa C (t := 0) (n := 24) (i := 0) 36 rfl rfl rfl (show _ < (1:Nat) by omega) (Eq.trans (hA2 36 (by omega) (by omega)) (show _ = z + 1 + 1 + 1 + 1 + 1 + 1 + 1 + 1 + 1 + 1 + 1 by omega)) (by omega) (by omega) (by decide) rfl (by intro D hD; cases hD) (by decide +kernel) (show 0 + 1 + 1 + 1 + 1 + 1 + 1 + 1 + 1 + 1 + 1 + 1 + 1 ≤ 30 by omega) (show 0 + 24 + 24 + 24 + 24 + 24 + 24 + 24 + 24 + 24 + 24 + 24 + 24 ≤ 2424 by omega) dX6_init_106 ?_
  change ck _ p l e _ s m _ below meth c (0 + 1 + 1 + 1 + 1 + 1 + 1 + 1 + 1 + 1 + 1 + 1 + 1) (0 + 24 + 24 + 24 + 24 + 24 + 24 + 24 + 24 + 24 + 24 + 24 + 24) _ _ _ _ _ _ _ (z + 1 + 1 + 1 + 1 + 1 + 1 + 1 + 1 + 1 + 1 + 1 + 1, σ11)
  refine ck_putR C hnm (k := 20) (ci := 6) (j := 16) (T := TX6) rfl (show _ < (1:Nat) by omega) (ca_lt (rfl : g.2.2 20 0 = g.2.2 20 0) (show _ < z + 1 + 1 + 1 + 1 + 1 + 1 + 1 + 1 + 1 + 1 + 1 + 1 by omega)) rfl in_cc_X6_init_X6 tyX6 tyX6_ok nmX6 (by decide) (by decide +kernel) rfl rfl rfl (fun _ => rfl) (fun _ => rfl) dX6_init_108 ?_
  have hs12 := dI_S hs11 (n := 16) (by decide) (by decide)
  change ck _ p l e _ s m _ below meth c (0 + 1 + 1 + 1 + 1 + 1 + 1 + 1 + 1 + 1 + 1 + 1 + 1) (0 + 24 + 24 + 24 + 24 + 24 + 24 + 24 + 24 + 24 + 24 + 24 + 24) _ _ _ _ _ _ _ (z + 1 + 1 + 1 + 1 + 1 + 1 + 1 + 1 + 1 + 1 + 1 + 1, am_up σ11 20 (0) (16) 1)
  generalize am_up σ11 20 (0) (16) 1 = σ12 at hs12 ⊢
  refine ck_aload_n C rfl dX6_init_111 ?_
  refine ck_bipush C (n := 24) (by decide) dX6_init_112 ?_
  refine ck_newa C (t := 0) (n := 24) (i := 0) 37 rfl rfl rfl (show _ < (1:Nat) by omega) (Eq.trans (hA2 37 (by omega) (by omega)) (show _ = z + 1 + 1 + 1 + 1 + 1 + 1 + 1 + 1 + 1 + 1 + 1 + 1 by omega)) (by omega) (by omega) (by decide) rfl (by intro D hD; cases hD) (by decide +kernel) (show 0 + 1 + 1 + 1 + 1 + 1 + 1 + 1 + 1 + 1 + 1 + 1 + 1 + 1 ≤ 30 by omega) (show 0 + 24 + 24 + 24 + 24 + 24 + 24 + 24 + 24 + 24 + 24 + 24 + 24 + 24 ≤ 2424 by omega) dX6_init_114 ?_
  change ck _ p l e _ s m _ below meth c (0 + 1 + 1 + 1 + 1 + 1 + 1 + 1 + 1 + 1 + 1 + 1 + 1 + 1) (0 + 24 + 24 + 24 + 24 + 24 + 24 + 24 + 24 + 24 + 24 + 24 + 24 + 24) _ _ _ _ _ _ _ (z + 1 + 1 + 1 + 1 + 1 + 1 + 1 + 1 + 1 + 1 + 1 + 1 + 1, σ12)
  refine ck_putR C hnm (k := 20) (ci := 6) (j := 17) (T := TX6) rfl (show _ < (1:Nat) by omega) (ca_lt (rfl : g.2.2 20 0 = g.2.2 20 0) (show _ < z + 1 + 1 + 1 + 1 + 1 + 1 + 1 + 1 + 1 + 1 + 1 + 1 + 1 by omega)) rfl in_cc_X6_init_X6 tyX6 tyX6_ok nmX6 (by decide) (by decide +kernel) rfl rfl rfl (fun _ => rfl) (fun _ => rfl) dX6_init_116 ?_
  have hs13 := dI_S hs12 (n := 17) (by decide) (by decide)
  change ck _ p l e _ s m _ below meth c (0 + 1 + 1 + 1 + 1 + 1 + 1 + 1 + 1 + 1 + 1 + 1 + 1 + 1) (0 + 24 + 24 + 24 + 24 + 24 + 24 + 24 + 24 + 24 + 24 + 24 + 24 + 24) _ _ _ _ _ _ _ (z + 1 + 1 + 1 + 1 + 1 + 1 + 1 + 1 + 1 + 1 + 1 + 1 + 1, am_up σ12 20 (0) (17) 1)
  generalize am_up σ12 20 (0) (17) 1 = σ13 at hs13 ⊢
  refine ck_aload_n C rfl dX6_init_119 ?_
  refine ck_bipush C (n := 64) (by decide) dX6_init_120 ?_
  refine ck_newa C (t := 0) (n := 64) (i := 0) 38 rfl rfl rfl (show _ < (1:Nat) by omega) (Eq.trans (hA2 38 (by omega) (by omega)) (show _ = z + 1 + 1 + 1 + 1 + 1 + 1 + 1 + 1 + 1 + 1 + 1 + 1 + 1 by omega)) (by omega) (by omega) (by decide) rfl (by intro D hD; cases hD) (by decide +kernel) (show 0 + 1 + 1 + 1 + 1 + 1 + 1 + 1 + 1 + 1 + 1 + 1 + 1 + 1 + 1 ≤ 30 by omega) (show 0 + 24 + 24 + 24 + 24 + 24 + 24 + 24 + 24 + 24 + 24 + 24 + 24 + 24 + 64 ≤ 2424 by omega) dX6_init_122 ?_
  change ck _ p l e _ s m _ below meth c (0 + 1 + 1 + 1 + 1 + 1 + 1 + 1 + 1 + 1 + 1 + 1 + 1 + 1 + 1) (0 + 24 + 24 + 24 + 24 + 24 + 24 + 24 + 24 + 24 + 24 + 24 + 24 + 24 + 64) _ _ _ _ _ _ _ (z + 1 + 1 + 1 + 1 + 1 + 1 + 1 + 1 + 1 + 1 + 1 + 1 + 1 + 1, σ13)
  refine ck_putR C hnm (k := 20) (ci := 6) (j := 18) (T := TX6) rfl (show _ < (1:Nat) by omega) (ca_lt (rfl : g.2.2 20 0 = g.2.2 20 0) (show _ < z + 1 + 1 + 1 + 1 + 1 + 1 + 1 + 1 + 1 + 1 + 1 + 1 + 1 + 1 by omega)) rfl in_cc_X6_init_X6 tyX6 tyX6_ok nmX6 (by decide) (by decide +kernel) rfl rfl rfl (fun _ => rfl) (fun _ => rfl) dX6_init_124 ?_
  have hs14 := dI_S hs13 (n := 18) (by decide) (by decide)
  change ck _ p l e _ s m _ below meth c (0 + 1 + 1 + 1 + 1 + 1 + 1 + 1 + 1 + 1 + 1 + 1 + 1 + 1 + 1) (0 + 24 + 24 + 24 + 24 + 24 + 24 + 24 + 24 + 24 + 24 + 24 + 24 + 24 + 64) _ _ _ _ _ _ _ (z + 1 + 1 + 1 + 1 + 1 + 1 + 1 + 1 + 1 + 1 + 1 + 1 + 1 + 1, am_up σ13 20 (0) (18) 1)
  generalize am_up σ13 20 (0) (18) 1 = σ14 at hs14 ⊢
  refine ck_aload_n C rfl dX6_init_127 ?_
  refine ck_bipush C (n := 64) (by decide) dX6_init_128 ?_
  refine ck_newa C (t := 0) (n := 64) (i := 0) 39 rfl rfl rfl (show _ < (1:Nat) by omega) (Eq.trans (hA2 39 (by omega) (by omega)) (show _ = z + 1 + 1 + 1 + 1 + 1 + 1 + 1 + 1 + 1 + 1 + 1 + 1 + 1 + 1 by omega)) (by omega) (by omega) (by decide) rfl (by intro D hD; cases hD) (by decide +kernel) (show 0 + 1 + 1 + 1 + 1 + 1 + 1 + 1 + 1 + 1 + 1 + 1 + 1 + 1 + 1 + 1 ≤ 30 by omega) (show 0 + 24 + 24 + 24 + 24 + 24 + 24 + 24 + 24 + 24 + 24 + 24 + 24 + 24 + 64 + 64 ≤ 2424 by omega) dX6_init_130 ?_
  change ck _ p l e _ s m _ below meth c (0 + 1 + 1 + 1 + 1 + 1 + 1 + 1 + 1 + 1 + 1 + 1 + 1 + 1 + 1 + 1) (0 + 24 + 24 + 24 + 24 + 24 + 24 + 24 + 24 + 24 + 24 + 24 + 24 + 24 + 64 + 64) _ _ _ _ _ _ _ (z + 1 + 1 + 1 + 1 + 1 + 1 + 1 + 1 + 1 + 1 + 1 + 1 + 1 + 1 + 1, σ14)
  refine ck_putR C hnm (k := 20) (ci := 6) (j := 19) (T := TX6) rfl (show _ < (1:Nat) by omega) (ca_lt (rfl : g.2.2 20 0 = g.2.2 20 0) (show _ < z + 1 + 1 + 1 + 1 + 1 + 1 + 1 + 1 + 1 + 1 + 1 + 1 + 1 + 1 + 1 by omega)) rfl in_cc_X6_init_X6 tyX6 tyX6_ok nmX6 (by decide) (by decide +kernel) rfl rfl rfl (fun _ => rfl) (fun _ => rfl) dX6_init_132 ?_
  have hs15 := dI_S hs14 (n := 19) (by decide) (by decide)
  change ck _ p l e _ s m _ below meth c (0 + 1 + 1 + 1 + 1 + 1 + 1 + 1 + 1 + 1 + 1 + 1 + 1 + 1 + 1 + 1) (0 + 24 + 24 + 24 + 24 + 24 + 24 + 24 + 24 + 24 + 24 + 24 + 24 + 24 + 64 + 64) _ _ _ _ _ _ _ (z + 1 + 1 + 1 + 1 + 1 + 1 + 1 + 1 + 1 + 1 + 1 + 1 + 1 + 1 + 1, am_up σ14 20 (0) (19) 1)
  generalize am_up σ14 20 (0) (19) 1 = σ15 at hs15 ⊢
  refine ck_aload_n C rfl dX6_init_135 ?_
  refine ck_bipush C (n := 64) (by decide) dX6_init_136 ?_
  refine ck_newa C (t := 0) (n := 64) (i := 0) 40 rfl rfl rfl (show _ < (1:Nat) by omega) (Eq.trans (hA2 40 (by omega) (by omega)) (show _ = z + 1 + 1 + 1 + 1 + 1 + 1 + 1 + 1 + 1 + 1 + 1 + 1 + 1 + 1 + 1 by omega)) (by omega) (by omega) (by decide) rfl (by intro D hD; cases hD) (by decide +kernel) (show 0 + 1 + 1 + 1 + 1 + 1 + 1 + 1 + 1 + 1 + 1 + 1 + 1 + 1 + 1 + 1 + 1 ≤ 30 by omega) (show 0 + 24 + 24 + 24 + 24 + 24 + 24 + 24 + 24 + 24 + 24 + 24 + 24 + 24 + 64 + 64 + 64 ≤ 2424 by omega) dX6_init_138 ?_
  change ck _ p l e _ s m _ below meth c (0 + 1 + 1 + 1 + 1 + 1 + 1 + 1 + 1 + 1 + 1 + 1 + 1 + 1 + 1 + 1 + 1) (0 + 24 + 24 + 24 + 24 + 24 + 24 + 24 + 24 + 24 + 24 + 24 + 24 + 24 + 64 + 64 + 64) _ _ _ _ _ _ _ (z + 1 + 1 + 1 + 1 + 1 + 1 + 1 + 1 + 1 + 1 + 1 + 1 + 1 + 1 + 1 + 1, σ15)
  refine ck_putR C hnm (k := 20) (ci := 6) (j := 20) (T := TX6) rfl (show _ < (1:Nat) by omega) (ca_lt (rfl : g.2.2 20 0 = g.2.2 20 0) (show _ < z + 1 + 1 + 1 + 1 + 1 + 1 + 1 + 1 + 1 + 1 + 1 + 1 + 1 + 1 + 1 + 1 by omega)) rfl in_cc_X6_init_X6 tyX6 tyX6_ok nmX6 (by decide) (by decide +kernel) rfl rfl rfl (fun _ => rfl) (fun _ => rfl) dX6_init_140 ?_
  have hs16 := dI_S hs15 (n := 20) (by decide) (by decide)
  change ck _ p l e _ s m _ below meth c (0 + 1 + 1 + 1 + 1 + 1 + 1 + 1 + 1 + 1 + 1 + 1 + 1 + 1 + 1 + 1 + 1) (0 + 24 + 24 + 24 + 24 + 24 + 24 + 24 + 24 + 24 + 24 + 24 + 24 + 24 + 64 + 64 + 64) _ _ _ _ _ _ _ (z + 1 + 1 + 1 + 1 + 1 + 1 + 1 + 1 + 1 + 1 + 1 + 1 + 1 + 1 + 1 + 1, am_up σ15 20 (0) (20) 1)
  generalize am_up σ15 20 (0) (20) 1 = σ16 at hs16 ⊢
  refine ck_aload_n C rfl dX6_init_143 ?_
  refine ck_bipush C (n := 64) (by decide) dX6_init_144 ?_
  refine ck_newa C (t := 0) (n := 64) (i := 0) 41 rfl rfl rfl (show _ < (1:Nat) by omega) (Eq.trans (hA2 41 (by omega) (by omega)) (show _ = z + 1 + 1 + 1 + 1 + 1 + 1 + 1 + 1 + 1 + 1 + 1 + 1 + 1 + 1 + 1 + 1 by omega)) (by omega) (by omega) (by decide) rfl (by intro D hD; cases hD) (by decide +kernel) (show 0 + 1 + 1 + 1 + 1 + 1 + 1 + 1 + 1 + 1 + 1 + 1 + 1 + 1 + 1 + 1 + 1 + 1 ≤ 30 by omega) (show 0 + 24 + 24 + 24 + 24 + 24 + 24 + 24 + 24 + 24 + 24 + 24 + 24 + 24 + 64 + 64 + 64 + 64 ≤ 2424 by omega) dX6_init_146 ?_
  change ck _ p l e _ s m _ below meth c (0 + 1 + 1 + 1 + 1 + 1 + 1 + 1 + 1 + 1 + 1 + 1 + 1 + 1 + 1 + 1 + 1 + 1) (0 + 24 + 24 + 24 + 24 + 24 + 24 + 24 + 24 + 24 + 24 + 24 + 24 + 24 + 64 + 64 + 64 + 64) _ _ _ _ _ _ _ (z + 1 + 1 + 1 + 1 + 1 + 1 + 1 + 1 + 1 + 1 + 1 + 1 + 1 + 1 + 1 + 1 + 1, σ16)
  refine ck_putR C hnm (k := 20) (ci := 6) (j := 21) (T := TX6) rfl (show _ < (1:Nat) by omega) (ca_lt (rfl : g.2.2 20 0 = g.2.2 20 0) (show _ < z + 1 + 1 + 1 + 1 + 1 + 1 + 1 + 1 + 1 + 1 + 1 + 1 + 1 + 1 + 1 + 1 + 1 by omega)) rfl in_cc_X6_init_X6 tyX6 tyX6_ok nmX6 (by decide) (by decide +kernel) rfl rfl rfl (fun _ => rfl) (fun _ => rfl) dX6_init_148 ?_
  have hs17 := dI_S hs16 (n := 21) (by decide) (by decide)
  change ck _ p l e _ s m _ below meth c (0 + 1 + 1 + 1 + 1 + 1 + 1 + 1 + 1 + 1 + 1 + 1 + 1 + 1 + 1 + 1 + 1 + 1) (0 + 24 + 24 + 24 + 24 + 24 + 24 + 24 + 24 + 24 + 24 + 24 + 24 + 24 + 64 + 64 + 64 + 64) _ _ _ _ _ _ _ (z + 1 + 1 + 1 + 1 + 1 + 1 + 1 + 1 + 1 + 1 + 1 + 1 + 1 + 1 + 1 + 1 + 1, am_up σ16 20 (0) (21) 1)
  generalize am_up σ16 20 (0) (21) 1 = σ17 at hs17 ⊢
  refine ck_aload_n C rfl dX6_init_151 ?_
  refine ck_sipush C (n := 512) (by decide) dX6_init_152 ?_
  refine ck_newa C (t := 0) (n := 512) (i := 0) 42 rfl rfl rfl (show _ < (1:Nat) by omega) (Eq.trans (hA2 42 (by omega) (by omega)) (show _ = z + 1 + 1 + 1 + 1 + 1 + 1 + 1 + 1 + 1 + 1 + 1 + 1 + 1 + 1 + 1 + 1 + 1 by omega)) (by omega) (by omega) (by decide) rfl (by intro D hD; cases hD) (by decide +kernel) (show 0 + 1 + 1 + 1 + 1 + 1 + 1 + 1 + 1 + 1 + 1 + 1 + 1 + 1 + 1 + 1 + 1 + 1 + 1 ≤ 30 by omega) (show 0 + 24 + 24 + 24 + 24 + 24 + 24 + 24 + 24 + 24 + 24 + 24 + 24 + 24 + 64 + 64 + 64 + 64 + 512 ≤ 2424 by omega) dX6_init_155 ?_
  change ck _ p l e _ s m _ below meth c (0 + 1 + 1 + 1 + 1 + 1 + 1 + 1 + 1 + 1 + 1 + 1 + 1 + 1 + 1 + 1 + 1 + 1 + 1) (0 + 24 + 24 + 24 + 24 + 24 + 24 + 24 + 24 + 24 + 24 + 24 + 24 + 24 + 64 + 64 + 64 + 64 + 512) _ _ _ _ _ _ _ (z + 1 + 1 + 1 + 1 + 1 + 1 + 1 + 1 + 1 + 1 + 1 + 1 + 1 + 1 + 1 + 1 + 1 + 1, σ17)
  refine ck_putR C hnm (k := 20) (ci := 6) (j := 22) (T := TX6) rfl (show _ < (1:Nat) by omega) (ca_lt (rfl : g.2.2 20 0 = g.2.2 20 0) (show _ < z + 1 + 1 + 1 + 1 + 1 + 1 + 1 + 1 + 1 + 1 + 1 + 1 + 1 + 1 + 1 + 1 + 1 + 1 by omega)) rfl in_cc_X6_init_X6 tyX6 tyX6_ok nmX6 (by decide) (by decide +kernel) rfl rfl rfl (fun _ => rfl) (fun _ => rfl) dX6_init_157 ?_
  have hs18 := dI_S hs17 (n := 22) (by decide) (by decide)
  change ck _ p l e _ s m _ below meth c (0 + 1 + 1 + 1 + 1 + 1 + 1 + 1 + 1 + 1 + 1 + 1 + 1 + 1 + 1 + 1 + 1 + 1 + 1) (0 + 24 + 24 + 24 + 24 + 24 + 24 + 24 + 24 + 24 + 24 + 24 + 24 + 24 + 64 + 64 + 64 + 64 + 512) _ _ _ _ _ _ _ (z + 1 + 1 + 1 + 1 + 1 + 1 + 1 + 1 + 1 + 1 + 1 + 1 + 1 + 1 + 1 + 1 + 1 + 1, am_up σ17 20 (0) (22) 1)
  generalize am_up σ17 20 (0) (22) 1 = σ18 at hs18 ⊢
  refine ck_aload_n C rfl dX6_init_160 ?_
  refine ck_sipush C (n := 256) (by decide) dX6_init_161 ?_
  refine ck_newa C (t := 0) (n := 256) (i := 0) 43 rfl rfl rfl (show _ < (1:Nat) by omega) (Eq.trans (hA2 43 (by omega) (by omega)) (show _ = z + 1 + 1 + 1 + 1 + 1 + 1 + 1 + 1 + 1 + 1 + 1 + 1 + 1 + 1 + 1 + 1 + 1 + 1 by omega)) (by omega) (by omega) (by decide) rfl (by intro D hD; cases hD) (by decide +kernel) (show 0 + 1 + 1 + 1 + 1 + 1 + 1 + 1 + 1 + 1 + 1 + 1 + 1 + 1 + 1 + 1 + 1 + 1 + 1 + 1 ≤ 30 by omega) (show 0 + 24 + 24 + 24 + 24 + 24 + 24 + 24 + 24 + 24 + 24 + 24 + 24 + 24 + 64 + 64 + 64 + 64 + 512 + 256 ≤ 2424 by omega) dX6_init_164 ?_
  change ck _ p l e _ s m _ below meth c (0 + 1 + 1 + 1 + 1 + 1 + 1 + 1 + 1 + 1 + 1 + 1 + 1 + 1 + 1 + 1 + 1 + 1 + 1 + 1) (0 + 24 + 24 + 24 + 24 + 24 + 24 + 24 + 24 + 24 + 24 + 24 + 24 + 24 + 64 + 64 + 64 + 64 + 512 + 256) _ _ _ _ _ _ _ (z + 1 + 1 + 1 + 1 + 1 + 1 + 1 + 1 + 1 + 1 + 1 + 1 + 1 + 1 + 1 + 1 + 1 + 1 + 1, σ18)
  refine ck_putR C hnm (k := 20) (ci := 6) (j := 23) (T := TX6) rfl (show _ < (1:Nat) by omega) (ca_lt (rfl : g.2.2 20 0 = g.2.2 20 0) (show _ < z + 1 + 1 + 1 + 1 + 1 + 1 + 1 + 1 + 1 + 1 + 1 + 1 + 1 + 1 + 1 + 1 + 1 + 1 + 1 by omega)) rfl in_cc_X6_init_X6 tyX6 tyX6_ok nmX6 (by decide) (by decide +kernel) rfl rfl rfl (fun _ => rfl) (fun _ => rfl) dX6_init_166 ?_
  have hs19 := dI_S hs18 (n := 23) (by decide) (by decide)
  change ck _ p l e _ s m _ below meth c (0 + 1 + 1 + 1 + 1 + 1 + 1 + 1 + 1 + 1 + 1 + 1 + 1 + 1 + 1 + 1 + 1 + 1 + 1 + 1) (0 + 24 + 24 + 24 + 24 + 24 + 24 + 24 + 24 + 24 + 24 + 24 + 24 + 24 + 64 + 64 + 64 + 64 + 512 + 256) _ _ _ _ _ _ _ (z + 1 + 1 + 1 + 1 + 1 + 1 + 1 + 1 + 1 + 1 + 1 + 1 + 1 + 1 + 1 + 1 + 1 + 1 + 1, am_up σ18 20 (0) (23) 1)
  generalize am_up σ18 20 (0) (23) 1 = σ19 at hs19 ⊢
  refine ck_aload_n C rfl dX6_init_169 ?_
  refine ck_sipush C (n := 256) (by decide) dX6_init_170 ?_
  refine ck_newa C (t := 0) (n := 256) (i := 0) 44 rfl rfl rfl (show _ < (1:Nat) by omega) (Eq.trans (hA2 44 (by omega) (by omega)) (show _ = z + 1 + 1 + 1 + 1 + 1 + 1 + 1 + 1 + 1 + 1 + 1 + 1 + 1 + 1 + 1 + 1 + 1 + 1 + 1 by omega)) (by omega) (by omega) (by decide) rfl (by intro D hD; cases hD) (by decide +kernel) (show 0 + 1 + 1 + 1 + 1 + 1 + 1 + 1 + 1 + 1 + 1 + 1 + 1 + 1 + 1 + 1 + 1 + 1 + 1 + 1 + 1 ≤ 30 by omega) (show 0 + 24 + 24 + 24 + 24 + 24 + 24 + 24 + 24 + 24 + 24 + 24 + 24 + 24 + 64 + 64 + 64 + 64 + 512 + 256 + 256 ≤ 2424 by omega) dX6_init_173 ?_
  change ck _ p l e _ s m _ below meth c (0 + 1 + 1 + 1 + 1 + 1 + 1 + 1 + 1 + 1 + 1 + 1 + 1 + 1 + 1 + 1 + 1 + 1 + 1 + 1 + 1) (0 + 24 + 24 + 24 + 24 + 24 + 24 + 24 + 24 + 24 + 24 + 24 + 24 + 24 + 64 + 64 + 64 + 64 + 512 + 256 + 256) _ _ _ _ _ _ _ (z + 1 + 1 + 1 + 1 + 1 + 1 + 1 + 1 + 1 + 1 + 1 + 1 + 1 + 1 + 1 + 1 + 1 + 1 + 1 + 1, σ19)
  refine ck_putR C hnm (k := 20) (ci := 6) (j := 24) (T := TX6) rfl (show _ < (1:Nat) by omega) (ca_lt (rfl : g.2.2 20 0 = g.2.2 20 0) (show _ < z + 1 + 1 + 1 + 1 + 1 + 1 + 1 + 1 + 1 + 1 + 1 + 1 + 1 + 1 + 1 + 1 + 1 + 1 + 1 + 1 by omega)) rfl in_cc_X6_init_X6 tyX6 tyX6_ok nmX6 (by decide) (by decide +kernel) rfl rfl rfl (fun _ => rfl) (fun _ => rfl) dX6_init_175 ?_
  have hs20 := dI_S hs19 (n := 24) (by decide) (by decide)
  change ck _ p l e _ s m _ below meth c (0 + 1 + 1 + 1 + 1 + 1 + 1 + 1 + 1 + 1 + 1 + 1 + 1 + 1 + 1 + 1 + 1 + 1 + 1 + 1 + 1) (0 + 24 + 24 + 24 + 24 + 24 + 24 + 24 + 24 + 24 + 24 + 24 + 24 + 24 + 64 + 64 + 64 + 64 + 512 + 256 + 256) _ _ _ _ _ _ _ (z + 1 + 1 + 1 + 1 + 1 + 1 + 1 + 1 + 1 + 1 + 1 + 1 + 1 + 1 + 1 + 1 + 1 + 1 + 1 + 1, am_up σ19 20 (0) (24) 1)
  generalize am_up σ19 20 (0) (24) 1 = σ20 at hs20 ⊢
  refine ck_aload_n C rfl dX6_init_178 ?_
  refine ck_sipush C (n := 256) (by decide) dX6_init_179 ?_
  refine ck_newa C (t := 0) (n := 256) (i := 0) 45 rfl rfl rfl (show _ < (1:Nat) by omega) (Eq.trans (hA2 45 (by omega) (by omega)) (show _ = z + 1 + 1 + 1 + 1 + 1 + 1 + 1 + 1 + 1 + 1 + 1 + 1 + 1 + 1 + 1 + 1 + 1 + 1 + 1 + 1 by omega)) (by omega) (by omega) (by decide) rfl (by intro D hD; cases hD) (by decide +kernel) (show 0 + 1 + 1 + 1 + 1 + 1 + 1 + 1 + 1 + 1 + 1 + 1 + 1 + 1 + 1 + 1 + 1 + 1 + 1 + 1 + 1 + 1 ≤ 30 by omega) (show 0 + 24 + 24 + 24 + 24 + 24 + 24 + 24 + 24 + 24 + 24 + 24 + 24 + 24 + 64 + 64 + 64 + 64 + 512 + 256 + 256 + 256 ≤ 2424 by omega) dX6_init_182 ?_
  change ck _ p l e _ s m _ below meth c (0 + 1 + 1 + 1 + 1 + 1 + 1 + 1 + 1 + 1 + 1 + 1 + 1 + 1 + 1 + 1 + 1 + 1 + 1 + 1 + 1 + 1) (0 + 24 + 24 + 24 + 24 + 24 + 24 + 24 + 24 + 24 + 24 + 24 + 24 + 24 + 64 + 64 + 64 + 64 + 512 + 256 + 256 + 256) _ _ _ _ _ _ _ (z + 1 + 1 + 1 + 1 + 1 + 1 + 1 + 1 + 1 + 1 + 1 + 1 + 1 + 1 + 1 + 1 + 1 + 1 + 1 + 1 + 1, σ20)
  refine ck_putR C hnm (k := 20) (ci := 6) (j := 25) (T := TX6) rfl (show _ < (1:Nat) by omega) (ca_lt (rfl : g.2.2 20 0 = g.2.2 20 0) (show _ < z + 1 + 1 + 1 + 1 + 1 + 1 + 1 + 1 + 1 + 1 + 1 + 1 + 1 + 1 + 1 + 1 + 1 + 1 + 1 + 1 + 1 by omega)) rfl in_cc_X6_init_X6 tyX6 tyX6_ok nmX6 (by decide) (by decide +kernel) rfl rfl rfl (fun _ => rfl) (fun _ => rfl) dX6_init_184 ?_
  have hs21 := dI_S hs20 (n := 25) (by decide) (by decide)
  change ck _ p l e _ s m _ below meth c (0 + 1 + 1 + 1 + 1 + 1 + 1 + 1 + 1 + 1 + 1 + 1 + 1 + 1 + 1 + 1 + 1 + 1 + 1 + 1 + 1 + 1) (0 + 24 + 24 + 24 + 24 + 24 + 24 + 24 + 24 + 24 + 24 + 24 + 24 + 24 + 64 + 64 + 64 + 64 + 512 + 256 + 256 + 256) _ _ _ _ _ _ _ (z + 1 + 1 + 1 + 1 + 1 + 1 + 1 + 1 + 1 + 1 + 1 + 1 + 1 + 1 + 1 + 1 + 1 + 1 + 1 + 1 + 1, am_up σ20 20 (0) (25) 1)
  generalize am_up σ20 20 (0) (25) 1 = σ21 at hs21 ⊢
  refine ck_aload_n C rfl dX6_init_187 ?_
  refine ck_sipush C (n := 256) (by decide) dX6_init_188 ?_
  refine ck_newa C (t := 0) (n := 256) (i := 0) 46 rfl rfl rfl (show _ < (1:Nat) by omega) (Eq.trans (hA2 46 (by omega) (by omega)) (show _ = z + 1 + 1 + 1 + 1 + 1 + 1 + 1 + 1 + 1 + 1 + 1 + 1 + 1 + 1 + 1 + 1 + 1 + 1 + 1 + 1 + 1 by omega)) (by omega) (by omega) (by decide) rfl (by intro D hD; cases hD) (by decide +kernel) (show 0 + 1 + 1 + 1 + 1 + 1 + 1 + 1 + 1 + 1 + 1 + 1 + 1 + 1 + 1 + 1 + 1 + 1 + 1 + 1 + 1 + 1 + 1 ≤ 30 by omega) (show 0 + 24 + 24 + 24 + 24 + 24 + 24 + 24 + 24 + 24 + 24 + 24 + 24 + 24 + 64 + 64 + 64 + 64 + 512 + 256 + 256 + 256 + 256 ≤ 2424 by omega) dX6_init_191 ?_
  change ck _ p l e _ s m _ below meth c (0 + 1 + 1 + 1 + 1 + 1 + 1 + 1 + 1 + 1 + 1 + 1 + 1 + 1 + 1 + 1 + 1 + 1 + 1 + 1 + 1 + 1 + 1) (0 + 24 + 24 + 24 + 24 + 24 + 24 + 24 + 24 + 24 + 24 + 24 + 24 + 24 + 64 + 64 + 64 + 64 + 512 + 256 + 256 + 256 + 256) _ _ _ _ _ _ _ (z + 1 + 1 + 1 + 1 + 1 + 1 + 1 + 1 + 1 + 1 + 1 + 1 + 1 + 1 + 1 + 1 + 1 + 1 + 1 + 1 + 1 + 1, σ21)
  refine ck_putR C hnm (k := 20) (ci := 6) (j := 26) (T := TX6) rfl (show _ < (1:Nat) by omega) (ca_lt (rfl : g.2.2 20 0 = g.2.2 20 0) (show _ < z + 1 + 1 + 1 + 1 + 1 + 1 + 1 + 1 + 1 + 1 + 1 + 1 + 1 + 1 + 1 + 1 + 1 + 1 + 1 + 1 + 1 + 1 by omega)) rfl in_cc_X6_init_X6 tyX6 tyX6_ok nmX6 (by decide) (by decide +kernel) rfl rfl rfl (fun _ => rfl) (fun _ => rfl) dX6_init_193 ?_
  have hs22 := dI_S hs21 (n := 26) (by decide) (by decide)
  change ck _ p l e _ s m _ below meth c (0 + 1 + 1 + 1 + 1 + 1 + 1 + 1 + 1 + 1 + 1 + 1 + 1 + 1 + 1 + 1 + 1 + 1 + 1 + 1 + 1 + 1 + 1) (0 + 24 + 24 + 24 + 24 + 24 + 24 + 24 + 24 + 24 + 24 + 24 + 24 + 24 + 64 + 64 + 64 + 64 + 512 + 256 + 256 + 256 + 256) _ _ _ _ _ _ _ (z + 1 + 1 + 1 + 1 + 1 + 1 + 1 + 1 + 1 + 1 + 1 + 1 + 1 + 1 + 1 + 1 + 1 + 1 + 1 + 1 + 1 + 1, am_up σ21 20 (0) (26) 1)
  generalize am_up σ21 20 (0) (26) 1 = σ22 at hs22 ⊢
  refine ck_aload_n C rfl dX6_init_196 ?_
  refine ck_bipush C (n := 16) (by decide) dX6_init_197 ?_
  refine ck_newa C (t := 1) (n := 16) (i := 0) 47 rfl rfl rfl (show _ < (1:Nat) by omega) (Eq.trans (hA2 47 (by omega) (by omega)) (show _ = z + 1 + 1 + 1 + 1 + 1 + 1 + 1 + 1 + 1 + 1 + 1 + 1 + 1 + 1 + 1 + 1 + 1 + 1 + 1 + 1 + 1 + 1 by omega)) (by omega) (by omega) (by decide) rfl (by intro D hD; cases hD) (by decide +kernel) (show 0 + 1 + 1 + 1 + 1 + 1 + 1 + 1 + 1 + 1 + 1 + 1 + 1 + 1 + 1 + 1 + 1 + 1 + 1 + 1 + 1 + 1 + 1 + 1 ≤ 30 by omega) (show 0 + 24 + 24 + 24 + 24 + 24 + 24 + 24 + 24 + 24 + 24 + 24 + 24 + 24 + 64 + 64 + 64 + 64 + 512 + 256 + 256 + 256 + 256 + 16 ≤ 2424 by omega) dX6_init_199 ?_
  change ck _ p l e _ s m _ below meth c (0 + 1 + 1 + 1 + 1 + 1 + 1 + 1 + 1 + 1 + 1 + 1 + 1 + 1 + 1 + 1 + 1 + 1 + 1 + 1 + 1 + 1 + 1 + 1) (0 + 24 + 24 + 24 + 24 + 24 + 24 + 24 + 24 + 24 + 24 + 24 + 24 + 24 + 64 + 64 + 64 + 64 + 512 + 256 + 256 + 256 + 256 + 16) _ _ _ _ _ _ _ (z + 1 + 1 + 1 + 1 + 1 + 1 + 1 + 1 + 1 + 1 + 1 + 1 + 1 + 1 + 1 + 1 + 1 + 1 + 1 + 1 + 1 + 1 + 1, σ22)
  refine ck_putR C hnm (k := 20) (ci := 6) (j := 27) (T := TX6) rfl (show _ < (1:Nat) by omega) (ca_lt (rfl : g.2.2 20 0 = g.2.2 20 0) (show _ < z + 1 + 1 + 1 + 1 + 1 + 1 + 1 + 1 + 1 + 1 + 1 + 1 + 1 + 1 + 1 + 1 + 1 + 1 + 1 + 1 + 1 + 1 + 1 by omega)) rfl in_cc_X6_init_X6 tyX6 tyX6_ok nmX6 (by decide) (by decide +kernel) rfl rfl rfl (fun _ => rfl) (fun _ => rfl) dX6_init_201 ?_
  have hs23 := dI_S hs22 (n := 27) (by decide) (by decide)
  change ck _ p l e _ s m _ below meth c (0 + 1 + 1 + 1 + 1 + 1 + 1 + 1 + 1 + 1 + 1 + 1 + 1 + 1 + 1 + 1 + 1 + 1 + 1 + 1 + 1 + 1 + 1 + 1) (0 + 24 + 24 + 24 + 24 + 24 + 24 + 24 + 24 + 24 + 24 + 24 + 24 + 24 + 64 + 64 + 64 + 64 + 512 + 256 + 256 + 256 + 256 + 16) _ _ _ _ _ _ _ (z + 1 + 1 + 1 + 1 + 1 + 1 + 1 + 1 + 1 + 1 + 1 + 1 + 1 + 1 + 1 + 1 + 1 + 1 + 1 + 1 + 1 + 1 + 1, am_up σ22 20 (0) (27) 1)
  generalize am_up σ22 20 (0) (27) 1 = σ23 at hs23 ⊢
  refine ck_aload_n C rfl dX6_init_204 ?_
  refine ck_bipush C (n := 16) (by decide) dX6_init_205 ?_
  refine ck_newa C (t := 0) (n := 16) (i := 0) 48 rfl rfl rfl (show _ < (1:Nat) by omega) (Eq.trans (hA2 48 (by omega) (by omega)) (show _ = z + 1 + 1 + 1 + 1 + 1 + 1 + 1 + 1 + 1 + 1 + 1 + 1 + 1 + 1 + 1 + 1 + 1 + 1 + 1 + 1 + 1 + 1 + 1 by omega)) (by omega) (by omega) (by decide) rfl (by intro D hD; cases hD) (by decide +kernel) (show 0 + 1 + 1 + 1 + 1 + 1 + 1 + 1 + 1 + 1 + 1 + 1 + 1 + 1 + 1 + 1 + 1 + 1 + 1 + 1 + 1 + 1 + 1 + 1 + 1 ≤ 30 by omega) (show 0 + 24 + 24 + 24 + 24 + 24 + 24 + 24 + 24 + 24 + 24 + 24 + 24 + 24 + 64 + 64 + 64 + 64 + 512 + 256 + 256 + 256 + 256 + 16 + 16 ≤ 2424 by omega) dX6_init_207 ?_
  change ck _ p l e _ s m _ below meth c (0 + 1 + 1 + 1 + 1 + 1 + 1 + 1 + 1 + 1 + 1 + 1 + 1 + 1 + 1 + 1 + 1 + 1 + 1 + 1 + 1 + 1 + 1 + 1 + 1) (0 + 24 + 24 + 24 + 24 + 24 + 24 + 24 + 24 + 24 + 24 + 24 + 24 + 24 + 64 + 64 + 64 + 64 + 512 + 256 + 256 + 256 + 256 + 16 + 16) _ _ _ _ _ _ _ (z + 1 + 1 + 1 + 1 + 1 + 1 + 1 + 1 + 1 + 1 + 1 + 1 + 1 + 1 + 1 + 1 + 1 + 1 + 1 + 1 + 1 + 1 + 1 + 1, σ23)
  refine ck_putR C hnm (k := 20) (ci := 6) (j := 28) (T := TX6) rfl (show _ < (1:Nat) by omega) (ca_lt (rfl : g.2.2 20 0 = g.2.2 20 0) (show _ < z + 1 + 1 + 1 + 1 + 1 + 1 + 1 + 1 + 1 + 1 + 1 + 1 + 1 + 1 + 1 + 1 + 1 + 1 + 1 + 1 + 1 + 1 + 1 + 1 by omega)) rfl in_cc_X6_init_X6 tyX6 tyX6_ok nmX6 (by decide) (by decide +kernel) rfl rfl rfl (fun _ => rfl) (fun _ => rfl) dX6_init_209 ?_
  have hs24 := dI_S hs23 (n := 28) (by decide) (by decide)
  change ck _ p l e _ s m _ below meth c (0 + 1 + 1 + 1 + 1 + 1 + 1 + 1 + 1 + 1 + 1 + 1 + 1 + 1 + 1 + 1 + 1 + 1 + 1 + 1 + 1 + 1 + 1 + 1 + 1) (0 + 24 + 24 + 24 + 24 + 24 + 24 + 24 + 24 + 24 + 24 + 24 + 24 + 24 + 64 + 64 + 64 + 64 + 512 + 256 + 256 + 256 + 256 + 16 + 16) _ _ _ _ _ _ _ (z + 1 + 1 + 1 + 1 + 1 + 1 + 1 + 1 + 1 + 1 + 1 + 1 + 1 + 1 + 1 + 1 + 1 + 1 + 1 + 1 + 1 + 1 + 1 + 1, am_up σ23 20 (0) (28) 1)
  generalize am_up σ23 20 (0) (28) 1 = σ24 at hs24 ⊢
  refine ck_aload_n C rfl dX6_init_212 ?_
  refine ck_bipush C (n := 16) (by decide) dX6_init_213 ?_
  refine ck_newa C (t := 0) (n := 16) (i := 0) 49 rfl rfl rfl (show _ < (1:Nat) by omega) (Eq.trans (hA2 49 (by omega) (by omega)) (show _ = z + 1 + 1 + 1 + 1 + 1 + 1 + 1 + 1 + 1 + 1 + 1 + 1 + 1 + 1 + 1 + 1 + 1 + 1 + 1 + 1 + 1 + 1 + 1 + 1 by omega)) (by omega) (by omega) (by decide) rfl (by intro D hD; cases hD) (by decide +kernel) (show 0 + 1 + 1 + 1 + 1 + 1 + 1 + 1 + 1 + 1 + 1 + 1 + 1 + 1 + 1 + 1 + 1 + 1 + 1 + 1 + 1 + 1 + 1 + 1 + 1 + 1 ≤ 30 by omega) (show 0 + 24 + 24 + 24 + 24 + 24 + 24 + 24 + 24 + 24 + 24 + 24 + 24 + 24 + 64 + 64 + 64 + 64 + 512 + 256 + 256 + 256 + 256 + 16 + 16 + 16 ≤ 2424 by omega) dX6_init_215 ?_
  change ck _ p l e _ s m _ below meth c (0 + 1 + 1 + 1 + 1 + 1 + 1 + 1 + 1 + 1 + 1 + 1 + 1 + 1 + 1 + 1 + 1 + 1 + 1 + 1 + 1 + 1 + 1 + 1 + 1 + 1) (0 + 24 + 24 + 24 + 24 + 24 + 24 + 24 + 24 + 24 + 24 + 24 + 24 + 24 + 64 + 64 + 64 + 64 + 512 + 256 + 256 + 256 + 256 + 16 + 16 + 16) _ _ _ _ _ _ _ (z + 1 + 1 + 1 + 1 + 1 + 1 + 1 + 1 + 1 + 1 + 1 + 1 + 1 + 1 + 1 + 1 + 1 + 1 + 1 + 1 + 1 + 1 + 1 + 1 + 1, σ24)
  refine ck_putR C hnm (k := 20) (ci := 6) (j := 29) (T := TX6) rfl (show _ < (1:Nat) by omega) (ca_lt (rfl : g.2.2 20 0 = g.2.2 20 0) (show _ < z + 1 + 1 + 1 + 1 + 1 + 1 + 1 + 1 + 1 + 1 + 1 + 1 + 1 + 1 + 1 + 1 + 1 + 1 + 1 + 1 + 1 + 1 + 1 + 1 + 1 by omega)) rfl in_cc_X6_init_X6 tyX6 tyX6_ok nmX6 (by decide) (by decide +kernel) rfl rfl rfl (fun _ => rfl) (fun _ => rfl) dX6_init_217 ?_
  have hs25 := dI_S hs24 (n := 29) (by decide) (by decide)
  change ck _ p l e _ s m _ below meth c (0 + 1 + 1 + 1 + 1 + 1 + 1 + 1 + 1 + 1 + 1 + 1 + 1 + 1 + 1 + 1 + 1 + 1 + 1 + 1 + 1 + 1 + 1 + 1 + 1 + 1) (0 + 24 + 24 + 24 + 24 + 24 + 24 + 24 + 24 + 24 + 24 + 24 + 24 + 24 + 64 + 64 + 64 + 64 + 512 + 256 + 256 + 256 + 256 + 16 + 16 + 16) _ _ _ _ _ _ _ (z + 1 + 1 + 1 + 1 + 1 + 1 + 1 + 1 + 1 + 1 + 1 + 1 + 1 + 1 + 1 + 1 + 1 + 1 + 1 + 1 + 1 + 1 + 1 + 1 + 1, am_up σ24 20 (0) (29) 1)
  generalize am_up σ24 20 (0) (29) 1 = σ25 at hs25 ⊢
  refine ck_aload_n C rfl dX6_init_220 ?_
  refine ck_bipush C (n := 16) (by decide) dX6_init_221 ?_
  refine ck_newa C (t := 0) (n := 16) (i := 0) 50 rfl rfl rfl (show _ < (1:Nat) by omega) (Eq.trans (hA2 50 (by omega) (by omega)) (show _ = z + 1 + 1 + 1 + 1 + 1 + 1 + 1 + 1 + 1 + 1 + 1 + 1 + 1 + 1 + 1 + 1 + 1 + 1 + 1 + 1 + 1 + 1 + 1 + 1 + 1 by omega)) (by omega) (by omega) (by decide) rfl (by intro D hD; cases hD) (by decide +kernel) (show 0 + 1 + 1 + 1 + 1 + 1 + 1 + 1 + 1 + 1 + 1 + 1 + 1 + 1 + 1 + 1 + 1 + 1 + 1 + 1 + 1 + 1 + 1 + 1 + 1 + 1 + 1 ≤ 30 by omega) (show 0 + 24 + 24 + 24 + 24 + 24 + 24 + 24 + 24 + 24 + 24 + 24 + 24 + 24 + 64 + 64 + 64 + 64 + 512 + 256 + 256 + 256 + 256 + 16 + 16 + 16 + 16 ≤ 2424 by omega) dX6_init_223 ?_
  change ck _ p l e _ s m _ below meth c (0 + 1 + 1 + 1 + 1 + 1 + 1 + 1 + 1 + 1 + 1 + 1 + 1 + 1 + 1 + 1 + 1 + 1 + 1 + 1 + 1 + 1 + 1 + 1 + 1 + 1 + 1) (0 + 24 + 24 + 24 + 24 + 24 + 24 + 24 + 24 + 24 + 24 + 24 + 24 + 24 + 64 + 64 + 64 + 64 + 512 + 256 + 256 + 256 + 256 + 16 + 16 + 16 + 16) _ _ _ _ _ _ _ (z + 1 + 1 + 1 + 1 + 1 + 1 + 1 + 1 + 1 + 1 + 1 + 1 + 1 + 1 + 1 + 1 + 1 + 1 + 1 + 1 + 1 + 1 + 1 + 1 + 1 + 1, σ25)
  refine ck_putR C hnm (k := 20) (ci := 6) (j := 30) (T := TX6) rfl (show _ < (1:Nat) by omega) (ca_lt (rfl : g.2.2 20 0 = g.2.2 20 0) (show _ < z + 1 + 1 + 1 + 1 + 1 + 1 + 1 + 1 + 1 + 1 + 1 + 1 + 1 + 1 + 1 + 1 + 1 + 1 + 1 + 1 + 1 + 1 + 1 + 1 + 1 + 1 by omega)) rfl in_cc_X6_init_X6 tyX6 tyX6_ok nmX6 (by decide) (by decide +kernel) rfl rfl rfl (fun _ => rfl) (fun _ => rfl) dX6_init_225 ?_
  have hs26 := dI_S hs25 (n := 30) (by decide) (by decide)
  change ck _ p l e _ s m _ below meth c (0 + 1 + 1 + 1 + 1 + 1 + 1 + 1 + 1 + 1 + 1 + 1 + 1 + 1 + 1 + 1 + 1 + 1 + 1 + 1 + 1 + 1 + 1 + 1 + 1 + 1 + 1) (0 + 24 + 24 + 24 + 24 + 24 + 24 + 24 + 24 + 24 + 24 + 24 + 24 + 24 + 64 + 64 + 64 + 64 + 512 + 256 + 256 + 256 + 256 + 16 + 16 + 16 + 16) _ _ _ _ _ _ _ (z + 1 + 1 + 1 + 1 + 1 + 1 + 1 + 1 + 1 + 1 + 1 + 1 + 1 + 1 + 1 + 1 + 1 + 1 + 1 + 1 + 1 + 1 + 1 + 1 + 1 + 1, am_up σ25 20 (0) (30) 1)
  generalize am_up σ25 20 (0) (30) 1 = σ26 at hs26 ⊢
  refine ck_aload_n C rfl dX6_init_228 ?_
  refine ck_bipush C (n := 64) (by decide) dX6_init_229 ?_
  refine ck_newa C (t := 0) (n := 64) (i := 0) 51 rfl rfl rfl (show _ < (1:Nat) by omega) (Eq.trans (hA2 51 (by omega) (by omega)) (show _ = z + 1 + 1 + 1 + 1 + 1 + 1 + 1 + 1 + 1 + 1 + 1 + 1 + 1 + 1 + 1 + 1 + 1 + 1 + 1 + 1 + 1 + 1 + 1 + 1 + 1 + 1 by omega)) (by omega) (by omega) (by decide) rfl (by intro D hD; cases hD) (by decide +kernel) (show 0 + 1 + 1 + 1 + 1 + 1 + 1 + 1 + 1 + 1 + 1 + 1 + 1 + 1 + 1 + 1 + 1 + 1 + 1 + 1 + 1 + 1 + 1 + 1 + 1 + 1 + 1 + 1 ≤ 30 by omega) (show 0 + 24 + 24 + 24 + 24 + 24 + 24 + 24 + 24 + 24 + 24 + 24 + 24 + 24 + 64 + 64 + 64 + 64 + 512 + 256 + 256 + 256 + 256 + 16 + 16 + 16 + 16 + 64 ≤ 2424 by omega) dX6_init_231 ?_
  change ck _ p l e _ s m _ below meth c (0 + 1 + 1 + 1 + 1 + 1 + 1 + 1 + 1 + 1 + 1 + 1 + 1 + 1 + 1 + 1 + 1 + 1 + 1 + 1 + 1 + 1 + 1 + 1 + 1 + 1 + 1 + 1) (0 + 24 + 24 + 24 + 24 + 24 + 24 + 24 + 24 + 24 + 24 + 24 + 24 + 24 + 64 + 64 + 64 + 64 + 512 + 256 + 256 + 256 + 256 + 16 + 16 + 16 + 16 + 64) _ _ _ _ _ _ _ (z + 1 + 1 + 1 + 1 + 1 + 1 + 1 + 1 + 1 + 1 + 1 + 1 + 1 + 1 + 1 + 1 + 1 + 1 + 1 + 1 + 1 + 1 + 1 + 1 + 1 + 1 + 1, σ26)
  refine ck_putR C hnm (k := 20) (ci := 6) (j := 31) (T := TX6) rfl (show _ < (1:Nat) by omega) (ca_lt (rfl : g.2.2 20 0 = g.2.2 20 0) (show _ < z + 1 + 1 + 1 + 1 + 1 + 1 + 1 + 1 + 1 + 1 + 1 + 1 + 1 + 1 + 1 + 1 + 1 + 1 + 1 + 1 + 1 + 1 + 1 + 1 + 1 + 1 + 1 by omega)) rfl in_cc_X6_init_X6 tyX6 tyX6_ok nmX6 (by decide) (by decide +kernel) rfl rfl rfl (fun _ => rfl) (fun _ => rfl) dX6_init_233 ?_
  have hs27 := dI_S hs26 (n := 31) (by decide) (by decide)
  change ck _ p l e _ s m _ below meth c (0 + 1 + 1 + 1 + 1 + 1 + 1 + 1 + 1 + 1 + 1 + 1 + 1 + 1 + 1 + 1 + 1 + 1 + 1 + 1 + 1 + 1 + 1 + 1 + 1 + 1 + 1 + 1) (0 + 24 + 24 + 24 + 24 + 24 + 24 + 24 + 24 + 24 + 24 + 24 + 24 + 24 + 64 + 64 + 64 + 64 + 512 + 256 + 256 + 256 + 256 + 16 + 16 + 16 + 16 + 64) _ _ _ _ _ _ _ (z + 1 + 1 + 1 + 1 + 1 + 1 + 1 + 1 + 1 + 1 + 1 + 1 + 1 + 1 + 1 + 1 + 1 + 1 + 1 + 1 + 1 + 1 + 1 + 1 + 1 + 1 + 1, am_up σ26 20 (0) (31) 1)
  generalize am_up σ26 20 (0) (31) 1 = σ27 at hs27 ⊢
  refine ck_aload_n C rfl dX6_init_236 ?_
  refine ck_bipush C (n := 64) (by decide) dX6_init_237 ?_
  refine ck_newa C (t := 0) (n := 64) (i := 0) 52 rfl rfl rfl (show _ < (1:Nat) by omega) (Eq.trans (hA2 52 (by omega) (by omega)) (show _ = z + 1 + 1 + 1 + 1 + 1 + 1 + 1 + 1 + 1 + 1 + 1 + 1 + 1 + 1 + 1 + 1 + 1 + 1 + 1 + 1 + 1 + 1 + 1 + 1 + 1 + 1 + 1 by omega)) (by omega) (by omega) (by decide) rfl (by intro D hD; cases hD) (by decide +kernel) (show 0 + 1 + 1 + 1 + 1 + 1 + 1 + 1 + 1 + 1 + 1 + 1 + 1 + 1 + 1 + 1 + 1 + 1 + 1 + 1 + 1 + 1 + 1 + 1 + 1 + 1 + 1 + 1 + 1 ≤ 30 by omega) (show 0 + 24 + 24 + 24 + 24 + 24 + 24 + 24 + 24 + 24 + 24 + 24 + 24 + 24 + 64 + 64 + 64 + 64 + 512 + 256 + 256 + 256 + 256 + 16 + 16 + 16 + 16 + 64 + 64 ≤ 2424 by omega) dX6_init_239 ?_
  change ck _ p l e _ s m _ below meth c (0 + 1 + 1 + 1 + 1 + 1 + 1 + 1 + 1 + 1 + 1 + 1 + 1 + 1 + 1 + 1 + 1 + 1 + 1 + 1 + 1 + 1 + 1 + 1 + 1 + 1 + 1 + 1 + 1) (0 + 24 + 24 + 24 + 24 + 24 + 24 + 24 + 24 + 24 + 24 + 24 + 24 + 24 + 64 + 64 + 64 + 64 + 512 + 256 + 256 + 256 + 256 + 16 + 16 + 16 + 16 + 64 + 64) _ _ _ _ _ _ _ (z + 1 + 1 + 1 + 1 + 1 + 1 + 1 + 1 + 1 + 1 + 1 + 1 + 1 + 1 + 1 + 1 + 1 + 1 + 1 + 1 + 1 + 1 + 1 + 1 + 1 + 1 + 1 + 1, σ27)
  refine ck_putR C hnm (k := 20) (ci := 6) (j := 32) (T := TX6) rfl (show _ < (1:Nat) by omega) (ca_lt (rfl : g.2.2 20 0 = g.2.2 20 0) (show _ < z + 1 + 1 + 1 + 1 + 1 + 1 + 1 + 1 + 1 + 1 + 1 + 1 + 1 + 1 + 1 + 1 + 1 + 1 + 1 + 1 + 1 + 1 + 1 + 1 + 1 + 1 + 1 + 1 by omega)) rfl in_cc_X6_init_X6 tyX6 tyX6_ok nmX6 (by decide) (by decide +kernel) rfl rfl rfl (fun _ => rfl) (fun _ => rfl) dX6_init_241 ?_
  have hs28 := dI_S hs27 (n := 32) (by decide) (by decide)
  change ck _ p l e _ s m _ below meth c (0 + 1 + 1 + 1 + 1 + 1 + 1 + 1 + 1 + 1 + 1 + 1 + 1 + 1 + 1 + 1 + 1 + 1 + 1 + 1 + 1 + 1 + 1 + 1 + 1 + 1 + 1 + 1 + 1) (0 + 24 + 24 + 24 + 24 + 24 + 24 + 24 + 24 + 24 + 24 + 24 + 24 + 24 + 64 + 64 + 64 + 64 + 512 + 256 + 256 + 256 + 256 + 16 + 16 + 16 + 16 + 64 + 64) _ _ _ _ _ _ _ (z + 1 + 1 + 1 + 1 + 1 + 1 + 1 + 1 + 1 + 1 + 1 + 1 + 1 + 1 + 1 + 1 + 1 + 1 + 1 + 1 + 1 + 1 + 1 + 1 + 1 + 1 + 1 + 1, am_up σ27 20 (0) (32) 1)
  generalize am_up σ27 20 (0) (32) 1 = σ28 at hs28 ⊢
  refine ck_aload_n C rfl dX6_init_244 ?_
  refine ck_bipush C (n := 64) (by decide) dX6_init_245 ?_
  refine ck_newa C (t := 0) (n := 64) (i := 0) 53 rfl rfl rfl (show _ < (1:Nat) by omega) (Eq.trans (hA2 53 (by omega) (by omega)) (show _ = z + 1 + 1 + 1 + 1 + 1 + 1 + 1 + 1 + 1 + 1 + 1 + 1 + 1 + 1 + 1 + 1 + 1 + 1 + 1 + 1 + 1 + 1 + 1 + 1 + 1 + 1 + 1 + 1 by omega)) (by omega) (by omega) (by decide) rfl (by intro D hD; cases hD) (by decide +kernel) (show 0 + 1 + 1 + 1 + 1 + 1 + 1 + 1 + 1 + 1 + 1 + 1 + 1 + 1 + 1 + 1 + 1 + 1 + 1 + 1 + 1 + 1 + 1 + 1 + 1 + 1 + 1 + 1 + 1 + 1 ≤ 30 by omega) (show 0 + 24 + 24 + 24 + 24 + 24 + 24 + 24 + 24 + 24 + 24 + 24 + 24 + 24 + 64 + 64 + 64 + 64 + 512 + 256 + 256 + 256 + 256 + 16 + 16 + 16 + 16 + 64 + 64 + 64 ≤ 2424 by omega) dX6_init_247 ?_
  change ck _ p l e _ s m _ below meth c (0 + 1 + 1 + 1 + 1 + 1 + 1 + 1 + 1 + 1 + 1 + 1 + 1 + 1 + 1 + 1 + 1 + 1 + 1 + 1 + 1 + 1 + 1 + 1 + 1 + 1 + 1 + 1 + 1 + 1) (0 + 24 + 24 + 24 + 24 + 24 + 24 + 24 + 24 + 24 + 24 + 24 + 24 + 24 + 64 + 64 + 64 + 64 + 512 + 256 + 256 + 256 + 256 + 16 + 16 + 16 + 16 + 64 + 64 + 64) _ _ _ _ _ _ _ (z + 1 + 1 + 1 + 1 + 1 + 1 + 1 + 1 + 1 + 1 + 1 + 1 + 1 + 1 + 1 + 1 + 1 + 1 + 1 + 1 + 1 + 1 + 1 + 1 + 1 + 1 + 1 + 1 + 1, σ28)
  refine ck_putR C hnm (k := 20) (ci := 6) (j := 33) (T := TX6) rfl (show _ < (1:Nat) by omega) (ca_lt (rfl : g.2.2 20 0 = g.2.2 20 0) (show _ < z + 1 + 1 + 1 + 1 + 1 + 1 + 1 + 1 + 1 + 1 + 1 + 1 + 1 + 1 + 1 + 1 + 1 + 1 + 1 + 1 + 1 + 1 + 1 + 1 + 1 + 1 + 1 + 1 + 1 by omega)) rfl in_cc_X6_init_X6 tyX6 tyX6_ok nmX6 (by decide) (by decide +kernel) rfl rfl rfl (fun _ => rfl) (fun _ => rfl) dX6_init_249 ?_
  have hs29 := dI_S hs28 (n := 33) (by decide) (by decide)
  change ck _ p l e _ s m _ below meth c (0 + 1 + 1 + 1 + 1 + 1 + 1 + 1 + 1 + 1 + 1 + 1 + 1 + 1 + 1 + 1 + 1 + 1 + 1 + 1 + 1 + 1 + 1 + 1 + 1 + 1 + 1 + 1 + 1 + 1) (0 + 24 + 24 + 24 + 24 + 24 + 24 + 24 + 24 + 24 + 24 + 24 + 24 + 24 + 64 + 64 + 64 + 64 + 512 + 256 + 256 + 256 + 256 + 16 + 16 + 16 + 16 + 64 + 64 + 64) _ _ _ _ _ _ _ (z + 1 + 1 + 1 + 1 + 1 + 1 + 1 + 1 + 1 + 1 + 1 + 1 + 1 + 1 + 1 + 1 + 1 + 1 + 1 + 1 + 1 + 1 + 1 + 1 + 1 + 1 + 1 + 1 + 1, am_up σ28 20 (0) (33) 1)
  generalize am_up σ28 20 (0) (33) 1 = σ29 at hs29 ⊢
  refine ck_aload_n C rfl dX6_init_252 ?_
  refine ck_bipush C (n := 64) (by decide) dX6_init_253 ?_
  refine ck_newa C (t := 0) (n := 64) (i := 0) 54 rfl rfl rfl (show _ < (1:Nat) by omega) (Eq.trans (hA2 54 (by omega) (by omega)) (show _ = z + 1 + 1 + 1 + 1 + 1 + 1 + 1 + 1 + 1 + 1 + 1 + 1 + 1 + 1 + 1 + 1 + 1 + 1 + 1 + 1 + 1 + 1 + 1 + 1 + 1 + 1 + 1 + 1 + 1 by omega)) (by omega) (by omega) (by decide) rfl (by intro D hD; cases hD) (by decide +kernel) (show 0 + 1 + 1 + 1 + 1 + 1 + 1 + 1 + 1 + 1 + 1 + 1 + 1 + 1 + 1 + 1 + 1 + 1 + 1 + 1 + 1 + 1 + 1 + 1 + 1 + 1 + 1 + 1 + 1 + 1 + 1 ≤ 30 by omega) (show 0 + 24 + 24 + 24 + 24 + 24 + 24 + 24 + 24 + 24 + 24 + 24 + 24 + 24 + 64 + 64 + 64 + 64 + 512 + 256 + 256 + 256 + 256 + 16 + 16 + 16 + 16 + 64 + 64 + 64 + 64 ≤ 2424 by omega) dX6_init_255 ?_
  change ck _ p l e _ s m _ below meth c (0 + 1 + 1 + 1 + 1 + 1 + 1 + 1 + 1 + 1 + 1 + 1 + 1 + 1 + 1 + 1 + 1 + 1 + 1 + 1 + 1 + 1 + 1 + 1 + 1 + 1 + 1 + 1 + 1 + 1 + 1) (0 + 24 + 24 + 24 + 24 + 24 + 24 + 24 + 24 + 24 + 24 + 24 + 24 + 24 + 64 + 64 + 64 + 64 + 512 + 256 + 256 + 256 + 256 + 16 + 16 + 16 + 16 + 64 + 64 + 64 + 64) _ _ _ _ _ _ _ (z + 1 + 1 + 1 + 1 + 1 + 1 + 1 + 1 + 1 + 1 + 1 + 1 + 1 + 1 + 1 + 1 + 1 + 1 + 1 + 1 + 1 + 1 + 1 + 1 + 1 + 1 + 1 + 1 + 1 + 1, σ29)
  refine ck_putR C hnm (k := 20) (ci := 6) (j := 34) (T := TX6) rfl (show _ < (1:Nat) by omega) (ca_lt (rfl : g.2.2 20 0 = g.2.2 20 0) (show _ < z + 1 + 1 + 1 + 1 + 1 + 1 + 1 + 1 + 1 + 1 + 1 + 1 + 1 + 1 + 1 + 1 + 1 + 1 + 1 + 1 + 1 + 1 + 1 + 1 + 1 + 1 + 1 + 1 + 1 + 1 by omega)) rfl in_cc_X6_init_X6 tyX6 tyX6_ok nmX6 (by decide) (by decide +kernel) rfl rfl rfl (fun _ => rfl) (fun _ => rfl) dX6_init_257 ?_
  have hs30 := dI_S hs29 (n := 34) (by decide) (by decide)
  change ck _ p l e _ s m _ below meth c (0 + 1 + 1 + 1 + 1 + 1 + 1 + 1 + 1 + 1 + 1 + 1 + 1 + 1 + 1 + 1 + 1 + 1 + 1 + 1 + 1 + 1 + 1 + 1 + 1 + 1 + 1 + 1 + 1 + 1 + 1) (0 + 24 + 24 + 24 + 24 + 24 + 24 + 24 + 24 + 24 + 24 + 24 + 24 + 24 + 64 + 64 + 64 + 64 + 512 + 256 + 256 + 256 + 256 + 16 + 16 + 16 + 16 + 64 + 64 + 64 + 64) _ _ _ _ _ _ _ (z + 1 + 1 + 1 + 1 + 1 + 1 + 1 + 1 + 1 + 1 + 1 + 1 + 1 + 1 + 1 + 1 + 1 + 1 + 1 + 1 + 1 + 1 + 1 + 1 + 1 + 1 + 1 + 1 + 1 + 1, am_up σ29 20 (0) (34) 1)
  generalize am_up σ29 20 (0) (34) 1 = σ30 at hs30 ⊢
  refine ck_aload_n C rfl dX6_init_260 ?_
  refine ck_fin C hr hlk (by omega) (by omega) (fun H hH => dS_full hcA hs30 hH) (wk_runV (index := 108) (ci := 6) (st := []) C (c_X6_begins l g hI σ30) (cwV 0 C.2.2.2.2.1 gX6_init_X6_begins rfl rfl rfl (by decide +kernel) ⟨Nat.le_of_ble_eq_true rfl, Nat.le_of_ble_eq_true rfl⟩) rfl (show 0 < (1:Nat) by decide) rfl rfl rfl (Nat.le_of_ble_eq_true rfl) dX6_init_261 ⟨Nat.le_of_ble_eq_true rfl, Nat.le_of_ble_eq_true rfl⟩) dX6_init_264 (fun σq hq => ?_)
  have h9 := R_new0 hq hs30.2.2.2.2
  rw [hs30.2.1, hs30.2.2.1, hs30.2.2.2.1] at h9
  exact h9
