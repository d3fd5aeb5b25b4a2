theorem in_c_X5_aimAtLeaves_X3 : ∀ w ∈ u_ws RX3 TX3 3, w ∈ wsX5_aimAtLeaves := by decide +kernel
theorem in_c_X5_aimAtLeaves_X5 : ∀ w ∈ u_ws RX5 TX5 13, w ∈ wsX5_aimAtLeaves := by decide +kernel
set_option maxRecDepth 100000 in
set_option maxHeartbeats 4000000 in
/-- aimAtLeaves -/
theorem c_X5_aimAtLeaves (l : Launch) (g : am_g) (hI : am_inj (gC g)) (σ : am_M) (S : ab_S) (b : Int) (hC : ab_C S σ) (hS : ab_I S b) : Met l yX5_aimAtLeaves wsX5_aimAtLeaves ({ frames := 3, cells := 0, slots := 0, locals := 74 }) (am_P (gC g) σ [.inr (0, 0)]) (am_QV (gC g) (fun σ' => ab_C (ab_choN S 16) σ' ∧ ∀ n j : Nat, n < 4 → j < 8 → σ' 18 n j = ab_wl (ab_choN S 16) n (lc_in n j))) 0 0 (am_FA (gC g)) := by
  refine wk_start (cc := cX5_aimAtLeaves) (nL := 4) (ret := none) (own := RX5) (by decide) rfl hI rfl (Nat.le_of_ble_eq_true rfl) ?_
  intro p e s m below meth c C hr hlk
  change wk _ p l e _ s m _ below meth c 0 0 _ _ _ _ 0 [some (.inr (0, 0)), none, none, none] [] σ
  refine wk_iconst C dX5_aimAtLeaves_0 ?_
  refine wk_istore_n C (by decide) (Nat.le_of_ble_eq_true rfl) dX5_aimAtLeaves_1 ?_
  have hl2 : ∀ (d n : Nat) (σ1 : am_M), 5 ≤ n + d → n ≤ 4 → ab_C (ab_choN S (4 * n)) σ1 → (∀ n9 j9 : Nat, n9 < 4 → j9 < 8 → (n9 < n ∨ (n9 = n ∧ j9 < 0)) → σ1 18 n9 j9 = ab_wl (ab_choN S 16) n9 (lc_in n9 j9)) → wk (gC g) p l e (headSpec wsX5_aimAtLeaves ({ frames := 3, cells := 0, slots := 0, locals := 74 })).room s m ([.inr (0, 0)].map (am_tv (gC g))).toArray below meth c 0 0 (MQ below (am_QV (gC g) (fun σ' => ab_C (ab_choN S 16) σ' ∧ ∀ n j : Nat, n < 4 → j < 8 → σ' 18 n j = ab_wl (ab_choN S 16) n (lc_in n j))) ([.inr (0, 0)].map (am_tv (gC g))).toArray s 0 0 (am_FA (gC g))) (am_FA (gC g)) s.heap 4 2 [some (.inr (0, 0)), some (.inl ((n : Nat) : Int)), none, none] [] σ1 := by
    intro d
    induction d with
    | zero => intro n σ1 h1 h2 h3; omega
    | succ d ih =>
      intro n σ1 h1 h2 h3 hw1
      refine wk_iload_n C rfl dX5_aimAtLeaves_2 ?_
      refine wk_iconst C dX5_aimAtLeaves_3 ?_
      refine wk_icmp_ge C 54 (by omega) (by omega) (by decide) dX5_aimAtLeaves_4 (fun hc4 => ?_) (fun hc4 => ?_)
      · skip
        refine wk_vret C hr hlk dX5_aimAtLeaves_54 ?_
        have h4 : n = 4 := by omega
        subst h4
        exact ⟨h3, fun n9 j9 z1 z2 => hw1 n9 j9 z1 z2 (by omega)⟩
      · skip
        refine wk_aload_n C rfl dX5_aimAtLeaves_7 ?_
        refine wk_getr C (k := 0) (ci := 5) (j := 5) (T := TX5) rfl (show 0 < (1:Nat) by decide) rfl in_c_X5_aimAtLeaves_X5 (by decide) (by decide +kernel) rfl dX5_aimAtLeaves_8 ?_
        refine wk_iload_n C rfl dX5_aimAtLeaves_11 ?_
        refine wk_aald C (k := 6) rfl rfl (show 0 < (1:Nat) by decide) (Nat.le_of_ble_eq_true rfl) (n) (by omega) (show _ < (4:Nat) by omega) dX5_aimAtLeaves_12 ?_
        refine wk_astore_n C (by decide) (Nat.le_of_ble_eq_true rfl) dX5_aimAtLeaves_13 ?_
        refine wk_iconst C dX5_aimAtLeaves_14 ?_
        refine wk_istore_n C (by decide) (Nat.le_of_ble_eq_true rfl) dX5_aimAtLeaves_15 ?_
        have hl16 : ∀ (d2 j : Nat) (σ2 : am_M), 9 ≤ j + d2 → j ≤ 8 → ab_C (ab_choN S (4 * n + min j 4)) σ2 → (∀ n9 j9 : Nat, n9 < 4 → j9 < 8 → (n9 < n ∨ (n9 = n ∧ j9 < j)) → σ2 18 n9 j9 = ab_wl (ab_choN S 16) n9 (lc_in n9 j9)) → wk (gC g) p l e (headSpec wsX5_aimAtLeaves ({ frames := 3, cells := 0, slots := 0, locals := 74 })).room s m ([.inr (0, 0)].map (am_tv (gC g))).toArray below meth c 0 0 (MQ below (am_QV (gC g) (fun σ' => ab_C (ab_choN S 16) σ' ∧ ∀ n j : Nat, n < 4 → j < 8 → σ' 18 n j = ab_wl (ab_choN S 16) n (lc_in n j))) ([.inr (0, 0)].map (am_tv (gC g))).toArray s 0 0 (am_FA (gC g))) (am_FA (gC g)) s.heap 4 16 [some (.inr (0, 0)), some (.inl ((n : Nat) : Int)), some (.inr (15, n)), some (.inl ((j : Nat) : Int))] [] σ2 := by
          intro d2
          induction d2 with
          | zero => intro j σ2 g1 g2 hCk; omega
          | succ d2 ih2 =>
            intro j σ2 g1 g2 hCk hw2
            refine wk_iload_n C rfl dX5_aimAtLeaves_16 ?_
            refine wk_aload_n C rfl dX5_aimAtLeaves_17 ?_
            refine wk_getrN C (k := 15) (ci := 3) (j := 0) (T := TX3) (host := RX5) rfl (show _ < (8:Nat) by omega) rfl in_c_X5_aimAtLeaves_X3 (by decide) (by decide +kernel) rfl dX5_aimAtLeaves_18 ?_
            refine wk_alenR C (k := 16) rfl rfl (show _ < (8:Nat) by omega) dX5_aimAtLeaves_21 ?_
            have hd : lc_d n = 8 := by rw [lc_d, if_pos (by omega)]
            rw [hd]
            refine wk_icmp_ge C 48 (by omega) (by omega) (by decide) dX5_aimAtLeaves_22 (fun hc22 => ?_) (fun hc22 => ?_)
            · skip
              refine wk_iinc C rfl (by decide) dX5_aimAtLeaves_48 ?_
              refine wk_goto C 2 (by decide) dX5_aimAtLeaves_51 ?_
              refine wk_le ?_ (ih (n + 1) _ (by omega) (by omega) ?_ ?_)
              · repeat (first | exact le_0 | refine le_s ?_ | refine le_n ?_)
              · rw [show 4 * (n + 1) = 4 * n + min j 4 by omega]; exact hCk
              · intro n9 j9 z1 z2 z3; exact hw2 n9 j9 z1 z2 (by omega)
            · skip
              refine wk_aload_n C rfl dX5_aimAtLeaves_25 ?_
              refine wk_getrN C (k := 15) (ci := 3) (j := 2) (T := TX3) (host := RX5) rfl (show _ < (8:Nat) by omega) rfl in_c_X5_aimAtLeaves_X3 (by decide) (by decide +kernel) rfl dX5_aimAtLeaves_26 ?_
              refine wk_iload_n C rfl dX5_aimAtLeaves_29 ?_
              refine wk_aload_n C rfl dX5_aimAtLeaves_30 ?_
              refine wk_iload_n C rfl dX5_aimAtLeaves_31 ?_
              refine wk_aload_n C rfl dX5_aimAtLeaves_32 ?_
              refine wk_getrN C (k := 15) (ci := 3) (j := 0) (T := TX3) (host := RX5) rfl (show _ < (8:Nat) by omega) rfl in_c_X5_aimAtLeaves_X3 (by decide) (by decide +kernel) rfl dX5_aimAtLeaves_33 ?_
              refine wk_iload_n C rfl dX5_aimAtLeaves_36 ?_
              refine wk_aald C (k := 16) rfl rfl (show _ < (8:Nat) by omega) (by omega) (j) (by omega) (by omega) dX5_aimAtLeaves_37 ?_
              refine wk_ofI C (wk_runV (index := 281) (ci := 5) (st := [_, _]) C (c_X5_wantedAtLeaf l g hI _ n (lc_in n j) (lc_in_nq (by omega) (by omega)) (ab_choN S (4 * n + min j 4)) b hCk (I_choN hS _ (by omega))) (cwV 2 C.2.2.2.2.1 gX5_aimAtLeaves_X5_wantedAtLeaf rfl rfl rfl (by decide +kernel) ⟨Nat.le_of_ble_eq_true rfl, Nat.le_of_ble_eq_true rfl⟩) rfl (show 0 < (1:Nat) by decide) rfl rfl rfl (Nat.le_of_ble_eq_true rfl) dX5_aimAtLeaves_38 ⟨Nat.zero_le _, Nat.zero_le _⟩) (fun r38 σ38 hp38 => ?_)
              have hw38 := hp38
              rw [hw38.2.1]
              refine wk_iast C (k := 18) rfl (show _ < (8:Nat) by omega) (by omega) (j) (by omega) (by omega) dX5_aimAtLeaves_41 ?_
              refine wk_iinc C rfl (by decide) dX5_aimAtLeaves_42 ?_
              refine wk_goto C 16 (by decide) dX5_aimAtLeaves_45 ?_
              refine ih2 (j + 1) _ (by omega) (by omega) ?_ ?_
              · rw [← lc_in_ch S (by omega) (by omega)]
                refine C_tmp hw38.1 (fun k i j9 z => ?_)
                rw [am_up_app, if_neg (by omega)]
              · intro n9 j9 z1 z2 z3
                rw [am_up_app]
                by_cases e9 : n9 = n ∧ j9 = j
                · rw [if_pos ⟨rfl, e9.1, e9.2⟩, e9.1, e9.2, lc_in_ch S (by omega) (by omega), lc_in_fin S (by omega) (by omega)]
                · rw [if_neg (by omega), hw38.2.2 18 n9 j9 (by omega)]
                  exact hw2 n9 j9 z1 z2 (by omega)
        refine hl16 9 0 σ1 (by omega) (by omega) ?_ ?_
        · exact h3
        · exact hw1
  refine hl2 5 0 σ (by omega) (by omega) ?_ ?_
  · exact hC
  · intro n9 j9 z1 z2 z3; omega

theorem in_c_X5_aimAtSpines_X3 : ∀ w ∈ u_ws RX3 TX3 3, w ∈ wsX5_aimAtSpines := by decide +kernel
theorem in_c_X5_aimAtSpines_X5 : ∀ w ∈ u_ws RX5 TX5 13, w ∈ wsX5_aimAtSpines := by decide +kernel
set_option maxRecDepth 100000 in
set_option maxHeartbeats 4000000 in
/-- aimAtSpines -/
theorem c_X5_aimAtSpines (l : Launch) (g : am_g) (hI : am_inj (gC g)) (σ : am_M) (S : ab_S) (b : Int) (hC : ab_C S σ) (hS : ab_I S b) : Met l yX5_aimAtSpines wsX5_aimAtSpines ({ frames := 2, cells := 0, slots := 0, locals := 45 }) (am_P (gC g) σ [.inr (0, 0)]) (am_QV (gC g) (fun σ' => ab_C S σ' ∧ (∀ n j : Nat, n < 4 → σ' 18 n j = σ 18 n j) ∧ ∀ n j : Nat, n < 4 → j < 4 → σ' 18 (4 + n) j = ab_ws S n (32 + 4 * j + n))) 0 0 (am_FA (gC g)) := by
  refine wk_start (cc := cX5_aimAtSpines) (nL := 4) (ret := none) (own := RX5) (by decide) rfl hI rfl (Nat.le_of_ble_eq_true rfl) ?_
  intro p e s m below meth c C hr hlk
  change wk _ p l e _ s m _ below meth c 0 0 _ _ _ _ 0 [some (.inr (0, 0)), none, none, none] [] σ
  refine wk_iconst C dX5_aimAtSpines_0 ?_
  refine wk_istore_n C (by decide) (Nat.le_of_ble_eq_true rfl) dX5_aimAtSpines_1 ?_
  have hl2 : ∀ (d n : Nat) (σ1 : am_M), 5 ≤ n + d → n ≤ 4 → ab_C S σ1 → (∀ n9 j9 : Nat, n9 < 4 → j9 < 4 → (n9 < n ∨ (n9 = n ∧ j9 < 0)) → σ1 18 (4 + n9) j9 = ab_ws S n9 (32 + 4 * j9 + n9)) → (∀ n9 j9 : Nat, n9 < 4 → σ1 18 n9 j9 = σ 18 n9 j9) → wk (gC g) p l e (headSpec wsX5_aimAtSpines ({ frames := 2, cells := 0, slots := 0, locals := 45 })).room s m ([.inr (0, 0)].map (am_tv (gC g))).toArray below meth c 0 0 (MQ below (am_QV (gC g) (fun σ' => ab_C S σ' ∧ (∀ n j : Nat, n < 4 → σ' 18 n j = σ 18 n j) ∧ ∀ n j : Nat, n < 4 → j < 4 → σ' 18 (4 + n) j = ab_ws S n (32 + 4 * j + n))) ([.inr (0, 0)].map (am_tv (gC g))).toArray s 0 0 (am_FA (gC g))) (am_FA (gC g)) s.heap 4 2 [some (.inr (0, 0)), some (.inl ((n : Nat) : Int)), none, none] [] σ1 := by
    intro d
    induction d with
    | zero => intro n σ1 h1 h2 h3; omega
    | succ d ih =>
      intro n σ1 h1 h2 h3 hw1 hk1
      refine wk_iload_n C rfl dX5_aimAtSpines_2 ?_
      refine wk_iconst C dX5_aimAtSpines_3 ?_
      refine wk_icmp_ge C 54 (by omega) (by omega) (by decide) dX5_aimAtSpines_4 (fun hc4 => ?_) (fun hc4 => ?_)
      · skip
        refine wk_vret C hr hlk dX5_aimAtSpines_54 ?_
        have h4 : n = 4 := by omega
        subst h4
        exact ⟨h3, fun n9 j9 z1 => hk1 n9 j9 z1, fun n9 j9 z1 z2 => hw1 n9 j9 z1 z2 (by omega)⟩
      · skip
        refine wk_aload_n C rfl dX5_aimAtSpines_7 ?_
        refine wk_getr C (k := 0) (ci := 5) (j := 6) (T := TX5) rfl (show 0 < (1:Nat) by decide) rfl in_c_X5_aimAtSpines_X5 (by decide) (by decide +kernel) rfl dX5_aimAtSpines_8 ?_
        refine wk_iload_n C rfl dX5_aimAtSpines_11 ?_
        refine wk_aald C (k := 7) rfl rfl (show 0 < (1:Nat) by decide) (Nat.le_of_ble_eq_true rfl) (n) (by omega) (show _ < (4:Nat) by omega) dX5_aimAtSpines_12 ?_
        refine wk_astore_n C (by decide) (Nat.le_of_ble_eq_true rfl) dX5_aimAtSpines_13 ?_
        refine wk_iconst C dX5_aimAtSpines_14 ?_
        refine wk_istore_n C (by decide) (Nat.le_of_ble_eq_true rfl) dX5_aimAtSpines_15 ?_
        have hl16 : ∀ (d2 j : Nat) (σ2 : am_M), 5 ≤ j + d2 → j ≤ 4 → ab_C S σ2 → (∀ n9 j9 : Nat, n9 < 4 → j9 < 4 → (n9 < n ∨ (n9 = n ∧ j9 < j)) → σ2 18 (4 + n9) j9 = ab_ws S n9 (32 + 4 * j9 + n9)) → (∀ n9 j9 : Nat, n9 < 4 → σ2 18 n9 j9 = σ 18 n9 j9) → wk (gC g) p l e (headSpec wsX5_aimAtSpines ({ frames := 2, cells := 0, slots := 0, locals := 45 })).room s m ([.inr (0, 0)].map (am_tv (gC g))).toArray below meth c 0 0 (MQ below (am_QV (gC g) (fun σ' => ab_C S σ' ∧ (∀ n j : Nat, n < 4 → σ' 18 n j = σ 18 n j) ∧ ∀ n j : Nat, n < 4 → j < 4 → σ' 18 (4 + n) j = ab_ws S n (32 + 4 * j + n))) ([.inr (0, 0)].map (am_tv (gC g))).toArray s 0 0 (am_FA (gC g))) (am_FA (gC g)) s.heap 4 16 [some (.inr (0, 0)), some (.inl ((n : Nat) : Int)), some (.inr (15, (4 + n))), some (.inl ((j : Nat) : Int))] [] σ2 := by
          intro d2
          induction d2 with
          | zero => intro j σ2 g1 g2 hCk; omega
          | succ d2 ih2 =>
            intro j σ2 g1 g2 hCk hw2 hk2
            refine wk_iload_n C rfl dX5_aimAtSpines_16 ?_
            refine wk_aload_n C rfl dX5_aimAtSpines_17 ?_
            refine wk_getrN C (k := 15) (ci := 3) (j := 0) (T := TX3) (host := RX5) rfl (show _ < (8:Nat) by omega) rfl in_c_X5_aimAtSpines_X3 (by decide) (by decide +kernel) rfl dX5_aimAtSpines_18 ?_
            refine wk_alenR C (k := 16) rfl rfl (show _ < (8:Nat) by omega) dX5_aimAtSpines_21 ?_
            have hd : lc_d (4 + n) = 4 := by rw [lc_d, if_neg (by omega)]
            rw [hd]
            refine wk_icmp_ge C 48 (by omega) (by omega) (by decide) dX5_aimAtSpines_22 (fun hc22 => ?_) (fun hc22 => ?_)
            · skip
              refine wk_iinc C rfl (by decide) dX5_aimAtSpines_48 ?_
              refine wk_goto C 2 (by decide) dX5_aimAtSpines_51 ?_
              refine wk_le ?_ (ih (n + 1) _ (by omega) (by omega) hCk ?_ hk2)
              · repeat (first | exact le_0 | refine le_s ?_ | refine le_n ?_)
              · intro n9 j9 z1 z2 z3; exact hw2 n9 j9 z1 z2 (by omega)
            · skip
              refine wk_aload_n C rfl dX5_aimAtSpines_25 ?_
              refine wk_getrN C (k := 15) (ci := 3) (j := 2) (T := TX3) (host := RX5) rfl (show _ < (8:Nat) by omega) rfl in_c_X5_aimAtSpines_X3 (by decide) (by decide +kernel) rfl dX5_aimAtSpines_26 ?_
              refine wk_iload_n C rfl dX5_aimAtSpines_29 ?_
              refine wk_aload_n C rfl dX5_aimAtSpines_30 ?_
              refine wk_iload_n C rfl dX5_aimAtSpines_31 ?_
              refine wk_aload_n C rfl dX5_aimAtSpines_32 ?_
              refine wk_getrN C (k := 15) (ci := 3) (j := 0) (T := TX3) (host := RX5) rfl (show _ < (8:Nat) by omega) rfl in_c_X5_aimAtSpines_X3 (by decide) (by decide +kernel) rfl dX5_aimAtSpines_33 ?_
              refine wk_iload_n C rfl dX5_aimAtSpines_36 ?_
              refine wk_aald C (k := 16) rfl rfl (show _ < (8:Nat) by omega) (by omega) (j) (by omega) (by omega) dX5_aimAtSpines_37 ?_
              have hin : lc_in (4 + n) j = 32 + 4 * j + n := by rw [lc_in, if_neg (by omega)]; omega
              rw [hin]
              refine wk_ofI C (wk_runV (index := 295) (ci := 5) (st := [_, _]) C (c_X5_wantedAtSpine l g hI _ n (32 + 4 * j + n) (by omega) (by omega) S b hCk hS) (cwV 2 C.2.2.2.2.1 gX5_aimAtSpines_X5_wantedAtSpine rfl rfl rfl (by decide +kernel) ⟨Nat.le_of_ble_eq_true rfl, Nat.le_of_ble_eq_true rfl⟩) rfl (show 0 < (1:Nat) by decide) rfl rfl rfl (Nat.le_of_ble_eq_true rfl) dX5_aimAtSpines_38 ⟨Nat.zero_le _, Nat.zero_le _⟩) (fun r38 σ38 hp38 => ?_)
              obtain ⟨hsg38, hr38⟩ := hp38
              rw [hsg38]
              refine wk_iast C (k := 18) rfl (show _ < (8:Nat) by omega) (by omega) (j) (by omega) (by omega) dX5_aimAtSpines_41 ?_
              refine wk_iinc C rfl (by decide) dX5_aimAtSpines_42 ?_
              refine wk_goto C 16 (by decide) dX5_aimAtSpines_45 ?_
              refine ih2 (j + 1) _ (by omega) (by omega) ?_ ?_ ?_
              · exact C_tmp hCk (fun k i j9 z => by rw [am_up_app, if_neg (by omega)])
              · intro n9 j9 z1 z2 z3
                rw [am_up_app]
                by_cases e9 : n9 = n ∧ j9 = j
                · rw [if_pos ⟨rfl, by omega, e9.2⟩, hr38, e9.1, e9.2]
                · rw [if_neg (by omega)]
                  exact hw2 n9 j9 z1 z2 (by omega)
              · intro n9 j9 z1; rw [am_up_app, if_neg (by omega)]; exact hk2 n9 j9 z1
        exact hl16 5 0 σ1 (by omega) (by omega) h3 hw1 hk1
  refine hl2 5 0 σ (by omega) (by omega) hC ?_ (fun _ _ _ => rfl)
  · intro n9 j9 z1 z2 z3; omega
