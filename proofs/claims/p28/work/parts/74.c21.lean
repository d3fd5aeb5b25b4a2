/-! the component: its calls that change the state; sums; leastTicks -/
theorem in_c_X5_begin_X5 : ∀ w ∈ u_ws RX5 TX5 13, w ∈ wsX5_begin := by decide +kernel
set_option maxRecDepth 100000 in
set_option maxHeartbeats 4000000 in
/-- begin -/
theorem c_X5_begin (l : Launch) (g : am_g) (hI : am_inj (gC g)) (σ : am_M) (d1 g1 w1 : Int)  : Met l yX5_begin wsX5_begin ({ frames := 1, cells := 0, slots := 0, locals := 21 }) (am_P (gC g) σ [.inr (0, 0), .inl (d1), .inl (g1), .inl (w1)]) (am_QV (gC g) (fun σ' => ab_C (ab_new0 d1 g1 w1) σ')) 0 0 (am_FA (gC g)) := by
  refine wk_start (cc := cX5_begin) (nL := 5) (ret := none) (own := RX5) (by decide) rfl hI rfl (Nat.le_of_ble_eq_true rfl) ?_
  intro p e s m below meth c C hr hlk
  change wk _ p l e _ s m _ below meth c 0 0 _ _ _ _ 0 [some (.inr (0, 0)), some (.inl (d1)), some (.inl (g1)), some (.inl (w1)), none] [] σ
  refine wk_aload_n C rfl dX5_begin_0 ?_
  refine wk_iload_n C rfl dX5_begin_1 ?_
  refine wk_put C (k := 0) (ci := 5) (j := 10) (T := TX5) rfl (show 0 < (1:Nat) by decide) rfl in_c_X5_begin_X5 tyX5 tyX5_ok nmX5 (by decide) (by decide +kernel) rfl rfl (by decide +kernel) dX5_begin_2 ?_
  refine wk_aload_n C rfl dX5_begin_5 ?_
  refine wk_iload_n C rfl dX5_begin_6 ?_
  refine wk_put C (k := 0) (ci := 5) (j := 11) (T := TX5) rfl (show 0 < (1:Nat) by decide) rfl in_c_X5_begin_X5 tyX5 tyX5_ok nmX5 (by decide) (by decide +kernel) rfl rfl (by decide +kernel) dX5_begin_7 ?_
  refine wk_aload_n C rfl dX5_begin_10 ?_
  refine wk_iload_n C rfl dX5_begin_11 ?_
  refine wk_put C (k := 0) (ci := 5) (j := 12) (T := TX5) rfl (show 0 < (1:Nat) by decide) rfl in_c_X5_begin_X5 tyX5 tyX5_ok nmX5 (by decide) (by decide +kernel) rfl rfl (by decide +kernel) dX5_begin_12 ?_
  refine wk_aload_n C rfl dX5_begin_15 ?_
  refine wk_iconst C dX5_begin_16 ?_
  refine wk_put C (k := 0) (ci := 5) (j := 8) (T := TX5) rfl (show 0 < (1:Nat) by decide) rfl in_c_X5_begin_X5 tyX5 tyX5_ok nmX5 (by decide) (by decide +kernel) rfl rfl (by decide +kernel) dX5_begin_17 ?_
  refine wk_aload_n C rfl dX5_begin_20 ?_
  refine wk_iconst C dX5_begin_21 ?_
  refine wk_put C (k := 0) (ci := 5) (j := 9) (T := TX5) rfl (show 0 < (1:Nat) by decide) rfl in_c_X5_begin_X5 tyX5 tyX5_ok nmX5 (by decide) (by decide +kernel) rfl rfl (by decide +kernel) dX5_begin_22 ?_
  have hb0 : bg0 d1 g1 w1 (am_up (am_up (am_up (am_up (am_up σ 0 0 10 d1) 0 0 11 g1) 0 0 12 w1) 0 0 8 0) 0 0 9 0) := by simp [bg0, am_up_app]
  refine wk_iconst C dX5_begin_25 ?_
  refine wk_istore C (by decide) (Nat.le_of_ble_eq_true rfl) dX5_begin_26 ?_
  have hl28 : ∀ (d k : Nat) (σ1 : am_M), 65 ≤ k + d → k ≤ 64 → bg1 d1 g1 w1 k σ1 → wk (gC g) p l e (headSpec wsX5_begin ({ frames := 1, cells := 0, slots := 0, locals := 21 })).room s m ([.inr (0, 0), .inl (d1), .inl (g1), .inl (w1)].map (am_tv (gC g))).toArray below meth c 0 0 (MQ below (am_QV (gC g) (fun σ' => ab_C (ab_new0 d1 g1 w1) σ')) ([.inr (0, 0), .inl (d1), .inl (g1), .inl (w1)].map (am_tv (gC g))).toArray s 0 0 (am_FA (gC g))) (am_FA (gC g)) s.heap 5 28 [some (.inr (0, 0)), some (.inl (d1)), some (.inl (g1)), some (.inl (w1)), some (.inl ((k : Nat) : Int))] [] σ1 := by
    intro d
    induction d with
    | zero => intro k σ1 h1 h2 h3; omega
    | succ d ih =>
      intro k σ1 h1 h2 h3
      refine wk_iload C rfl dX5_begin_28 ?_
      refine wk_aload_n C rfl dX5_begin_30 ?_
      refine wk_getr C (k := 0) (ci := 5) (j := 2) (T := TX5) rfl (show 0 < (1:Nat) by decide) rfl in_c_X5_begin_X5 (by decide) (by decide +kernel) rfl dX5_begin_31 ?_
      refine wk_alenR C (k := 3) rfl rfl (show 0 < (1:Nat) by decide) dX5_begin_34 ?_
      refine wk_icmp_ge C 54 (by omega) (by omega) (by decide) dX5_begin_35 (fun hc35 => ?_) (fun hc35 => ?_)
      · skip
        have h4 : k = 64 := by omega
        subst h4
        refine wk_iconst C dX5_begin_54 ?_
        refine wk_istore C (by decide) (Nat.le_of_ble_eq_true rfl) dX5_begin_55 ?_
        have hl57 : ∀ (d2 k2 : Nat) (σ2 : am_M), 17 ≤ k2 + d2 → k2 ≤ 16 → bg2 d1 g1 w1 k2 σ2 → wk (gC g) p l e (headSpec wsX5_begin ({ frames := 1, cells := 0, slots := 0, locals := 21 })).room s m ([.inr (0, 0), .inl (d1), .inl (g1), .inl (w1)].map (am_tv (gC g))).toArray below meth c 0 0 (MQ below (am_QV (gC g) (fun σ' => ab_C (ab_new0 d1 g1 w1) σ')) ([.inr (0, 0), .inl (d1), .inl (g1), .inl (w1)].map (am_tv (gC g))).toArray s 0 0 (am_FA (gC g))) (am_FA (gC g)) s.heap 5 57 [some (.inr (0, 0)), some (.inl (d1)), some (.inl (g1)), some (.inl (w1)), some (.inl ((k2 : Nat) : Int))] [] σ2 := by
          intro d2
          induction d2 with
          | zero => intro k2 σ2 f1 f2 f3; omega
          | succ d2 ih2 =>
            intro k2 σ2 f1 f2 f3
            refine wk_iload C rfl dX5_begin_57 ?_
            refine wk_bipush C (n := 16) (by decide) dX5_begin_59 ?_
            refine wk_icmp_ge C 80 (by omega) (by omega) (by decide) dX5_begin_61 (fun hc61 => ?_) (fun hc61 => ?_)
            · skip
              have h5 : k2 = 16 := by omega
              subst h5
              refine wk_iconst C dX5_begin_80 ?_
              refine wk_istore C (by decide) (Nat.le_of_ble_eq_true rfl) dX5_begin_81 ?_
              have hl83 : ∀ (d3 k3 : Nat) (σ3 : am_M), 5 ≤ k3 + d3 → k3 ≤ 4 → bg3 d1 g1 w1 k3 σ3 → wk (gC g) p l e (headSpec wsX5_begin ({ frames := 1, cells := 0, slots := 0, locals := 21 })).room s m ([.inr (0, 0), .inl (d1), .inl (g1), .inl (w1)].map (am_tv (gC g))).toArray below meth c 0 0 (MQ below (am_QV (gC g) (fun σ' => ab_C (ab_new0 d1 g1 w1) σ')) ([.inr (0, 0), .inl (d1), .inl (g1), .inl (w1)].map (am_tv (gC g))).toArray s 0 0 (am_FA (gC g))) (am_FA (gC g)) s.heap 5 83 [some (.inr (0, 0)), some (.inl (d1)), some (.inl (g1)), some (.inl (w1)), some (.inl ((k3 : Nat) : Int))] [] σ3 := by
                intro d3
                induction d3 with
                | zero => intro k3 σ3 e1 e2 e3; omega
                | succ d3 ih3 =>
                  intro k3 σ3 e1 e2 e3
                  refine wk_iload C rfl dX5_begin_83 ?_
                  refine wk_iconst C dX5_begin_85 ?_
                  refine wk_icmp_ge C 104 (by omega) (by omega) (by decide) dX5_begin_86 (fun hc86 => ?_) (fun hc86 => ?_)
                  · skip
                    refine wk_vret C hr hlk dX5_begin_104 ?_
                    have h6 : k3 = 4 := by omega
                    subst h6
                    exact C_new0 e3
                  · skip
                    refine wk_aload_n C rfl dX5_begin_89 ?_
                    refine wk_getr C (k := 0) (ci := 5) (j := 7) (T := TX5) rfl (show 0 < (1:Nat) by decide) rfl in_c_X5_begin_X5 (by decide) (by decide +kernel) rfl dX5_begin_90 ?_
                    refine wk_iload C rfl dX5_begin_93 ?_
                    refine wk_bipush C (n := 15) (by decide) dX5_begin_95 ?_
                    refine wk_iast C (k := 8) rfl (show 0 < (1:Nat) by decide) (Nat.le_of_ble_eq_true rfl) (k3) (by omega) (show _ < (4:Nat) by omega) dX5_begin_97 ?_
                    refine wk_iinc C rfl (by decide) dX5_begin_98 ?_
                    refine wk_goto C 83 (by decide) dX5_begin_101 ?_
                    exact ih3 (k3 + 1) _ (by omega) (by omega) (bg3_S e3)
              exact hl83 5 0 _ (by omega) (by omega) ⟨f3, fun L z => by omega⟩
            · skip
              refine wk_aload_n C rfl dX5_begin_64 ?_
              refine wk_getr C (k := 0) (ci := 5) (j := 1) (T := TX5) rfl (show 0 < (1:Nat) by decide) rfl in_c_X5_begin_X5 (by decide) (by decide +kernel) rfl dX5_begin_65 ?_
              refine wk_iload C rfl dX5_begin_68 ?_
              refine wk_aald C (k := 2) rfl rfl (show 0 < (1:Nat) by decide) (Nat.le_of_ble_eq_true rfl) (k2) (by omega) (show _ < (16:Nat) by omega) dX5_begin_70 ?_
              refine wk_ofV C (wk_runN (host := RX5) (index := 102) (ci := 1) (st := []) C (c_X1_clear l g hI _ k2 (by omega)) ⟨va_cnB 0 C.2.2.2.2.1 gX5_begin_X1_clear_n102 rfl rfl rfl (C.2.2.2.2.2.1.2 _ (by decide +kernel)) (C.2.2.2.2.1 (.initialized RX1) (by decide +kernel)) (by decide +kernel) ⟨Nat.le_of_ble_eq_true rfl, Nat.le_of_ble_eq_true rfl⟩, C.2.2.2.2.1 (.instanceMethod yX1_clear) (by decide +kernel), C.2.2.2.2.1 (.selects RX1 yX1_clear yX1_clear) (by decide +kernel)⟩ rfl (show _ < (16:Nat) by omega) rfl rfl rfl (Nat.le_of_ble_eq_true rfl) dX5_begin_71 ⟨Nat.zero_le _, Nat.zero_le _⟩) (fun σ71 hp71 => ?_)
              subst hp71
              refine wk_iinc C rfl (by decide) dX5_begin_74 ?_
              refine wk_goto C 57 (by decide) dX5_begin_77 ?_
              exact ih2 (k2 + 1) _ (by omega) (by omega) (bg2_S f3)
        exact hl57 17 0 _ (by omega) (by omega) ⟨h3, fun L z => by omega⟩
      · skip
        refine wk_aload_n C rfl dX5_begin_38 ?_
        refine wk_getr C (k := 0) (ci := 5) (j := 2) (T := TX5) rfl (show 0 < (1:Nat) by decide) rfl in_c_X5_begin_X5 (by decide) (by decide +kernel) rfl dX5_begin_39 ?_
        refine wk_iload C rfl dX5_begin_42 ?_
        refine wk_aald C (k := 3) rfl rfl (show 0 < (1:Nat) by decide) (Nat.le_of_ble_eq_true rfl) (k) (by omega) (show _ < (64:Nat) by omega) dX5_begin_44 ?_
        refine wk_ofV C (wk_runN (host := RX5) (index := 99) (ci := 2) (st := []) C (c_X2_clear l g hI _ k (by omega)) ⟨va_cnB 0 C.2.2.2.2.1 gX5_begin_X2_clear_n99 rfl rfl rfl (C.2.2.2.2.2.1.2 _ (by decide +kernel)) (C.2.2.2.2.1 (.initialized RX2) (by decide +kernel)) (by decide +kernel) ⟨Nat.le_of_ble_eq_true rfl, Nat.le_of_ble_eq_true rfl⟩, C.2.2.2.2.1 (.instanceMethod yX2_clear) (by decide +kernel), C.2.2.2.2.1 (.selects RX2 yX2_clear yX2_clear) (by decide +kernel)⟩ rfl (show _ < (64:Nat) by omega) rfl rfl rfl (Nat.le_of_ble_eq_true rfl) dX5_begin_45 ⟨Nat.zero_le _, Nat.zero_le _⟩) (fun σ45 hp45 => ?_)
        subst hp45
        refine wk_iinc C rfl (by decide) dX5_begin_48 ?_
        refine wk_goto C 28 (by decide) dX5_begin_51 ?_
        exact ih (k + 1) _ (by omega) (by omega) (bg1_S h3)
  exact hl28 65 0 _ (by omega) (by omega) ⟨hb0, fun L z => by omega⟩

theorem inx_c_X5_reset_IA : ∀ w ∈ (vx_atS RX5 111 "java/lang/IllegalArgumentException" ["java/lang/RuntimeException", "java/lang/Exception"]).filter goodWord, w ∈ wsX5_reset := by decide +kernel
set_option maxRecDepth 100000 in
set_option maxHeartbeats 4000000 in
/-- reset -/
theorem c_X5_reset (l : Launch) (hl : l.stackTraces = false) (g : am_g) (hI : am_inj (gC g)) (σ : am_M) (p1 p2 p3 : Int) (hp1 : -2147483648 ≤ p1 ∧ p1 < 2147483648) (hp2 : -2147483648 ≤ p2 ∧ p2 < 2147483648) (hp3 : -2147483648 ≤ p3 ∧ p3 < 2147483648)  : vx_Met l yX5_reset wsX5_reset ({ frames := 6, cells := 1, slots := 6, locals := 82 }) (am_PX (gC g) σ [.inr (0, 0), .inl (p1), .inl (p2), .inl (p3)]) (am_QV (gC g) (fun σ' => ab_okR p1 p2 p3 ∧ ab_C (ab_new0 p1 p2 p3) σ')) (am_X (gC g) σ (fun E => E = "java/lang/IllegalArgumentException" ∧ ¬ ab_okR p1 p2 p3)) 1 6 (am_FA (gC g)) := by
  refine wkx_start (cc := cX5_reset) (nL := 4) (ret := none) (own := RX5) (by decide) rfl hI rfl (Nat.le_of_ble_eq_true rfl) ?_
  intro p e s m below meth c C hZ hno hr hlk
  change wk _ p l e _ s m _ below meth c 0 0 _ _ _ _ 0 [some (.inr (0, 0)), some (.inl (p1)), some (.inl (p2)), some (.inl (p3))] [] σ
  refine wk_iload_n C rfl dX5_reset_0 ?_
  refine wk_iconst C dX5_reset_1 ?_
  refine wk_iconst C dX5_reset_2 ?_
  refine wk_ofI C (wk_runS (index := 103) (st := []) C (c_X5_isOutside l g hI _ p1 0 5 (by omega) (by omega) (by omega)) (cwS 3 C.2.2.2.2.1 gX5_reset_X5_isOutside rfl rfl rfl (by decide +kernel) ⟨Nat.le_of_ble_eq_true rfl, Nat.le_of_ble_eq_true rfl⟩) rfl rfl (Nat.le_of_ble_eq_true rfl) dX5_reset_3 ⟨Nat.le_of_ble_eq_true rfl, Nat.le_of_ble_eq_true rfl⟩) (fun r3 σ3 hp3 => ?_)
  obtain ⟨hsg3, hr3⟩ := hp3
  rw [hsg3]
  have hb3 : (r3 = 1 ∧ (p1 < 0 ∨ 5 < p1)) ∨ (r3 = 0 ∧ ¬ (p1 < 0 ∨ 5 < p1)) := by
    rw [hr3]
    split
    · rename_i z; exact Or.inl ⟨rfl, z⟩
    · rename_i z; exact Or.inr ⟨rfl, z⟩
  refine wk_if_ne C 29 (by omega) (by decide) dX5_reset_6 (fun hc6 => ?_) (fun hc6 => ?_)
  · skip
    exact wkx_throw C hZ hl hno hlk (cls := "java/lang/IllegalArgumentException") (text := "delay, gap or window is out of range") (names := ["java/lang/RuntimeException", "java/lang/Exception"]) (ik := 107) (is := 109) (ic := 111) (by decide +kernel) fit_ns (by decide +kernel) (by decide +kernel) (by decide) rfl ot_IA.2 inx_c_X5_reset_IA ot_IA.1 dX5_reset_29 dX5_reset_32 dX5_reset_33 dX5_reset_35 dX5_reset_38 (Nat.le_of_ble_eq_true rfl) (Nat.le_of_ble_eq_true rfl) (Nat.le_of_ble_eq_true rfl) (Nat.le_of_ble_eq_true rfl) (Nat.le_of_ble_eq_true rfl) (Nat.le_of_ble_eq_true rfl) (⟨rfl, by unfold ab_okR; omega⟩)
  · skip
    refine wk_iload_n C rfl dX5_reset_9 ?_
    refine wk_iconst C dX5_reset_10 ?_
    refine wk_bipush C (n := 50) (by decide) dX5_reset_11 ?_
    refine wk_ofI C (wk_runS (index := 103) (st := []) C (c_X5_isOutside l g hI _ p2 1 50 (by omega) (by omega) (by omega)) (cwS 3 C.2.2.2.2.1 gX5_reset_X5_isOutside rfl rfl rfl (by decide +kernel) ⟨Nat.le_of_ble_eq_true rfl, Nat.le_of_ble_eq_true rfl⟩) rfl rfl (Nat.le_of_ble_eq_true rfl) dX5_reset_13 ⟨Nat.le_of_ble_eq_true rfl, Nat.le_of_ble_eq_true rfl⟩) (fun r13 σ13 hp13 => ?_)
    obtain ⟨hsg13, hr13⟩ := hp13
    rw [hsg13]
    have hb13 : (r13 = 1 ∧ (p2 < 1 ∨ 50 < p2)) ∨ (r13 = 0 ∧ ¬ (p2 < 1 ∨ 50 < p2)) := by
      rw [hr13]
      split
      · rename_i z; exact Or.inl ⟨rfl, z⟩
      · rename_i z; exact Or.inr ⟨rfl, z⟩
    refine wk_if_ne C 29 (by omega) (by decide) dX5_reset_16 (fun hc16 => ?_) (fun hc16 => ?_)
    · skip
      exact wkx_throw C hZ hl hno hlk (cls := "java/lang/IllegalArgumentException") (text := "delay, gap or window is out of range") (names := ["java/lang/RuntimeException", "java/lang/Exception"]) (ik := 107) (is := 109) (ic := 111) (by decide +kernel) fit_ns (by decide +kernel) (by decide +kernel) (by decide) rfl ot_IA.2 inx_c_X5_reset_IA ot_IA.1 dX5_reset_29 dX5_reset_32 dX5_reset_33 dX5_reset_35 dX5_reset_38 (Nat.le_of_ble_eq_true rfl) (Nat.le_of_ble_eq_true rfl) (Nat.le_of_ble_eq_true rfl) (Nat.le_of_ble_eq_true rfl) (Nat.le_of_ble_eq_true rfl) (Nat.le_of_ble_eq_true rfl) (⟨rfl, by unfold ab_okR; omega⟩)
    · skip
      refine wk_iload_n C rfl dX5_reset_19 ?_
      refine wk_iconst C dX5_reset_20 ?_
      refine wk_bipush C (n := 16) (by decide) dX5_reset_21 ?_
      refine wk_ofI C (wk_runS (index := 103) (st := []) C (c_X5_isOutside l g hI _ p3 1 16 (by omega) (by omega) (by omega)) (cwS 3 C.2.2.2.2.1 gX5_reset_X5_isOutside rfl rfl rfl (by decide +kernel) ⟨Nat.le_of_ble_eq_true rfl, Nat.le_of_ble_eq_true rfl⟩) rfl rfl (Nat.le_of_ble_eq_true rfl) dX5_reset_23 ⟨Nat.le_of_ble_eq_true rfl, Nat.le_of_ble_eq_true rfl⟩) (fun r23 σ23 hp23 => ?_)
      obtain ⟨hsg23, hr23⟩ := hp23
      rw [hsg23]
      have hb23 : (r23 = 1 ∧ (p3 < 1 ∨ 16 < p3)) ∨ (r23 = 0 ∧ ¬ (p3 < 1 ∨ 16 < p3)) := by
        rw [hr23]
        split
        · rename_i z; exact Or.inl ⟨rfl, z⟩
        · rename_i z; exact Or.inr ⟨rfl, z⟩
      refine wk_if_eq C 39 (by omega) (by decide) dX5_reset_26 (fun hc26 => ?_) (fun hc26 => ?_)
      · skip
        refine wk_aload_n C rfl dX5_reset_39 ?_
        refine wk_iload_n C rfl dX5_reset_40 ?_
        refine wk_iload_n C rfl dX5_reset_41 ?_
        refine wk_iload_n C rfl dX5_reset_42 ?_
        refine wk_ofV C (wk_runV (index := 66) (ci := 5) (st := []) C (c_X5_begin l g hI _ p1 p2 p3) (cwV 3 C.2.2.2.2.1 gX5_reset_X5_begin rfl rfl rfl (by decide +kernel) ⟨Nat.le_of_ble_eq_true rfl, Nat.le_of_ble_eq_true rfl⟩) rfl (show 0 < (1:Nat) by decide) rfl rfl rfl (Nat.le_of_ble_eq_true rfl) dX5_reset_43 ⟨Nat.le_of_ble_eq_true rfl, Nat.le_of_ble_eq_true rfl⟩) (fun σ43 hp43 => ?_)
        refine wkx_vret C hr hlk (Nat.le_of_ble_eq_true rfl) (Nat.le_of_ble_eq_true rfl) dX5_reset_46 ?_
        exact ⟨by unfold ab_okR; omega, hp43⟩
      · skip
        exact wkx_throw C hZ hl hno hlk (cls := "java/lang/IllegalArgumentException") (text := "delay, gap or window is out of range") (names := ["java/lang/RuntimeException", "java/lang/Exception"]) (ik := 107) (is := 109) (ic := 111) (by decide +kernel) fit_ns (by decide +kernel) (by decide +kernel) (by decide) rfl ot_IA.2 inx_c_X5_reset_IA ot_IA.1 dX5_reset_29 dX5_reset_32 dX5_reset_33 dX5_reset_35 dX5_reset_38 (Nat.le_of_ble_eq_true rfl) (Nat.le_of_ble_eq_true rfl) (Nat.le_of_ble_eq_true rfl) (Nat.le_of_ble_eq_true rfl) (Nat.le_of_ble_eq_true rfl) (Nat.le_of_ble_eq_true rfl) (⟨rfl, by unfold ab_okR; omega⟩)

theorem in_c_X0_begin_X0 : ∀ w ∈ u_ws RX0 TX0 13, w ∈ wsX0_begin := by decide +kernel
set_option maxRecDepth 100000 in
set_option maxHeartbeats 4000000 in
/-- Flow.begin -/
theorem c_X0_begin (l : Launch) (g : am_g) (hI : am_inj (gC g)) (σ : am_M) (f : Nat) (hf : f < 24) (a1 a2 a3 a4 : Int)  : Met l yX0_begin wsX0_begin ({ frames := 0, cells := 0, slots := 0, locals := 0 }) (am_P (gC g) σ [.inr (9, f), .inl (a1), .inl (a2), .inl (a3), .inl (a4)]) (am_QV (gC g) (fun σ' => (∀ j, j < 13 → σ' 9 f j = fb13 a1 a2 a3 a4 j) ∧ ∀ k i j : Nat, ¬ (k = 9 ∧ i = f) → σ' k i j = σ k i j)) 0 0 (am_FA (gC g)) := by
  refine wk_start (cc := cX0_begin) (nL := 5) (ret := none) (own := RX0) (by decide) rfl hI rfl (Nat.le_of_ble_eq_true rfl) ?_
  intro p e s m below meth c C hr hlk
  change wk _ p l e _ s m _ below meth c 0 0 _ _ _ _ 0 [some (.inr (9, f)), some (.inl (a1)), some (.inl (a2)), some (.inl (a3)), some (.inl (a4))] [] σ
  refine wk_aload_n C rfl dX0_begin_0 ?_
  refine wk_iload_n C rfl dX0_begin_1 ?_
  refine wk_put C (k := 9) (ci := 0) (j := 0) (T := TX0) rfl (show _ < (24:Nat) by omega) rfl in_c_X0_begin_X0 tyX0 tyX0_ok nmX0 (by decide) (by decide +kernel) rfl rfl (by decide +kernel) dX0_begin_2 ?_
  refine wk_aload_n C rfl dX0_begin_5 ?_
  refine wk_iload_n C rfl dX0_begin_6 ?_
  refine wk_put C (k := 9) (ci := 0) (j := 1) (T := TX0) rfl (show _ < (24:Nat) by omega) rfl in_c_X0_begin_X0 tyX0 tyX0_ok nmX0 (by decide) (by decide +kernel) rfl rfl (by decide +kernel) dX0_begin_7 ?_
  refine wk_aload_n C rfl dX0_begin_10 ?_
  refine wk_iload_n C rfl dX0_begin_11 ?_
  refine wk_put C (k := 9) (ci := 0) (j := 2) (T := TX0) rfl (show _ < (24:Nat) by omega) rfl in_c_X0_begin_X0 tyX0 tyX0_ok nmX0 (by decide) (by decide +kernel) rfl rfl (by decide +kernel) dX0_begin_12 ?_
  refine wk_aload_n C rfl dX0_begin_15 ?_
  refine wk_iload C rfl dX0_begin_16 ?_
  refine wk_put C (k := 9) (ci := 0) (j := 3) (T := TX0) rfl (show _ < (24:Nat) by omega) rfl in_c_X0_begin_X0 tyX0 tyX0_ok nmX0 (by decide) (by decide +kernel) rfl rfl (by decide +kernel) dX0_begin_18 ?_
  refine wk_aload_n C rfl dX0_begin_21 ?_
  refine wk_iconst C dX0_begin_22 ?_
  refine wk_put C (k := 9) (ci := 0) (j := 4) (T := TX0) rfl (show _ < (24:Nat) by omega) rfl in_c_X0_begin_X0 tyX0 tyX0_ok nmX0 (by decide) (by decide +kernel) rfl rfl (by decide +kernel) dX0_begin_23 ?_
  refine wk_aload_n C rfl dX0_begin_26 ?_
  refine wk_iconst C dX0_begin_27 ?_
  refine wk_put C (k := 9) (ci := 0) (j := 5) (T := TX0) rfl (show _ < (24:Nat) by omega) rfl in_c_X0_begin_X0 tyX0 tyX0_ok nmX0 (by decide) (by decide +kernel) rfl rfl (by decide +kernel) dX0_begin_28 ?_
  refine wk_aload_n C rfl dX0_begin_31 ?_
  refine wk_iconst C dX0_begin_32 ?_
  refine wk_put C (k := 9) (ci := 0) (j := 6) (T := TX0) rfl (show _ < (24:Nat) by omega) rfl in_c_X0_begin_X0 tyX0 tyX0_ok nmX0 (by decide) (by decide +kernel) rfl rfl (by decide +kernel) dX0_begin_33 ?_
  refine wk_aload_n C rfl dX0_begin_36 ?_
  refine wk_iconst C dX0_begin_37 ?_
  refine wk_put C (k := 9) (ci := 0) (j := 7) (T := TX0) rfl (show _ < (24:Nat) by omega) rfl in_c_X0_begin_X0 tyX0 tyX0_ok nmX0 (by decide) (by decide +kernel) rfl rfl (by decide +kernel) dX0_begin_38 ?_
  refine wk_aload_n C rfl dX0_begin_41 ?_
  refine wk_iconst C dX0_begin_42 ?_
  refine wk_put C (k := 9) (ci := 0) (j := 8) (T := TX0) rfl (show _ < (24:Nat) by omega) rfl in_c_X0_begin_X0 tyX0 tyX0_ok nmX0 (by decide) (by decide +kernel) rfl rfl (by decide +kernel) dX0_begin_43 ?_
  refine wk_aload_n C rfl dX0_begin_46 ?_
  refine wk_iconst C dX0_begin_47 ?_
  refine wk_put C (k := 9) (ci := 0) (j := 9) (T := TX0) rfl (show _ < (24:Nat) by omega) rfl in_c_X0_begin_X0 tyX0 tyX0_ok nmX0 (by decide) (by decide +kernel) rfl rfl (by decide +kernel) dX0_begin_48 ?_
  refine wk_aload_n C rfl dX0_begin_51 ?_
  refine wk_iconst C dX0_begin_52 ?_
  refine wk_put C (k := 9) (ci := 0) (j := 10) (T := TX0) rfl (show _ < (24:Nat) by omega) rfl in_c_X0_begin_X0 tyX0 tyX0_ok nmX0 (by decide) (by decide +kernel) rfl rfl (by decide +kernel) dX0_begin_53 ?_
  refine wk_aload_n C rfl dX0_begin_56 ?_
  refine wk_iconst C dX0_begin_57 ?_
  refine wk_put C (k := 9) (ci := 0) (j := 11) (T := TX0) rfl (show _ < (24:Nat) by omega) rfl in_c_X0_begin_X0 tyX0 tyX0_ok nmX0 (by decide) (by decide +kernel) rfl rfl (by decide +kernel) dX0_begin_58 ?_
  refine wk_aload_n C rfl dX0_begin_61 ?_
  refine wk_iconst C dX0_begin_62 ?_
  refine wk_put C (k := 9) (ci := 0) (j := 12) (T := TX0) rfl (show _ < (24:Nat) by omega) rfl in_c_X0_begin_X0 tyX0 tyX0_ok nmX0 (by decide) (by decide +kernel) rfl rfl (by decide +kernel) dX0_begin_63 ?_
  refine wk_vret C hr hlk dX0_begin_66 ?_
  refine ⟨fun j hj => ?_, fun k i j z => by rw [am_up_app, if_neg (by omega), am_up_app, if_neg (by omega), am_up_app, if_neg (by omega), am_up_app, if_neg (by omega), am_up_app, if_neg (by omega), am_up_app, if_neg (by omega), am_up_app, if_neg (by omega), am_up_app, if_neg (by omega), am_up_app, if_neg (by omega), am_up_app, if_neg (by omega), am_up_app, if_neg (by omega), am_up_app, if_neg (by omega), am_up_app, if_neg (by omega)]⟩
  match j, hj with
  | 0, _ => simp [am_up_app, fb13]
  | 1, _ => simp [am_up_app, fb13]
  | 2, _ => simp [am_up_app, fb13]
  | 3, _ => simp [am_up_app, fb13]
  | 4, _ => simp [am_up_app, fb13]
  | 5, _ => simp [am_up_app, fb13]
  | 6, _ => simp [am_up_app, fb13]
  | 7, _ => simp [am_up_app, fb13]
  | 8, _ => simp [am_up_app, fb13]
  | 9, _ => simp [am_up_app, fb13]
  | 10, _ => simp [am_up_app, fb13]
  | 11, _ => simp [am_up_app, fb13]
  | 12, _ => simp [am_up_app, fb13]

theorem in_c_X5_addFlow_X5 : ∀ w ∈ u_ws RX5 TX5 13, w ∈ wsX5_addFlow := by decide +kernel
theorem inx_c_X5_addFlow_IA : ∀ w ∈ (vx_atS RX5 111 "java/lang/IllegalArgumentException" ["java/lang/RuntimeException", "java/lang/Exception"]).filter goodWord, w ∈ wsX5_addFlow := by decide +kernel
theorem inx_c_X5_addFlow_IS : ∀ w ∈ (vx_atS RX5 125 "java/lang/IllegalStateException" ["java/lang/RuntimeException", "java/lang/Exception"]).filter goodWord, w ∈ wsX5_addFlow := by decide +kernel
set_option maxRecDepth 100000 in
set_option maxHeartbeats 4000000 in
/-- addFlow -/
theorem c_X5_addFlow (l : Launch) (hl : l.stackTraces = false) (g : am_g) (hI : am_inj (gC g)) (σ : am_M) (p1 p2 p3 p4 : Int) (hp1 : -2147483648 ≤ p1 ∧ p1 < 2147483648) (hp2 : -2147483648 ≤ p2 ∧ p2 < 2147483648) (hp3 : -2147483648 ≤ p3 ∧ p3 < 2147483648) (hp4 : -2147483648 ≤ p4 ∧ p4 < 2147483648) (S : ab_S) (b : Int) (hC : ab_C S σ) (hS : ab_I S b) : vx_Met l yX5_addFlow wsX5_addFlow ({ frames := 7, cells := 3, slots := 18, locals := 102 }) (am_PX (gC g) σ [.inr (0, 0), .inl (p1), .inl (p2), .inl (p3), .inl (p4)]) (am_QI (gC g) (fun r σ' => ab_okA p1 p2 p3 p4 ∧ S 19 4 < 24 ∧ ab_C (ab_add S p1 p2 p3 p4) σ' ∧ r = S 19 4)) (am_X (gC g) σ (fun E => (E = "java/lang/IllegalArgumentException" ∧ ¬ ab_okA p1 p2 p3 p4) ∨ (E = "java/lang/IllegalStateException" ∧ ab_okA p1 p2 p3 p4 ∧ ¬ S 19 4 < 24))) 3 18 (am_FA (gC g)) := by
  refine wkx_start (cc := cX5_addFlow) (nL := 5) (ret := (some .int)) (own := RX5) (by decide) rfl hI rfl (Nat.le_of_ble_eq_true rfl) ?_
  intro p e s m below meth c C hZ hno hr hlk
  change wk _ p l e _ s m _ below meth c 0 0 _ _ _ _ 0 [some (.inr (0, 0)), some (.inl (p1)), some (.inl (p2)), some (.inl (p3)), some (.inl (p4))] [] σ
  have hn24 := hS.2.1.2.2.2.2
  have hc0 := hS.2.1.2.2.2.1
  refine wk_iload_n C rfl dX5_addFlow_0 ?_
  refine wkx_ofV C (wkx_runS (index := 114) (st := []) C hZ (c_X5_checkHost l hl g hI _ p1 hp1) (cwS 1 C.2.2.2.2.1 gX5_addFlow_X5_checkHost rfl rfl rfl (by decide +kernel) ⟨Nat.le_of_ble_eq_true rfl, Nat.le_of_ble_eq_true rfl⟩) rfl rfl (Nat.le_of_ble_eq_true rfl) dX5_addFlow_1 (Nat.le_of_ble_eq_true rfl) (Nat.le_of_ble_eq_true rfl)) hno hlk (fun E z => Or.inl ⟨z.1, fun o => z.2 o.1⟩) (Nat.le_of_ble_eq_true rfl) (Nat.le_of_ble_eq_true rfl) (fun σ1 hpc1 => ?_)
  obtain ⟨rfl, hq1⟩ := hpc1
  refine wk_iload_n C rfl dX5_addFlow_4 ?_
  refine wkx_ofV C (wkx_runS (index := 114) (st := []) C hZ (c_X5_checkHost l hl g hI _ p2 hp2) (cwS 1 C.2.2.2.2.1 gX5_addFlow_X5_checkHost rfl rfl rfl (by decide +kernel) ⟨Nat.le_of_ble_eq_true rfl, Nat.le_of_ble_eq_true rfl⟩) rfl rfl (Nat.le_of_ble_eq_true rfl) dX5_addFlow_5 (Nat.le_of_ble_eq_true rfl) (Nat.le_of_ble_eq_true rfl)) hno hlk (fun E z => Or.inl ⟨z.1, fun o => z.2 o.2.1⟩) (Nat.le_of_ble_eq_true rfl) (Nat.le_of_ble_eq_true rfl) (fun σ2 hpc2 => ?_)
  obtain ⟨rfl, hq2⟩ := hpc2
  refine wk_iload_n C rfl dX5_addFlow_8 ?_
  refine wk_iload_n C rfl dX5_addFlow_9 ?_
  refine wk_icmp_ne C 23 (by omega) (by omega) (by decide) dX5_addFlow_10 (fun hc10 => ?_) (fun hc10 => ?_)
  · skip
    refine wk_iload_n C rfl dX5_addFlow_23 ?_
    refine wk_iconst C dX5_addFlow_24 ?_
    refine wk_bipush C (n := 100) (by decide) dX5_addFlow_25 ?_
    refine wk_ofI C (wk_runS (index := 103) (st := []) C (c_X5_isOutside l g hI _ p3 1 100 (by omega) (by omega) (by omega)) (cwS 3 C.2.2.2.2.1 gX5_addFlow_X5_isOutside rfl rfl rfl (by decide +kernel) ⟨Nat.le_of_ble_eq_true rfl, Nat.le_of_ble_eq_true rfl⟩) rfl rfl (Nat.le_of_ble_eq_true rfl) dX5_addFlow_27 ⟨Nat.le_of_ble_eq_true rfl, Nat.le_of_ble_eq_true rfl⟩) (fun r27 σ27 hp27 => ?_)
    obtain ⟨hsg27, hr27⟩ := hp27
    rw [hsg27]
    have hb27 : (r27 = 1 ∧ (p3 < 1 ∨ 100 < p3)) ∨ (r27 = 0 ∧ ¬ (p3 < 1 ∨ 100 < p3)) := by
      rw [hr27]
      split
      · rename_i z; exact Or.inl ⟨rfl, z⟩
      · rename_i z; exact Or.inr ⟨rfl, z⟩
    refine wk_if_ne C 44 (by omega) (by decide) dX5_addFlow_30 (fun hc30 => ?_) (fun hc30 => ?_)
    · skip
      exact wkx_throw C hZ hl hno hlk (cls := "java/lang/IllegalArgumentException") (text := "packets or later is out of range") (names := ["java/lang/RuntimeException", "java/lang/Exception"]) (ik := 107) (is := 119) (ic := 111) (by decide +kernel) fit_ns (by decide +kernel) (by decide +kernel) (by decide) rfl ot_IA.2 inx_c_X5_addFlow_IA ot_IA.1 dX5_addFlow_44 dX5_addFlow_47 dX5_addFlow_48 dX5_addFlow_50 dX5_addFlow_53 (Nat.le_of_ble_eq_true rfl) (Nat.le_of_ble_eq_true rfl) (Nat.le_of_ble_eq_true rfl) (Nat.le_of_ble_eq_true rfl) (Nat.le_of_ble_eq_true rfl) (Nat.le_of_ble_eq_true rfl) (Or.inl ⟨rfl, fun o => by have := o.2.2.2; omega⟩)
    · skip
      refine wk_iload C rfl dX5_addFlow_33 ?_
      refine wk_iconst C dX5_addFlow_35 ?_
      refine wk_bipush C (n := 100) (by decide) dX5_addFlow_36 ?_
      refine wk_ofI C (wk_runS (index := 103) (st := []) C (c_X5_isOutside l g hI _ p4 0 100 (by omega) (by omega) (by omega)) (cwS 3 C.2.2.2.2.1 gX5_addFlow_X5_isOutside rfl rfl rfl (by decide +kernel) ⟨Nat.le_of_ble_eq_true rfl, Nat.le_of_ble_eq_true rfl⟩) rfl rfl (Nat.le_of_ble_eq_true rfl) dX5_addFlow_38 ⟨Nat.le_of_ble_eq_true rfl, Nat.le_of_ble_eq_true rfl⟩) (fun r38 σ38 hp38 => ?_)
      obtain ⟨hsg38, hr38⟩ := hp38
      rw [hsg38]
      have hb38 : (r38 = 1 ∧ (p4 < 0 ∨ 100 < p4)) ∨ (r38 = 0 ∧ ¬ (p4 < 0 ∨ 100 < p4)) := by
        rw [hr38]
        split
        · rename_i z; exact Or.inl ⟨rfl, z⟩
        · rename_i z; exact Or.inr ⟨rfl, z⟩
      refine wk_if_eq C 54 (by omega) (by decide) dX5_addFlow_41 (fun hc41 => ?_) (fun hc41 => ?_)
      · skip
        refine wk_aload_n C rfl dX5_addFlow_54 ?_
        refine wk_geti C (k := 0) (ci := 5) (j := 8) (T := TX5) rfl (show 0 < (1:Nat) by decide) rfl in_c_X5_addFlow_X5 (by decide) (by decide +kernel) rfl dX5_addFlow_55 ?_
        have hok : ab_okA p1 p2 p3 p4 := ⟨by omega, by omega, by omega, by omega, by omega⟩
        rw [hC.1.1]
        refine wk_bipush C (n := 24) (by decide) dX5_addFlow_58 ?_
        refine wk_icmp_lt C 73 (by omega) (by omega) (by decide) dX5_addFlow_60 (fun hc60 => ?_) (fun hc60 => ?_)
        · skip
          obtain ⟨n, hn⟩ : ∃ n : Nat, n = (S 19 4).toNat := ⟨_, rfl⟩
          have hn4 : S 19 4 = ((n : Nat) : Int) := by omega
          refine wk_aload_n C rfl dX5_addFlow_73 ?_
          refine wk_getr C (k := 0) (ci := 5) (j := 0) (T := TX5) rfl (show 0 < (1:Nat) by decide) rfl in_c_X5_addFlow_X5 (by decide) (by decide +kernel) rfl dX5_addFlow_74 ?_
          refine wk_aload_n C rfl dX5_addFlow_77 ?_
          refine wk_geti C (k := 0) (ci := 5) (j := 8) (T := TX5) rfl (show 0 < (1:Nat) by decide) rfl in_c_X5_addFlow_X5 (by decide) (by decide +kernel) rfl dX5_addFlow_78 ?_
          rw [hC.1.1, hn4]
          refine wk_aald C (k := 1) rfl rfl (show 0 < (1:Nat) by decide) (Nat.le_of_ble_eq_true rfl) (n) (by omega) (show _ < (24:Nat) by omega) dX5_addFlow_81 ?_
          refine wk_iload_n C rfl dX5_addFlow_82 ?_
          refine wk_iload_n C rfl dX5_addFlow_83 ?_
          refine wk_iload_n C rfl dX5_addFlow_84 ?_
          refine wk_aload_n C rfl dX5_addFlow_85 ?_
          refine wk_geti C (k := 0) (ci := 5) (j := 9) (T := TX5) rfl (show 0 < (1:Nat) by decide) rfl in_c_X5_addFlow_X5 (by decide) (by decide +kernel) rfl dX5_addFlow_86 ?_
          rw [hC.1.2.1]
          refine wk_iload C rfl dX5_addFlow_89 ?_
          refine wk_iadd C dX5_addFlow_91 ?_
          refine wk_ofV C (wk_runN (host := RX5) (index := 126) (ci := 0) (st := []) C (c_X0_begin l g hI _ n (by omega) p1 p2 p3 (S 19 3 + p4)) ⟨va_cnB 4 C.2.2.2.2.1 gX5_addFlow_X0_begin_n126 rfl rfl rfl (C.2.2.2.2.2.1.2 _ (by decide +kernel)) (C.2.2.2.2.1 (.initialized RX0) (by decide +kernel)) (by decide +kernel) ⟨Nat.le_of_ble_eq_true rfl, Nat.le_of_ble_eq_true rfl⟩, C.2.2.2.2.1 (.instanceMethod yX0_begin) (by decide +kernel), C.2.2.2.2.1 (.selects RX0 yX0_begin yX0_begin) (by decide +kernel)⟩ rfl (show _ < (24:Nat) by omega) rfl rfl rfl (Nat.le_of_ble_eq_true rfl) dX5_addFlow_92 ⟨Nat.le_of_ble_eq_true rfl, Nat.le_of_ble_eq_true rfl⟩) (fun σ92 hp92 => ?_)
          refine wk_aload_n C rfl dX5_addFlow_95 ?_
          refine wk_dup C dX5_addFlow_96 ?_
          refine wk_geti C (k := 0) (ci := 5) (j := 8) (T := TX5) rfl (show 0 < (1:Nat) by decide) rfl in_c_X5_addFlow_X5 (by decide) (by decide +kernel) rfl dX5_addFlow_97 ?_
          rw [hp92.2 0 0 8 (by omega), hC.1.1]
          refine wk_iconst C dX5_addFlow_100 ?_
          refine wk_iadd C dX5_addFlow_101 ?_
          refine wk_put C (k := 0) (ci := 5) (j := 8) (T := TX5) rfl (show 0 < (1:Nat) by decide) rfl in_c_X5_addFlow_X5 tyX5 tyX5_ok nmX5 (by decide) (by decide +kernel) rfl rfl (by decide +kernel) dX5_addFlow_102 ?_
          have hfin : ab_C (ab_add S p1 p2 p3 p4) (am_up σ92 0 0 8 (S 19 4 + 1)) := C_add hC (by omega) (fun j hj => by rw [am_up_app, if_neg (by omega), ← hn]; exact hp92.1 j hj) (by rw [am_up_app, if_pos ⟨rfl, rfl, rfl⟩]) (fun k i j z1 z2 => by rw [am_up_app, if_neg (by omega)]; exact hp92.2 k i j (by omega))
          refine wk_aload_n C rfl dX5_addFlow_105 ?_
          refine wk_geti C (k := 0) (ci := 5) (j := 8) (T := TX5) rfl (show 0 < (1:Nat) by decide) rfl in_c_X5_addFlow_X5 (by decide) (by decide +kernel) rfl dX5_addFlow_106 ?_
          rw [am_up_app, if_pos ⟨rfl, rfl, rfl⟩]
          refine wk_iconst C dX5_addFlow_109 ?_
          refine wk_isub C dX5_addFlow_110 ?_
          refine wkx_iret C hr hlk (Nat.le_of_ble_eq_true rfl) (Nat.le_of_ble_eq_true rfl) dX5_addFlow_111 ?_
          exact ⟨hok, by omega, hfin, by omega⟩
        · skip
          exact wkx_throw C hZ hl hno hlk (cls := "java/lang/IllegalStateException") (text := "there is no room for another flow") (names := ["java/lang/RuntimeException", "java/lang/Exception"]) (ik := 121) (is := 123) (ic := 125) (by decide +kernel) fit_ns (by decide +kernel) (by decide +kernel) (by decide) rfl ot_IS.2 inx_c_X5_addFlow_IS ot_IS.1 dX5_addFlow_63 dX5_addFlow_66 dX5_addFlow_67 dX5_addFlow_69 dX5_addFlow_72 (Nat.le_of_ble_eq_true rfl) (Nat.le_of_ble_eq_true rfl) (Nat.le_of_ble_eq_true rfl) (Nat.le_of_ble_eq_true rfl) (Nat.le_of_ble_eq_true rfl) (Nat.le_of_ble_eq_true rfl) (Or.inr ⟨rfl, hok, by omega⟩)
      · skip
        exact wkx_throw C hZ hl hno hlk (cls := "java/lang/IllegalArgumentException") (text := "packets or later is out of range") (names := ["java/lang/RuntimeException", "java/lang/Exception"]) (ik := 107) (is := 119) (ic := 111) (by decide +kernel) fit_ns (by decide +kernel) (by decide +kernel) (by decide) rfl ot_IA.2 inx_c_X5_addFlow_IA ot_IA.1 dX5_addFlow_44 dX5_addFlow_47 dX5_addFlow_48 dX5_addFlow_50 dX5_addFlow_53 (Nat.le_of_ble_eq_true rfl) (Nat.le_of_ble_eq_true rfl) (Nat.le_of_ble_eq_true rfl) (Nat.le_of_ble_eq_true rfl) (Nat.le_of_ble_eq_true rfl) (Nat.le_of_ble_eq_true rfl) (Or.inl ⟨rfl, fun o => by have := o.2.2.2; omega⟩)
  · skip
    exact wkx_throw C hZ hl hno hlk (cls := "java/lang/IllegalArgumentException") (text := "target is source") (names := ["java/lang/RuntimeException", "java/lang/Exception"]) (ik := 107) (is := 117) (ic := 111) (by decide +kernel) fit_ns (by decide +kernel) (by decide +kernel) (by decide) rfl ot_IA.2 inx_c_X5_addFlow_IA ot_IA.1 dX5_addFlow_13 dX5_addFlow_16 dX5_addFlow_17 dX5_addFlow_19 dX5_addFlow_22 (Nat.le_of_ble_eq_true rfl) (Nat.le_of_ble_eq_true rfl) (Nat.le_of_ble_eq_true rfl) (Nat.le_of_ble_eq_true rfl) (Nat.le_of_ble_eq_true rfl) (Nat.le_of_ble_eq_true rfl) (Or.inl ⟨rfl, fun o => o.2.2.1 (by omega)⟩)

theorem in_c_X5_cut_X2 : ∀ w ∈ u_ws RX2 TX2 7, w ∈ wsX5_cut := by decide +kernel
theorem in_c_X5_cut_X5 : ∀ w ∈ u_ws RX5 TX5 13, w ∈ wsX5_cut := by decide +kernel
theorem inx_c_X5_cut_IS : ∀ w ∈ (vx_atS RX5 125 "java/lang/IllegalStateException" ["java/lang/RuntimeException", "java/lang/Exception"]).filter goodWord, w ∈ wsX5_cut := by decide +kernel
set_option maxRecDepth 100000 in
set_option maxHeartbeats 4000000 in
/-- cut -/
theorem c_X5_cut (l : Launch) (hl : l.stackTraces = false) (g : am_g) (hI : am_inj (gC g)) (σ : am_M) (p1 p2 : Int) (hp1 : -2147483648 ≤ p1 ∧ p1 < 2147483648) (hp2 : -2147483648 ≤ p2 ∧ p2 < 2147483648) (S : ab_S) (b : Int) (hC : ab_C S σ) (hS : ab_I S b) : vx_Met l yX5_cut wsX5_cut ({ frames := 7, cells := 2, slots := 12, locals := 103 }) (am_PX (gC g) σ [.inr (0, 0), .inl (p1), .inl (p2)]) (am_QI (gC g) (fun r σ' => ((0 ≤ p1 ∧ p1 < 4) ∧ (0 ≤ p2 ∧ p2 < 4)) ∧ S 18 (4 * p1.toNat + p2.toNat) = 0 ∧ ab_C (ab_u S 18 (4 * p1.toNat + p2.toNat) 1) σ' ∧ r = S 14 (32 + 4 * p1.toNat + p2.toNat) + S 14 (48 + 4 * p2.toNat + p1.toNat))) (am_X (gC g) σ (fun E => (E = "java/lang/IllegalArgumentException" ∧ ¬ ((0 ≤ p1 ∧ p1 < 4) ∧ (0 ≤ p2 ∧ p2 < 4))) ∨ (E = "java/lang/IllegalStateException" ∧ ((0 ≤ p1 ∧ p1 < 4) ∧ (0 ≤ p2 ∧ p2 < 4)) ∧ ¬ S 18 (4 * p1.toNat + p2.toNat) = 0))) 2 12 (am_FA (gC g)) := by
  refine wkx_start (cc := cX5_cut) (nL := 3) (ret := (some .int)) (own := RX5) (by decide) rfl hI rfl (Nat.le_of_ble_eq_true rfl) ?_
  intro p e s m below meth c C hZ hno hr hlk
  change wk _ p l e _ s m _ below meth c 0 0 _ _ _ _ 0 [some (.inr (0, 0)), some (.inl (p1)), some (.inl (p2))] [] σ
  refine wk_iload_n C rfl dX5_cut_0 ?_
  refine wk_iload_n C rfl dX5_cut_1 ?_
  refine wkx_ofV C (wkx_runS (index := 129) (st := []) C hZ (c_X5_checkConnection l hl g hI _ p1 p2 hp1 hp2) (cwS 2 C.2.2.2.2.1 gX5_cut_X5_checkConnection rfl rfl rfl (by decide +kernel) ⟨Nat.le_of_ble_eq_true rfl, Nat.le_of_ble_eq_true rfl⟩) rfl rfl (Nat.le_of_ble_eq_true rfl) dX5_cut_2 (Nat.le_of_ble_eq_true rfl) (Nat.le_of_ble_eq_true rfl)) hno hlk (fun E z => Or.inl z) (Nat.le_of_ble_eq_true rfl) (Nat.le_of_ble_eq_true rfl) (fun σ1 hpc => ?_)
  obtain ⟨hsg1, hq1, hq2⟩ := hpc
  rw [hsg1]
  obtain ⟨a, rfl⟩ : ∃ a : Nat, p1 = (a : Int) := ⟨p1.toNat, (Int.toNat_of_nonneg hq1.1).symm⟩
  obtain ⟨c2, rfl⟩ : ∃ c2 : Nat, p2 = (c2 : Int) := ⟨p2.toNat, (Int.toNat_of_nonneg hq2.1).symm⟩
  have ha4 : a < 4 := by omega
  have hc4 : c2 < 4 := by omega
  simp only [Int.toNat_natCast]
  have hu := hS.2.2.2.2.2.2.1 (4 * a + c2) (by omega)
  have hmr := mask_rng hS.2.2.2.2.2.2.1 ha4
  refine wk_aload_n C rfl dX5_cut_5 ?_
  refine wk_iload_n C rfl dX5_cut_6 ?_
  refine wk_iload_n C rfl dX5_cut_7 ?_
  refine wk_ofI C (wk_runV (index := 132) (ci := 5) (st := []) C (c_X5_isCut l g hI _ a c2 ha4 hc4 S b hC hS) (cwV 2 C.2.2.2.2.1 gX5_cut_X5_isCut rfl rfl rfl (by decide +kernel) ⟨Nat.le_of_ble_eq_true rfl, Nat.le_of_ble_eq_true rfl⟩) rfl (show 0 < (1:Nat) by decide) rfl rfl rfl (Nat.le_of_ble_eq_true rfl) dX5_cut_8 ⟨Nat.le_of_ble_eq_true rfl, Nat.le_of_ble_eq_true rfl⟩) (fun r8 σ8 hp8 => ?_)
  obtain ⟨hsg8, rfl⟩ := hp8
  rw [hsg8]
  refine wk_if_eq C 24 (by omega) (by decide) dX5_cut_11 (fun hc11 => ?_) (fun hc11 => ?_)
  · skip
    refine wk_aload_n C rfl dX5_cut_24 ?_
    refine wk_getr C (k := 0) (ci := 5) (j := 7) (T := TX5) rfl (show 0 < (1:Nat) by decide) rfl in_c_X5_cut_X5 (by decide) (by decide +kernel) rfl dX5_cut_25 ?_
    refine wk_iload_n C rfl dX5_cut_28 ?_
    refine wk_dup2 C dX5_cut_29 ?_
    refine wk_iald C (k := 8) rfl (show 0 < (1:Nat) by decide) (Nat.le_of_ble_eq_true rfl) (a) rfl (show _ < (4:Nat) by omega) dX5_cut_30 ?_
    rw [hC.2.2.2.2.2.2 a ha4]
    refine wk_iconst C dX5_cut_31 ?_
    refine wk_iload_n C rfl dX5_cut_32 ?_
    refine wk_ishl C (((2 ^ c2 : Nat) : Int)) (bt_shl hc4) dX5_cut_33 ?_
    refine wk_iconst C dX5_cut_34 ?_
    refine wk_ixor C (-((2 ^ c2 : Nat) : Int) - 1) (bt_not hc4) dX5_cut_35 ?_
    refine wk_iand C (ab_mask S a - ((2 ^ c2 : Nat) : Int) * (1 - S 18 (4 * a + c2))) (mask_clr hS.2.2.2.2.2.2.1 ha4 hc4) dX5_cut_36 ?_
    refine wk_iast C (k := 8) rfl (show 0 < (1:Nat) by decide) (Nat.le_of_ble_eq_true rfl) (a) rfl (show _ < (4:Nat) by omega) dX5_cut_37 ?_
    have hfin := C_cut hC ha4 hc4 1
    refine wk_aload_n C rfl dX5_cut_38 ?_
    refine wk_iload_n C rfl dX5_cut_39 ?_
    refine wk_iload_n C rfl dX5_cut_40 ?_
    refine wk_ofR C (wk_runV (index := 80) (ci := 5) (st := []) C (c_X5_northOf l g hI _ a c2 ha4 hc4) (cwV 2 C.2.2.2.2.1 gX5_cut_X5_northOf rfl rfl rfl (by decide +kernel) ⟨Nat.le_of_ble_eq_true rfl, Nat.le_of_ble_eq_true rfl⟩) rfl (show 0 < (1:Nat) by decide) rfl rfl rfl (Nat.le_of_ble_eq_true rfl) dX5_cut_41 ⟨Nat.le_of_ble_eq_true rfl, Nat.le_of_ble_eq_true rfl⟩) (fun r41 σ41 hp41 => ?_)
    obtain ⟨hsg41, rfl⟩ := hp41
    rw [hsg41]
    refine wk_getiN C (k := 11) (ci := 2) (j := 3) (T := TX2) (host := RX5) rfl (show _ < (64:Nat) by omega) rfl in_c_X5_cut_X2 (by decide) (by decide +kernel) rfl dX5_cut_44 ?_
    rw [(hfin.2.2.2.1 (32 + 4 * a + c2) (by omega)).1, ab_u_app, if_neg (by omega)]
    refine wk_aload_n C rfl dX5_cut_47 ?_
    refine wk_iload_n C rfl dX5_cut_48 ?_
    refine wk_iload_n C rfl dX5_cut_49 ?_
    refine wk_ofR C (wk_runV (index := 76) (ci := 5) (st := [_]) C (c_X5_southOf l g hI _ c2 a hc4 ha4) (cwV 2 C.2.2.2.2.1 gX5_cut_X5_southOf rfl rfl rfl (by decide +kernel) ⟨Nat.le_of_ble_eq_true rfl, Nat.le_of_ble_eq_true rfl⟩) rfl (show 0 < (1:Nat) by decide) rfl rfl rfl (Nat.le_of_ble_eq_true rfl) dX5_cut_50 ⟨Nat.le_of_ble_eq_true rfl, Nat.le_of_ble_eq_true rfl⟩) (fun r50 σ50 hp50 => ?_)
    obtain ⟨hsg50, rfl⟩ := hp50
    rw [hsg50]
    refine wk_getiN C (k := 11) (ci := 2) (j := 3) (T := TX2) (host := RX5) rfl (show _ < (64:Nat) by omega) rfl in_c_X5_cut_X2 (by decide) (by decide +kernel) rfl dX5_cut_53 ?_
    rw [(hfin.2.2.2.1 (48 + 4 * c2 + a) (by omega)).1, ab_u_app, if_neg (by omega)]
    refine wk_iadd C dX5_cut_56 ?_
    refine wkx_iret C hr hlk (Nat.le_of_ble_eq_true rfl) (Nat.le_of_ble_eq_true rfl) dX5_cut_57 ?_
    exact ⟨⟨hq1, hq2⟩, hc11, hfin, rfl⟩
  · skip
    exact wkx_throw C hZ hl hno hlk (cls := "java/lang/IllegalStateException") (text := "the connection is cut") (names := ["java/lang/RuntimeException", "java/lang/Exception"]) (ik := 121) (is := 136) (ic := 125) (by decide +kernel) fit_ns (by decide +kernel) (by decide +kernel) (by decide) rfl ot_IS.2 inx_c_X5_cut_IS ot_IS.1 dX5_cut_14 dX5_cut_17 dX5_cut_18 dX5_cut_20 dX5_cut_23 (Nat.le_of_ble_eq_true rfl) (Nat.le_of_ble_eq_true rfl) (Nat.le_of_ble_eq_true rfl) (Nat.le_of_ble_eq_true rfl) (Nat.le_of_ble_eq_true rfl) (Nat.le_of_ble_eq_true rfl) (Or.inr ⟨rfl, ⟨hq1, hq2⟩, hc11⟩)

theorem in_c_X5_restore_X5 : ∀ w ∈ u_ws RX5 TX5 13, w ∈ wsX5_restore := by decide +kernel
theorem inx_c_X5_restore_IS : ∀ w ∈ (vx_atS RX5 125 "java/lang/IllegalStateException" ["java/lang/RuntimeException", "java/lang/Exception"]).filter goodWord, w ∈ wsX5_restore := by decide +kernel
set_option maxRecDepth 100000 in
set_option maxHeartbeats 4000000 in
/-- restore -/
theorem c_X5_restore (l : Launch) (hl : l.stackTraces = false) (g : am_g) (hI : am_inj (gC g)) (σ : am_M) (p1 p2 : Int) (hp1 : -2147483648 ≤ p1 ∧ p1 < 2147483648) (hp2 : -2147483648 ≤ p2 ∧ p2 < 2147483648) (S : ab_S) (b : Int) (hC : ab_C S σ) (hS : ab_I S b) : vx_Met l yX5_restore wsX5_restore ({ frames := 7, cells := 2, slots := 12, locals := 103 }) (am_PX (gC g) σ [.inr (0, 0), .inl (p1), .inl (p2)]) (am_QI (gC g) (fun r σ' => ((0 ≤ p1 ∧ p1 < 4) ∧ (0 ≤ p2 ∧ p2 < 4)) ∧ ¬ S 18 (4 * p1.toNat + p2.toNat) = 0 ∧ ab_C (ab_u S 18 (4 * p1.toNat + p2.toNat) 0) σ' ∧ r = ab_cuts (ab_u S 18 (4 * p1.toNat + p2.toNat) 0))) (am_X (gC g) σ (fun E => (E = "java/lang/IllegalArgumentException" ∧ ¬ ((0 ≤ p1 ∧ p1 < 4) ∧ (0 ≤ p2 ∧ p2 < 4))) ∨ (E = "java/lang/IllegalStateException" ∧ ((0 ≤ p1 ∧ p1 < 4) ∧ (0 ≤ p2 ∧ p2 < 4)) ∧ S 18 (4 * p1.toNat + p2.toNat) = 0))) 2 12 (am_FA (gC g)) := by
  refine wkx_start (cc := cX5_restore) (nL := 5) (ret := (some .int)) (own := RX5) (by decide) rfl hI rfl (Nat.le_of_ble_eq_true rfl) ?_
  intro p e s m below meth c C hZ hno hr hlk
  change wk _ p l e _ s m _ below meth c 0 0 _ _ _ _ 0 [some (.inr (0, 0)), some (.inl (p1)), some (.inl (p2)), none, none] [] σ
  refine wk_iload_n C rfl dX5_restore_0 ?_
  refine wk_iload_n C rfl dX5_restore_1 ?_
  refine wkx_ofV C (wkx_runS (index := 129) (st := []) C hZ (c_X5_checkConnection l hl g hI _ p1 p2 hp1 hp2) (cwS 2 C.2.2.2.2.1 gX5_restore_X5_checkConnection rfl rfl rfl (by decide +kernel) ⟨Nat.le_of_ble_eq_true rfl, Nat.le_of_ble_eq_true rfl⟩) rfl rfl (Nat.le_of_ble_eq_true rfl) dX5_restore_2 (Nat.le_of_ble_eq_true rfl) (Nat.le_of_ble_eq_true rfl)) hno hlk (fun E z => Or.inl z) (Nat.le_of_ble_eq_true rfl) (Nat.le_of_ble_eq_true rfl) (fun σ1 hpc => ?_)
  obtain ⟨hsg1, hq1, hq2⟩ := hpc
  rw [hsg1]
  obtain ⟨a, rfl⟩ : ∃ a : Nat, p1 = (a : Int) := ⟨p1.toNat, (Int.toNat_of_nonneg hq1.1).symm⟩
  obtain ⟨c2, rfl⟩ : ∃ c2 : Nat, p2 = (c2 : Int) := ⟨p2.toNat, (Int.toNat_of_nonneg hq2.1).symm⟩
  have ha4 : a < 4 := by omega
  have hc4 : c2 < 4 := by omega
  simp only [Int.toNat_natCast]
  have hu := hS.2.2.2.2.2.2.1 (4 * a + c2) (by omega)
  have hmr := mask_rng hS.2.2.2.2.2.2.1 ha4
  refine wk_aload_n C rfl dX5_restore_5 ?_
  refine wk_iload_n C rfl dX5_restore_6 ?_
  refine wk_iload_n C rfl dX5_restore_7 ?_
  refine wk_ofI C (wk_runV (index := 132) (ci := 5) (st := []) C (c_X5_isCut l g hI _ a c2 ha4 hc4 S b hC hS) (cwV 2 C.2.2.2.2.1 gX5_restore_X5_isCut rfl rfl rfl (by decide +kernel) ⟨Nat.le_of_ble_eq_true rfl, Nat.le_of_ble_eq_true rfl⟩) rfl (show 0 < (1:Nat) by decide) rfl rfl rfl (Nat.le_of_ble_eq_true rfl) dX5_restore_8 ⟨Nat.le_of_ble_eq_true rfl, Nat.le_of_ble_eq_true rfl⟩) (fun r8 σ8 hp8 => ?_)
  obtain ⟨hsg8, rfl⟩ := hp8
  rw [hsg8]
  refine wk_if_ne C 24 (by omega) (by decide) dX5_restore_11 (fun hc11 => ?_) (fun hc11 => ?_)
  · skip
    refine wk_aload_n C rfl dX5_restore_24 ?_
    refine wk_getr C (k := 0) (ci := 5) (j := 7) (T := TX5) rfl (show 0 < (1:Nat) by decide) rfl in_c_X5_restore_X5 (by decide) (by decide +kernel) rfl dX5_restore_25 ?_
    refine wk_iload_n C rfl dX5_restore_28 ?_
    refine wk_dup2 C dX5_restore_29 ?_
    refine wk_iald C (k := 8) rfl (show 0 < (1:Nat) by decide) (Nat.le_of_ble_eq_true rfl) (a) rfl (show _ < (4:Nat) by omega) dX5_restore_30 ?_
    rw [hC.2.2.2.2.2.2 a ha4]
    refine wk_iconst C dX5_restore_31 ?_
    refine wk_iload_n C rfl dX5_restore_32 ?_
    refine wk_ishl C (((2 ^ c2 : Nat) : Int)) (bt_shl hc4) dX5_restore_33 ?_
    refine wk_ior C (ab_mask S a - ((2 ^ c2 : Nat) : Int) * (0 - S 18 (4 * a + c2))) (mask_set hS.2.2.2.2.2.2.1 ha4 hc4 (by omega)) dX5_restore_34 ?_
    refine wk_iast C (k := 8) rfl (show 0 < (1:Nat) by decide) (Nat.le_of_ble_eq_true rfl) (a) rfl (show _ < (4:Nat) by omega) dX5_restore_35 ?_
    have hfin := C_cut hC ha4 hc4 0
    have hIT := I_cut hS (Or.inl rfl : (0 : Int) = 0 ∨ (0 : Int) = 1) (4 * a + c2)
    generalize am_up σ 8 0 a (ab_mask S a - ((2 ^ c2 : Nat) : Int) * (0 - S 18 (4 * a + c2))) = σf at hfin ⊢
    refine wk_bipush C (n := 16) (by decide) dX5_restore_36 ?_
    refine wk_istore_n C (by decide) (Nat.le_of_ble_eq_true rfl) dX5_restore_38 ?_
    refine wk_iconst C dX5_restore_39 ?_
    refine wk_istore C (by decide) (Nat.le_of_ble_eq_true rfl) dX5_restore_40 ?_
    have hl42 : ∀ (d k : Nat), 5 ≤ k + d → k ≤ 4 → wk (gC g) p l e (headSpec wsX5_restore ({ frames := 7, cells := 2, slots := 12, locals := 103 })).room s m ([.inr (0, 0), .inl (((a : Nat) : Int)), .inl (((c2 : Nat) : Int))].map (am_tv (gC g))).toArray below meth c 1 6 (vx_MQ below (am_QI (gC g) (fun r σ' => ((0 ≤ ((a : Nat) : Int) ∧ ((a : Nat) : Int) < 4) ∧ (0 ≤ ((c2 : Nat) : Int) ∧ ((c2 : Nat) : Int) < 4)) ∧ ¬ S 18 (4 * a + c2) = 0 ∧ ab_C (ab_u S 18 (4 * a + c2) 0) σ' ∧ r = ab_cuts (ab_u S 18 (4 * a + c2) 0))) (am_X (gC g) σ (fun E => (E = "java/lang/IllegalArgumentException" ∧ ¬ ((0 ≤ ((a : Nat) : Int) ∧ ((a : Nat) : Int) < 4) ∧ (0 ≤ ((c2 : Nat) : Int) ∧ ((c2 : Nat) : Int) < 4))) ∨ (E = "java/lang/IllegalStateException" ∧ ((0 ≤ ((a : Nat) : Int) ∧ ((a : Nat) : Int) < 4) ∧ (0 ≤ ((c2 : Nat) : Int) ∧ ((c2 : Nat) : Int) < 4)) ∧ S 18 (4 * a + c2) = 0))) ([.inr (0, 0), .inl (((a : Nat) : Int)), .inl (((c2 : Nat) : Int))].map (am_tv (gC g))).toArray s 2 12 (am_FA (gC g))) (am_FA (gC g)) s.heap 5 42 [some (.inr (0, 0)), some (.inl ((a : Nat) : Int)), some (.inl ((c2 : Nat) : Int)), some (.inl (16 - ab_ms (ab_u S 18 (4 * a + c2) 0) k)), some (.inl ((k : Nat) : Int))] [] σf := by
      intro d
      induction d with
      | zero => intro k h1 h2; omega
      | succ d ih =>
        intro k h1 h2
        refine wk_iload C rfl dX5_restore_42 ?_
        refine wk_iconst C dX5_restore_44 ?_
        refine wk_icmp_ge C 67 (by omega) (by omega) (by decide) dX5_restore_45 (fun hc45 => ?_) (fun hc45 => ?_)
        · skip
          refine wk_iload_n C rfl dX5_restore_67 ?_
          refine wkx_iret C hr hlk (Nat.le_of_ble_eq_true rfl) (Nat.le_of_ble_eq_true rfl) dX5_restore_68 ?_
          have h4 : k = 4 := by omega
          subst h4
          exact ⟨⟨hq1, hq2⟩, hc11, hfin, by rw [ms_cuts hIT.2.2.2.2.2.2.1]⟩
        · skip
          refine wk_iload_n C rfl dX5_restore_48 ?_
          refine wk_aload_n C rfl dX5_restore_49 ?_
          refine wk_getr C (k := 0) (ci := 5) (j := 7) (T := TX5) rfl (show 0 < (1:Nat) by decide) rfl in_c_X5_restore_X5 (by decide) (by decide +kernel) rfl dX5_restore_50 ?_
          refine wk_iload C rfl dX5_restore_53 ?_
          refine wk_iald C (k := 8) rfl (show 0 < (1:Nat) by decide) (Nat.le_of_ble_eq_true rfl) (k) (by omega) (show _ < (4:Nat) by omega) dX5_restore_55 ?_
          rw [hfin.2.2.2.2.2.2 k (by omega), (mask_um hIT.2.2.2.2.2.2.1 (by omega)).1]
          refine wk_ofI C (wk_runS (index := 143) (st := [_]) C (c_bitCountU l g hI _ (ab_u S 18 (4 * a + c2) 0) k k) (va_cwS 1 C.2.2.2.2.1 gX5_restore_J6_bitCount_0f7a4 rfl rfl rfl (by decide +kernel) ⟨Nat.le_of_ble_eq_true rfl, Nat.le_of_ble_eq_true rfl⟩) rfl rfl (Nat.le_of_ble_eq_true rfl) dX5_restore_56 ⟨Nat.le_of_ble_eq_true rfl, Nat.le_of_ble_eq_true rfl⟩) (fun r56 σ56 hp56 => ?_)
          obtain ⟨hsg56, rfl⟩ := hp56
          rw [hsg56]
          refine wk_isub C dX5_restore_59 ?_
          refine wk_istore_n C (by decide) (Nat.le_of_ble_eq_true rfl) dX5_restore_60 ?_
          refine wk_iinc C rfl (by decide) dX5_restore_61 ?_
          refine wk_goto C 42 (by decide) dX5_restore_64 ?_
          have := ih (k + 1) (by omega) (by omega)
          rw [ab_ms, show 16 - (ab_ms (ab_u S 18 (4 * a + c2) 0) k + ab_many (ab_u S 18 (4 * a + c2) 0) k k) = 16 - ab_ms (ab_u S 18 (4 * a + c2) 0) k - ab_many (ab_u S 18 (4 * a + c2) 0) k k by omega] at this
          exact this
    exact hl42 5 0 (by omega) (by omega)
  · skip
    exact wkx_throw C hZ hl hno hlk (cls := "java/lang/IllegalStateException") (text := "the connection is not cut") (names := ["java/lang/RuntimeException", "java/lang/Exception"]) (ik := 121) (is := 141) (ic := 125) (by decide +kernel) fit_ns (by decide +kernel) (by decide +kernel) (by decide) rfl ot_IS.2 inx_c_X5_restore_IS ot_IS.1 dX5_restore_14 dX5_restore_17 dX5_restore_18 dX5_restore_20 dX5_restore_23 (Nat.le_of_ble_eq_true rfl) (Nat.le_of_ble_eq_true rfl) (Nat.le_of_ble_eq_true rfl) (Nat.le_of_ble_eq_true rfl) (Nat.le_of_ble_eq_true rfl) (Nat.le_of_ble_eq_true rfl) (Or.inr ⟨rfl, ⟨hq1, hq2⟩, hc11⟩)

theorem in_c_X5_pass_X5 : ∀ w ∈ u_ws RX5 TX5 13, w ∈ wsX5_pass := by decide +kernel
theorem inx_c_X5_pass_IA : ∀ w ∈ (vx_atS RX5 111 "java/lang/IllegalArgumentException" ["java/lang/RuntimeException", "java/lang/Exception"]).filter goodWord, w ∈ wsX5_pass := by decide +kernel
theorem inx_c_X5_pass_IS : ∀ w ∈ (vx_atS RX5 125 "java/lang/IllegalStateException" ["java/lang/RuntimeException", "java/lang/Exception"]).filter goodWord, w ∈ wsX5_pass := by decide +kernel
set_option maxRecDepth 100000 in
set_option maxHeartbeats 4000000 in
/-- pass -/
theorem c_X5_pass (l : Launch) (hl : l.stackTraces = false) (g : am_g) (hI : am_inj (gC g)) (σ : am_M) (p1 : Int) (hp1 : -2147483648 ≤ p1 ∧ p1 < 2147483648) (S : ab_S) (b : Int) (hC : ab_C S σ) (hS : ab_I S b) (hb : b + 9600 ≤ 100000000) : vx_Met l yX5_pass wsX5_pass ({ frames := 6, cells := 1, slots := 6, locals := 134 }) (am_PX (gC g) σ [.inr (0, 0), .inl (p1)]) (am_QI (gC g) (fun r σ' => (1 ≤ p1 ∧ p1 ≤ 200) ∧ S 19 3 + p1 ≤ 100000 ∧ ab_C (ab_pass S p1.toNat) σ' ∧ r = ab_passC S p1.toNat)) (am_X (gC g) σ (fun E => (E = "java/lang/IllegalArgumentException" ∧ ¬ (1 ≤ p1 ∧ p1 ≤ 200)) ∨ (E = "java/lang/IllegalStateException" ∧ (1 ≤ p1 ∧ p1 ≤ 200) ∧ ¬ S 19 3 + p1 ≤ 100000))) 1 6 (am_FA (gC g)) := by
  refine wkx_start (cc := cX5_pass) (nL := 4) (ret := (some .int)) (own := RX5) (by decide) rfl hI rfl (Nat.le_of_ble_eq_true rfl) ?_
  intro p e s m below meth c C hZ hno hr hlk
  change wk _ p l e _ s m _ below meth c 0 0 _ _ _ _ 0 [some (.inr (0, 0)), some (.inl (p1)), none, none] [] σ
  have hc0 := hS.2.1.2.2.2.1
  refine wk_iload_n C rfl dX5_pass_0 ?_
  refine wk_iconst C dX5_pass_1 ?_
  refine wk_sipush C (n := 200) (by decide) dX5_pass_2 ?_
  refine wk_ofI C (wk_runS (index := 103) (st := []) C (c_X5_isOutside l g hI _ p1 1 200 (by omega) (by omega) (by omega)) (cwS 3 C.2.2.2.2.1 gX5_pass_X5_isOutside rfl rfl rfl (by decide +kernel) ⟨Nat.le_of_ble_eq_true rfl, Nat.le_of_ble_eq_true rfl⟩) rfl rfl (Nat.le_of_ble_eq_true rfl) dX5_pass_5 ⟨Nat.le_of_ble_eq_true rfl, Nat.le_of_ble_eq_true rfl⟩) (fun r5 σ5 hp5 => ?_)
  obtain ⟨hsg5, hr5⟩ := hp5
  rw [hsg5]
  have hb5 : (r5 = 1 ∧ (p1 < 1 ∨ 200 < p1)) ∨ (r5 = 0 ∧ ¬ (p1 < 1 ∨ 200 < p1)) := by
    rw [hr5]
    split
    · rename_i z; exact Or.inl ⟨rfl, z⟩
    · rename_i z; exact Or.inr ⟨rfl, z⟩
  refine wk_if_eq C 21 (by omega) (by decide) dX5_pass_8 (fun hc8 => ?_) (fun hc8 => ?_)
  · skip
    refine wk_aload_n C rfl dX5_pass_21 ?_
    refine wk_geti C (k := 0) (ci := 5) (j := 9) (T := TX5) rfl (show 0 < (1:Nat) by decide) rfl in_c_X5_pass_X5 (by decide) (by decide +kernel) rfl dX5_pass_22 ?_
    rw [hC.1.2.1]
    refine wk_iload_n C rfl dX5_pass_25 ?_
    refine wk_iadd C dX5_pass_26 ?_
    refine wk_ldc C (index := 151) (n := 100000) rfl (C.2.2.2.2.1 (.constant RX5 151 (100000)) (by decide +kernel)) dX5_pass_27 ?_
    refine wk_icmp_le C 42 (by omega) (by omega) (by decide) dX5_pass_29 (fun hc29 => ?_) (fun hc29 => ?_)
    · skip
      obtain ⟨n, rfl⟩ : ∃ n : Nat, p1 = (n : Int) := ⟨p1.toNat, by omega⟩
      simp only [Int.toNat_natCast]
      refine wk_iconst C dX5_pass_42 ?_
      refine wk_istore_n C (by decide) (Nat.le_of_ble_eq_true rfl) dX5_pass_43 ?_
      refine wk_iconst C dX5_pass_44 ?_
      refine wk_istore_n C (by decide) (Nat.le_of_ble_eq_true rfl) dX5_pass_45 ?_
      have hl46 : ∀ (d k : Nat) (σ1 : am_M), n + 1 ≤ k + d → k ≤ n → ab_C (ab_pass S k) σ1 → wk (gC g) p l e (headSpec wsX5_pass ({ frames := 6, cells := 1, slots := 6, locals := 134 })).room s m ([.inr (0, 0), .inl (((n : Nat) : Int))].map (am_tv (gC g))).toArray below meth c 0 0 (vx_MQ below (am_QI (gC g) (fun r σ' => (1 ≤ ((n : Nat) : Int) ∧ ((n : Nat) : Int) ≤ 200) ∧ S 19 3 + ((n : Nat) : Int) ≤ 100000 ∧ ab_C (ab_pass S n) σ' ∧ r = ab_passC S n)) (am_X (gC g) σ (fun E => (E = "java/lang/IllegalArgumentException" ∧ ¬ (1 ≤ ((n : Nat) : Int) ∧ ((n : Nat) : Int) ≤ 200)) ∨ (E = "java/lang/IllegalStateException" ∧ (1 ≤ ((n : Nat) : Int) ∧ ((n : Nat) : Int) ≤ 200) ∧ ¬ S 19 3 + ((n : Nat) : Int) ≤ 100000))) ([.inr (0, 0), .inl (((n : Nat) : Int))].map (am_tv (gC g))).toArray s 1 6 (am_FA (gC g))) (am_FA (gC g)) s.heap 4 46 [some (.inr (0, 0)), some (.inl ((n : Nat) : Int)), some (.inl (ab_passC S k)), some (.inl ((k : Nat) : Int))] [] σ1 := by
        intro d
        induction d with
        | zero => intro k σ1 h1 h2 h3; omega
        | succ d ih =>
          intro k σ1 h1 h2 h3
          refine wk_iload_n C rfl dX5_pass_46 ?_
          refine wk_iload_n C rfl dX5_pass_47 ?_
          refine wk_icmp_ge C 64 (by omega) (by omega) (by decide) dX5_pass_48 (fun hc48 => ?_) (fun hc48 => ?_)
          · skip
            refine wk_iload_n C rfl dX5_pass_64 ?_
            refine wkx_iret C hr hlk (Nat.le_of_ble_eq_true rfl) (Nat.le_of_ble_eq_true rfl) dX5_pass_65 ?_
            have h4 : k = n := by omega
            subst h4
            exact ⟨by omega, by omega, h3, rfl⟩
          · skip
            refine wk_iload_n C rfl dX5_pass_51 ?_
            refine wk_aload_n C rfl dX5_pass_52 ?_
            refine wk_ofI C (wk_runV (index := 154) (ci := 5) (st := [_]) C (c_X5_runTick l g hI _ (ab_pass S k) (b + 48 * k) h3 (I_pass hS k (by omega) (by omega)) (by omega) (by rw [(pass_193 S k).1]; omega)) (cwV 0 C.2.2.2.2.1 gX5_pass_X5_runTick rfl rfl rfl (by decide +kernel) ⟨Nat.le_of_ble_eq_true rfl, Nat.le_of_ble_eq_true rfl⟩) rfl (show 0 < (1:Nat) by decide) rfl rfl rfl (Nat.le_of_ble_eq_true rfl) dX5_pass_53 ⟨Nat.le_of_ble_eq_true rfl, Nat.le_of_ble_eq_true rfl⟩) (fun r53 σ53 hp53 => ?_)
            obtain ⟨hC53, rfl⟩ := hp53
            refine wk_iadd C dX5_pass_56 ?_
            refine wk_istore_n C (by decide) (Nat.le_of_ble_eq_true rfl) dX5_pass_57 ?_
            refine wk_iinc C rfl (by decide) dX5_pass_58 ?_
            refine wk_goto C 46 (by decide) dX5_pass_61 ?_
            exact ih (k + 1) _ (by omega) (by omega) hC53
      exact hl46 (n + 1) 0 _ (by omega) (by omega) hC
    · skip
      exact wkx_throw C hZ hl hno hlk (cls := "java/lang/IllegalStateException") (text := "too many ticks would have passed") (names := ["java/lang/RuntimeException", "java/lang/Exception"]) (ik := 121) (is := 152) (ic := 125) (by decide +kernel) fit_ns (by decide +kernel) (by decide +kernel) (by decide) rfl ot_IS.2 inx_c_X5_pass_IS ot_IS.1 dX5_pass_32 dX5_pass_35 dX5_pass_36 dX5_pass_38 dX5_pass_41 (Nat.le_of_ble_eq_true rfl) (Nat.le_of_ble_eq_true rfl) (Nat.le_of_ble_eq_true rfl) (Nat.le_of_ble_eq_true rfl) (Nat.le_of_ble_eq_true rfl) (Nat.le_of_ble_eq_true rfl) (Or.inr ⟨rfl, by omega, by omega⟩)
  · skip
    exact wkx_throw C hZ hl hno hlk (cls := "java/lang/IllegalArgumentException") (text := "ticks is out of range") (names := ["java/lang/RuntimeException", "java/lang/Exception"]) (ik := 107) (is := 149) (ic := 111) (by decide +kernel) fit_ns (by decide +kernel) (by decide +kernel) (by decide) rfl ot_IA.2 inx_c_X5_pass_IA ot_IA.1 dX5_pass_11 dX5_pass_14 dX5_pass_15 dX5_pass_17 dX5_pass_20 (Nat.le_of_ble_eq_true rfl) (Nat.le_of_ble_eq_true rfl) (Nat.le_of_ble_eq_true rfl) (Nat.le_of_ble_eq_true rfl) (Nat.le_of_ble_eq_true rfl) (Nat.le_of_ble_eq_true rfl) (Or.inl ⟨rfl, by omega⟩)

theorem in_c_X5_returning_X5 : ∀ w ∈ u_ws RX5 TX5 13, w ∈ wsX5_returning := by decide +kernel
set_option maxRecDepth 100000 in
set_option maxHeartbeats 4000000 in
/-- returning -/
theorem c_X5_returning (l : Launch) (g : am_g) (hI : am_inj (gC g)) (σ : am_M) (S : ab_S) (b : Int) (hC : ab_C S σ) (hS : ab_I S b) : Met l yX5_returning wsX5_returning ({ frames := 1, cells := 0, slots := 0, locals := 22 }) (am_P (gC g) σ [.inr (0, 0)]) (am_QI (gC g) (fun r σ' => σ' = σ ∧ r = ab_ret S)) 0 0 (am_FA (gC g)) := by
  refine wk_start (cc := cX5_returning) (nL := 3) (ret := (some .int)) (own := RX5) (by decide) rfl hI rfl (Nat.le_of_ble_eq_true rfl) ?_
  intro p e s m below meth c C hr hlk
  change wk _ p l e _ s m _ below meth c 0 0 _ _ _ _ 0 [some (.inr (0, 0)), none, none] [] σ
  have hc0 := hS.2.1.2.2.2.1
  refine wk_iconst C dX5_returning_0 ?_
  refine wk_istore_n C (by decide) (Nat.le_of_ble_eq_true rfl) dX5_returning_1 ?_
  refine wk_iconst C dX5_returning_2 ?_
  refine wk_istore_n C (by decide) (Nat.le_of_ble_eq_true rfl) dX5_returning_3 ?_
  have hl4 : ∀ (d k : Nat), 65 ≤ k + d → k ≤ 64 → wk (gC g) p l e (headSpec wsX5_returning ({ frames := 1, cells := 0, slots := 0, locals := 22 })).room s m ([.inr (0, 0)].map (am_tv (gC g))).toArray below meth c 0 0 (MQ below (am_QI (gC g) (fun r σ' => σ' = σ ∧ r = ab_ret S)) ([.inr (0, 0)].map (am_tv (gC g))).toArray s 0 0 (am_FA (gC g))) (am_FA (gC g)) s.heap 3 4 [some (.inr (0, 0)), some (.inl (am_sum (fun L => ab_rs S L) k)), some (.inl ((k : Nat) : Int))] [] σ := by
    intro d
    induction d with
    | zero => intro k h1 h2; omega
    | succ d ih =>
      intro k h1 h2
      refine wk_iload_n C rfl dX5_returning_4 ?_
      refine wk_aload_n C rfl dX5_returning_5 ?_
      refine wk_getr C (k := 0) (ci := 5) (j := 2) (T := TX5) rfl (show 0 < (1:Nat) by decide) rfl in_c_X5_returning_X5 (by decide) (by decide +kernel) rfl dX5_returning_6 ?_
      refine wk_alenR C (k := 3) rfl rfl (show 0 < (1:Nat) by decide) dX5_returning_9 ?_
      refine wk_icmp_ge C 31 (by omega) (by omega) (by decide) dX5_returning_10 (fun hc10 => ?_) (fun hc10 => ?_)
      · skip
        refine wk_iload_n C rfl dX5_returning_31 ?_
        refine wk_iret C hr hlk dX5_returning_32 ?_
        have h4 : k = 64 := by omega
        subst h4
        exact ⟨rfl, rfl⟩
      · skip
        refine wk_iload_n C rfl dX5_returning_13 ?_
        refine wk_aload_n C rfl dX5_returning_14 ?_
        refine wk_getr C (k := 0) (ci := 5) (j := 2) (T := TX5) rfl (show 0 < (1:Nat) by decide) rfl in_c_X5_returning_X5 (by decide) (by decide +kernel) rfl dX5_returning_15 ?_
        refine wk_iload_n C rfl dX5_returning_18 ?_
        refine wk_aald C (k := 3) rfl rfl (show 0 < (1:Nat) by decide) (Nat.le_of_ble_eq_true rfl) (k) (by omega) (show _ < (64:Nat) by omega) dX5_returning_19 ?_
        refine wk_ofI C (wk_runN (host := RX5) (index := 185) (ci := 2) (st := [_]) C (c_X2_onTheWayBack l g hI _ k (by omega)) ⟨va_cnB 0 C.2.2.2.2.1 gX5_returning_X2_onTheWayBack_n185 rfl rfl rfl (C.2.2.2.2.2.1.2 _ (by decide +kernel)) (C.2.2.2.2.1 (.initialized RX2) (by decide +kernel)) (by decide +kernel) ⟨Nat.le_of_ble_eq_true rfl, Nat.le_of_ble_eq_true rfl⟩, C.2.2.2.2.1 (.instanceMethod yX2_onTheWayBack) (by decide +kernel), C.2.2.2.2.1 (.selects RX2 yX2_onTheWayBack yX2_onTheWayBack) (by decide +kernel)⟩ rfl (show _ < (64:Nat) by omega) rfl rfl rfl (Nat.le_of_ble_eq_true rfl) dX5_returning_20 ⟨Nat.zero_le _, Nat.zero_le _⟩) (fun r20 σ20 hp20 => ?_)
        obtain ⟨hsg20, rfl⟩ := hp20
        rw [hsg20]
        rw [C_rs hC hc0.1 (by omega)]
        refine wk_iadd C dX5_returning_23 ?_
        refine wk_istore_n C (by decide) (Nat.le_of_ble_eq_true rfl) dX5_returning_24 ?_
        refine wk_iinc C rfl (by decide) dX5_returning_25 ?_
        refine wk_goto C 4 (by decide) dX5_returning_28 ?_
        exact ih (k + 1) (by omega) (by omega)
  exact hl4 65 0 (by omega) (by omega)

theorem in_c_X5_queued_X2 : ∀ w ∈ u_ws RX2 TX2 7, w ∈ wsX5_queued := by decide +kernel
theorem in_c_X5_queued_X5 : ∀ w ∈ u_ws RX5 TX5 13, w ∈ wsX5_queued := by decide +kernel
set_option maxRecDepth 100000 in
set_option maxHeartbeats 4000000 in
/-- queued -/
theorem c_X5_queued (l : Launch) (g : am_g) (hI : am_inj (gC g)) (σ : am_M) (S : ab_S) (b : Int) (hC : ab_C S σ) (hS : ab_I S b) : Met l yX5_queued wsX5_queued ({ frames := 0, cells := 0, slots := 0, locals := 0 }) (am_P (gC g) σ [.inr (0, 0)]) (am_QI (gC g) (fun r σ' => σ' = σ ∧ r = ab_qd S)) 0 0 (am_FA (gC g)) := by
  refine wk_start (cc := cX5_queued) (nL := 3) (ret := (some .int)) (own := RX5) (by decide) rfl hI rfl (Nat.le_of_ble_eq_true rfl) ?_
  intro p e s m below meth c C hr hlk
  change wk _ p l e _ s m _ below meth c 0 0 _ _ _ _ 0 [some (.inr (0, 0)), none, none] [] σ
  refine wk_iconst C dX5_queued_0 ?_
  refine wk_istore_n C (by decide) (Nat.le_of_ble_eq_true rfl) dX5_queued_1 ?_
  refine wk_iconst C dX5_queued_2 ?_
  refine wk_istore_n C (by decide) (Nat.le_of_ble_eq_true rfl) dX5_queued_3 ?_
  have hl4 : ∀ (d k : Nat), 65 ≤ k + d → k ≤ 64 → wk (gC g) p l e (headSpec wsX5_queued ({ frames := 0, cells := 0, slots := 0, locals := 0 })).room s m ([.inr (0, 0)].map (am_tv (gC g))).toArray below meth c 0 0 (MQ below (am_QI (gC g) (fun r σ' => σ' = σ ∧ r = ab_qd S)) ([.inr (0, 0)].map (am_tv (gC g))).toArray s 0 0 (am_FA (gC g))) (am_FA (gC g)) s.heap 3 4 [some (.inr (0, 0)), some (.inl (am_sum (fun L => S 14 L) k)), some (.inl ((k : Nat) : Int))] [] σ := by
    intro d
    induction d with
    | zero => intro k h1 h2; omega
    | succ d ih =>
      intro k h1 h2
      refine wk_iload_n C rfl dX5_queued_4 ?_
      refine wk_aload_n C rfl dX5_queued_5 ?_
      refine wk_getr C (k := 0) (ci := 5) (j := 2) (T := TX5) rfl (show 0 < (1:Nat) by decide) rfl in_c_X5_queued_X5 (by decide) (by decide +kernel) rfl dX5_queued_6 ?_
      refine wk_alenR C (k := 3) rfl rfl (show 0 < (1:Nat) by decide) dX5_queued_9 ?_
      refine wk_icmp_ge C 31 (by omega) (by omega) (by decide) dX5_queued_10 (fun hc10 => ?_) (fun hc10 => ?_)
      · skip
        refine wk_iload_n C rfl dX5_queued_31 ?_
        refine wk_iret C hr hlk dX5_queued_32 ?_
        have h4 : k = 64 := by omega
        subst h4
        exact ⟨rfl, rfl⟩
      · skip
        refine wk_iload_n C rfl dX5_queued_13 ?_
        refine wk_aload_n C rfl dX5_queued_14 ?_
        refine wk_getr C (k := 0) (ci := 5) (j := 2) (T := TX5) rfl (show 0 < (1:Nat) by decide) rfl in_c_X5_queued_X5 (by decide) (by decide +kernel) rfl dX5_queued_15 ?_
        refine wk_iload_n C rfl dX5_queued_18 ?_
        refine wk_aald C (k := 3) rfl rfl (show 0 < (1:Nat) by decide) (Nat.le_of_ble_eq_true rfl) (k) (by omega) (show _ < (64:Nat) by omega) dX5_queued_19 ?_
        refine wk_getiN C (k := 11) (ci := 2) (j := 3) (T := TX2) (host := RX5) rfl (show _ < (64:Nat) by omega) rfl in_c_X5_queued_X2 (by decide) (by decide +kernel) rfl dX5_queued_20 ?_
        rw [(hC.2.2.2.1 k (by omega)).1]
        refine wk_iadd C dX5_queued_23 ?_
        refine wk_istore_n C (by decide) (Nat.le_of_ble_eq_true rfl) dX5_queued_24 ?_
        refine wk_iinc C rfl (by decide) dX5_queued_25 ?_
        refine wk_goto C 4 (by decide) dX5_queued_28 ?_
        exact ih (k + 1) (by omega) (by omega)
  exact hl4 65 0 (by omega) (by omega)

theorem in_c_X5_unsentBy_X0 : ∀ w ∈ u_ws RX0 TX0 13, w ∈ wsX5_unsentBy := by decide +kernel
theorem in_c_X5_unsentBy_X5 : ∀ w ∈ u_ws RX5 TX5 13, w ∈ wsX5_unsentBy := by decide +kernel
set_option maxRecDepth 100000 in
set_option maxHeartbeats 4000000 in
/-- unsentBy -/
theorem c_X5_unsentBy (l : Launch) (g : am_g) (hI : am_inj (gC g)) (σ : am_M) (w : Nat) (hw : w < 16) (S : ab_S) (b : Int) (hC : ab_C S σ) (hS : ab_I S b) : Met l yX5_unsentBy wsX5_unsentBy ({ frames := 1, cells := 0, slots := 0, locals := 20 }) (am_P (gC g) σ [.inr (0, 0), .inl ((w : Nat) : Int)]) (am_QI (gC g) (fun r σ' => σ' = σ ∧ r = ab_ts S 0 w (ab_n S))) 0 0 (am_FA (gC g)) := by
  refine wk_start (cc := cX5_unsentBy) (nL := 4) (ret := (some .int)) (own := RX5) (by decide) rfl hI rfl (Nat.le_of_ble_eq_true rfl) ?_
  intro p e s m below meth c C hr hlk
  change wk _ p l e _ s m _ below meth c 0 0 _ _ _ _ 0 [some (.inr (0, 0)), some (.inl ((w : Nat) : Int)), none, none] [] σ
  have hn24 := hS.2.1.2.2.2.2
  obtain ⟨n, hn⟩ : ∃ n : Nat, n = ab_n S := ⟨_, rfl⟩
  have hn4 : S 19 4 = ((n : Nat) : Int) := by unfold ab_n at hn; omega
  refine wk_iconst C dX5_unsentBy_0 ?_
  refine wk_istore_n C (by decide) (Nat.le_of_ble_eq_true rfl) dX5_unsentBy_1 ?_
  refine wk_iconst C dX5_unsentBy_2 ?_
  refine wk_istore_n C (by decide) (Nat.le_of_ble_eq_true rfl) dX5_unsentBy_3 ?_
  have hl4 : ∀ (d i : Nat), n + 1 ≤ i + d → i ≤ n → wk (gC g) p l e (headSpec wsX5_unsentBy ({ frames := 1, cells := 0, slots := 0, locals := 20 })).room s m ([.inr (0, 0), .inl ((w : Nat) : Int)].map (am_tv (gC g))).toArray below meth c 0 0 (MQ below (am_QI (gC g) (fun r σ' => σ' = σ ∧ r = ab_ts S 0 w (ab_n S))) ([.inr (0, 0), .inl ((w : Nat) : Int)].map (am_tv (gC g))).toArray s 0 0 (am_FA (gC g))) (am_FA (gC g)) s.heap 4 4 [some (.inr (0, 0)), some (.inl ((w : Nat) : Int)), some (.inl (ab_ts S 0 w i)), some (.inl ((i : Nat) : Int))] [] σ := by
    intro d
    induction d with
    | zero => intro i h1 h2; omega
    | succ d ih =>
      intro i h1 h2
      refine wk_iload_n C rfl dX5_unsentBy_4 ?_
      refine wk_aload_n C rfl dX5_unsentBy_5 ?_
      refine wk_geti C (k := 0) (ci := 5) (j := 8) (T := TX5) rfl (show 0 < (1:Nat) by decide) rfl in_c_X5_unsentBy_X5 (by decide) (by decide +kernel) rfl dX5_unsentBy_6 ?_
      rw [hC.1.1, hn4]
      refine wk_icmp_ge C 43 (by omega) (by omega) (by decide) dX5_unsentBy_9 (fun hc9 => ?_) (fun hc9 => ?_)
      · skip
        refine wk_iload_n C rfl dX5_unsentBy_43 ?_
        refine wk_iret C hr hlk dX5_unsentBy_44 ?_
        have h4 : i = ab_n S := by omega
        exact ⟨rfl, by rw [h4]⟩
      · skip
        have hif := hS.2.2.1 i (by omega)
        unfold ab_If at hif
        obtain ⟨i0, i1, i2, i3, i4, i5, i6, -⟩ := hif
        have hcf : ∀ j, j < 13 → σ 9 i j = S j i := fun j hj => hC.2.1 i j (by omega) hj
        refine wk_aload_n C rfl dX5_unsentBy_12 ?_
        refine wk_getr C (k := 0) (ci := 5) (j := 0) (T := TX5) rfl (show 0 < (1:Nat) by decide) rfl in_c_X5_unsentBy_X5 (by decide) (by decide +kernel) rfl dX5_unsentBy_13 ?_
        refine wk_iload_n C rfl dX5_unsentBy_16 ?_
        refine wk_aald C (k := 1) rfl rfl (show 0 < (1:Nat) by decide) (Nat.le_of_ble_eq_true rfl) (i) (by omega) (show _ < (24:Nat) by omega) dX5_unsentBy_17 ?_
        refine wk_getiN C (k := 9) (ci := 0) (j := 0) (T := TX0) (host := RX5) rfl (show _ < (24:Nat) by omega) rfl in_c_X5_unsentBy_X0 (by decide) (by decide +kernel) rfl dX5_unsentBy_18 ?_
        rw [hcf 0 (by omega)]
        refine wk_iload_n C rfl dX5_unsentBy_21 ?_
        refine wk_icmp_ne C 37 (by omega) (by omega) (by decide) dX5_unsentBy_22 (fun hc22 => ?_) (fun hc22 => ?_)
        · skip
          have hts := ts_n (S := S) (what := 0) (which := w) (n := i) (by unfold ab_P; rw [if_pos (by decide)]; exact decide_eq_false hc22)
          refine wk_iinc C rfl (by decide) dX5_unsentBy_37 ?_
          refine wk_goto C 4 (by decide) dX5_unsentBy_40 ?_
          have := ih (i + 1) (by omega) (by omega)
          rw [← hts] at this
          exact this
        · skip
          have hts := ts_y (S := S) (what := 0) (which := w) (n := i) (by unfold ab_P; rw [if_pos (by decide)]; exact decide_eq_true hc22)
          refine wk_iload_n C rfl dX5_unsentBy_25 ?_
          refine wk_aload_n C rfl dX5_unsentBy_26 ?_
          refine wk_getr C (k := 0) (ci := 5) (j := 0) (T := TX5) rfl (show 0 < (1:Nat) by decide) rfl in_c_X5_unsentBy_X5 (by decide) (by decide +kernel) rfl dX5_unsentBy_27 ?_
          refine wk_iload_n C rfl dX5_unsentBy_30 ?_
          refine wk_aald C (k := 1) rfl rfl (show 0 < (1:Nat) by decide) (Nat.le_of_ble_eq_true rfl) (i) (by omega) (show _ < (24:Nat) by omega) dX5_unsentBy_31 ?_
          refine wk_ofI C (wk_runN (host := RX5) (index := 217) (ci := 0) (st := [_]) C (c_X0_unsent l g hI _ i (by omega)) ⟨va_cnB 0 C.2.2.2.2.1 gX5_unsentBy_X0_unsent_n217 rfl rfl rfl (C.2.2.2.2.2.1.2 _ (by decide +kernel)) (C.2.2.2.2.1 (.initialized RX0) (by decide +kernel)) (by decide +kernel) ⟨Nat.le_of_ble_eq_true rfl, Nat.le_of_ble_eq_true rfl⟩, C.2.2.2.2.1 (.instanceMethod yX0_unsent) (by decide +kernel), C.2.2.2.2.1 (.selects RX0 yX0_unsent yX0_unsent) (by decide +kernel)⟩ rfl (show _ < (24:Nat) by omega) rfl rfl rfl (Nat.le_of_ble_eq_true rfl) dX5_unsentBy_32 ⟨Nat.zero_le _, Nat.zero_le _⟩) (fun r32 σ32 hp32 => ?_)
          obtain ⟨hsg32, rfl⟩ := hp32
          rw [hsg32]
          rw [hcf 2 (by omega), hcf 4 (by omega), hcf 6 (by omega)]
          refine wk_iadd C dX5_unsentBy_35 ?_
          refine wk_istore_n C (by decide) (Nat.le_of_ble_eq_true rfl) dX5_unsentBy_36 ?_
          refine wk_iinc C rfl (by decide) dX5_unsentBy_37 ?_
          refine wk_goto C 4 (by decide) dX5_unsentBy_40 ?_
          have := ih (i + 1) (by omega) (by omega)
          rw [← hts] at this
          exact this
  exact hl4 (n + 1) 0 (by omega) (by omega)

theorem in_c_X5_unsentFor_X0 : ∀ w ∈ u_ws RX0 TX0 13, w ∈ wsX5_unsentFor := by decide +kernel
theorem in_c_X5_unsentFor_X5 : ∀ w ∈ u_ws RX5 TX5 13, w ∈ wsX5_unsentFor := by decide +kernel
set_option maxRecDepth 100000 in
set_option maxHeartbeats 4000000 in
/-- unsentFor -/
theorem c_X5_unsentFor (l : Launch) (g : am_g) (hI : am_inj (gC g)) (σ : am_M) (w : Nat) (hw : w < 16) (S : ab_S) (b : Int) (hC : ab_C S σ) (hS : ab_I S b) : Met l yX5_unsentFor wsX5_unsentFor ({ frames := 1, cells := 0, slots := 0, locals := 20 }) (am_P (gC g) σ [.inr (0, 0), .inl ((w : Nat) : Int)]) (am_QI (gC g) (fun r σ' => σ' = σ ∧ r = ab_ts S 1 w (ab_n S))) 0 0 (am_FA (gC g)) := by
  refine wk_start (cc := cX5_unsentFor) (nL := 4) (ret := (some .int)) (own := RX5) (by decide) rfl hI rfl (Nat.le_of_ble_eq_true rfl) ?_
  intro p e s m below meth c C hr hlk
  change wk _ p l e _ s m _ below meth c 0 0 _ _ _ _ 0 [some (.inr (0, 0)), some (.inl ((w : Nat) : Int)), none, none] [] σ
  have hn24 := hS.2.1.2.2.2.2
  obtain ⟨n, hn⟩ : ∃ n : Nat, n = ab_n S := ⟨_, rfl⟩
  have hn4 : S 19 4 = ((n : Nat) : Int) := by unfold ab_n at hn; omega
  refine wk_iconst C dX5_unsentFor_0 ?_
  refine wk_istore_n C (by decide) (Nat.le_of_ble_eq_true rfl) dX5_unsentFor_1 ?_
  refine wk_iconst C dX5_unsentFor_2 ?_
  refine wk_istore_n C (by decide) (Nat.le_of_ble_eq_true rfl) dX5_unsentFor_3 ?_
  have hl4 : ∀ (d i : Nat), n + 1 ≤ i + d → i ≤ n → wk (gC g) p l e (headSpec wsX5_unsentFor ({ frames := 1, cells := 0, slots := 0, locals := 20 })).room s m ([.inr (0, 0), .inl ((w : Nat) : Int)].map (am_tv (gC g))).toArray below meth c 0 0 (MQ below (am_QI (gC g) (fun r σ' => σ' = σ ∧ r = ab_ts S 1 w (ab_n S))) ([.inr (0, 0), .inl ((w : Nat) : Int)].map (am_tv (gC g))).toArray s 0 0 (am_FA (gC g))) (am_FA (gC g)) s.heap 4 4 [some (.inr (0, 0)), some (.inl ((w : Nat) : Int)), some (.inl (ab_ts S 1 w i)), some (.inl ((i : Nat) : Int))] [] σ := by
    intro d
    induction d with
    | zero => intro i h1 h2; omega
    | succ d ih =>
      intro i h1 h2
      refine wk_iload_n C rfl dX5_unsentFor_4 ?_
      refine wk_aload_n C rfl dX5_unsentFor_5 ?_
      refine wk_geti C (k := 0) (ci := 5) (j := 8) (T := TX5) rfl (show 0 < (1:Nat) by decide) rfl in_c_X5_unsentFor_X5 (by decide) (by decide +kernel) rfl dX5_unsentFor_6 ?_
      rw [hC.1.1, hn4]
      refine wk_icmp_ge C 43 (by omega) (by omega) (by decide) dX5_unsentFor_9 (fun hc9 => ?_) (fun hc9 => ?_)
      · skip
        refine wk_iload_n C rfl dX5_unsentFor_43 ?_
        refine wk_iret C hr hlk dX5_unsentFor_44 ?_
        have h4 : i = ab_n S := by omega
        exact ⟨rfl, by rw [h4]⟩
      · skip
        have hif := hS.2.2.1 i (by omega)
        unfold ab_If at hif
        obtain ⟨i0, i1, i2, i3, i4, i5, i6, -⟩ := hif
        have hcf : ∀ j, j < 13 → σ 9 i j = S j i := fun j hj => hC.2.1 i j (by omega) hj
        refine wk_aload_n C rfl dX5_unsentFor_12 ?_
        refine wk_getr C (k := 0) (ci := 5) (j := 0) (T := TX5) rfl (show 0 < (1:Nat) by decide) rfl in_c_X5_unsentFor_X5 (by decide) (by decide +kernel) rfl dX5_unsentFor_13 ?_
        refine wk_iload_n C rfl dX5_unsentFor_16 ?_
        refine wk_aald C (k := 1) rfl rfl (show 0 < (1:Nat) by decide) (Nat.le_of_ble_eq_true rfl) (i) (by omega) (show _ < (24:Nat) by omega) dX5_unsentFor_17 ?_
        refine wk_getiN C (k := 9) (ci := 0) (j := 1) (T := TX0) (host := RX5) rfl (show _ < (24:Nat) by omega) rfl in_c_X5_unsentFor_X0 (by decide) (by decide +kernel) rfl dX5_unsentFor_18 ?_
        rw [hcf 1 (by omega)]
        refine wk_iload_n C rfl dX5_unsentFor_21 ?_
        refine wk_icmp_ne C 37 (by omega) (by omega) (by decide) dX5_unsentFor_22 (fun hc22 => ?_) (fun hc22 => ?_)
        · skip
          have hts := ts_n (S := S) (what := 1) (which := w) (n := i) (by unfold ab_P; rw [if_pos (by decide)]; exact decide_eq_false hc22)
          refine wk_iinc C rfl (by decide) dX5_unsentFor_37 ?_
          refine wk_goto C 4 (by decide) dX5_unsentFor_40 ?_
          have := ih (i + 1) (by omega) (by omega)
          rw [← hts] at this
          exact this
        · skip
          have hts := ts_y (S := S) (what := 1) (which := w) (n := i) (by unfold ab_P; rw [if_pos (by decide)]; exact decide_eq_true hc22)
          refine wk_iload_n C rfl dX5_unsentFor_25 ?_
          refine wk_aload_n C rfl dX5_unsentFor_26 ?_
          refine wk_getr C (k := 0) (ci := 5) (j := 0) (T := TX5) rfl (show 0 < (1:Nat) by decide) rfl in_c_X5_unsentFor_X5 (by decide) (by decide +kernel) rfl dX5_unsentFor_27 ?_
          refine wk_iload_n C rfl dX5_unsentFor_30 ?_
          refine wk_aald C (k := 1) rfl rfl (show 0 < (1:Nat) by decide) (Nat.le_of_ble_eq_true rfl) (i) (by omega) (show _ < (24:Nat) by omega) dX5_unsentFor_31 ?_
          refine wk_ofI C (wk_runN (host := RX5) (index := 217) (ci := 0) (st := [_]) C (c_X0_unsent l g hI _ i (by omega)) ⟨va_cnB 0 C.2.2.2.2.1 gX5_unsentFor_X0_unsent_n217 rfl rfl rfl (C.2.2.2.2.2.1.2 _ (by decide +kernel)) (C.2.2.2.2.1 (.initialized RX0) (by decide +kernel)) (by decide +kernel) ⟨Nat.le_of_ble_eq_true rfl, Nat.le_of_ble_eq_true rfl⟩, C.2.2.2.2.1 (.instanceMethod yX0_unsent) (by decide +kernel), C.2.2.2.2.1 (.selects RX0 yX0_unsent yX0_unsent) (by decide +kernel)⟩ rfl (show _ < (24:Nat) by omega) rfl rfl rfl (Nat.le_of_ble_eq_true rfl) dX5_unsentFor_32 ⟨Nat.zero_le _, Nat.zero_le _⟩) (fun r32 σ32 hp32 => ?_)
          obtain ⟨hsg32, rfl⟩ := hp32
          rw [hsg32]
          rw [hcf 2 (by omega), hcf 4 (by omega), hcf 6 (by omega)]
          refine wk_iadd C dX5_unsentFor_35 ?_
          refine wk_istore_n C (by decide) (Nat.le_of_ble_eq_true rfl) dX5_unsentFor_36 ?_
          refine wk_iinc C rfl (by decide) dX5_unsentFor_37 ?_
          refine wk_goto C 4 (by decide) dX5_unsentFor_40 ?_
          have := ih (i + 1) (by omega) (by omega)
          rw [← hts] at this
          exact this
  exact hl4 (n + 1) 0 (by omega) (by omega)

theorem in_c_X5_unsentOutOf_X5 : ∀ w ∈ u_ws RX5 TX5 13, w ∈ wsX5_unsentOutOf := by decide +kernel
set_option maxRecDepth 100000 in
set_option maxHeartbeats 4000000 in
/-- unsentOutOf -/
theorem c_X5_unsentOutOf (l : Launch) (g : am_g) (hI : am_inj (gC g)) (σ : am_M) (w : Nat) (hw : w < 16) (S : ab_S) (b : Int) (hC : ab_C S σ) (hS : ab_I S b) : Met l yX5_unsentOutOf wsX5_unsentOutOf ({ frames := 2, cells := 0, slots := 0, locals := 40 }) (am_P (gC g) σ [.inr (0, 0), .inl ((w : Nat) : Int)]) (am_QI (gC g) (fun r σ' => σ' = σ ∧ r = ab_ts S 2 w (ab_n S))) 0 0 (am_FA (gC g)) := by
  refine wk_start (cc := cX5_unsentOutOf) (nL := 4) (ret := (some .int)) (own := RX5) (by decide) rfl hI rfl (Nat.le_of_ble_eq_true rfl) ?_
  intro p e s m below meth c C hr hlk
  change wk _ p l e _ s m _ below meth c 0 0 _ _ _ _ 0 [some (.inr (0, 0)), some (.inl ((w : Nat) : Int)), none, none] [] σ
  have hn24 := hS.2.1.2.2.2.2
  obtain ⟨n, hn⟩ : ∃ n : Nat, n = ab_n S := ⟨_, rfl⟩
  have hn4 : S 19 4 = ((n : Nat) : Int) := by unfold ab_n at hn; omega
  refine wk_iconst C dX5_unsentOutOf_0 ?_
  refine wk_istore_n C (by decide) (Nat.le_of_ble_eq_true rfl) dX5_unsentOutOf_1 ?_
  refine wk_iconst C dX5_unsentOutOf_2 ?_
  refine wk_istore_n C (by decide) (Nat.le_of_ble_eq_true rfl) dX5_unsentOutOf_3 ?_
  have hl4 : ∀ (d i : Nat), n + 1 ≤ i + d → i ≤ n → wk (gC g) p l e (headSpec wsX5_unsentOutOf ({ frames := 2, cells := 0, slots := 0, locals := 40 })).room s m ([.inr (0, 0), .inl ((w : Nat) : Int)].map (am_tv (gC g))).toArray below meth c 0 0 (MQ below (am_QI (gC g) (fun r σ' => σ' = σ ∧ r = ab_ts S 2 w (ab_n S))) ([.inr (0, 0), .inl ((w : Nat) : Int)].map (am_tv (gC g))).toArray s 0 0 (am_FA (gC g))) (am_FA (gC g)) s.heap 4 4 [some (.inr (0, 0)), some (.inl ((w : Nat) : Int)), some (.inl (ab_ts S 2 w i)), some (.inl ((i : Nat) : Int))] [] σ := by
    intro d
    induction d with
    | zero => intro i h1 h2; omega
    | succ d ih =>
      intro i h1 h2
      refine wk_iload_n C rfl dX5_unsentOutOf_4 ?_
      refine wk_aload_n C rfl dX5_unsentOutOf_5 ?_
      refine wk_geti C (k := 0) (ci := 5) (j := 8) (T := TX5) rfl (show 0 < (1:Nat) by decide) rfl in_c_X5_unsentOutOf_X5 (by decide) (by decide +kernel) rfl dX5_unsentOutOf_6 ?_
      rw [hC.1.1, hn4]
      refine wk_icmp_ge C 55 (by omega) (by omega) (by decide) dX5_unsentOutOf_9 (fun hc9 => ?_) (fun hc9 => ?_)
      · skip
        refine wk_iload_n C rfl dX5_unsentOutOf_55 ?_
        refine wk_iret C hr hlk dX5_unsentOutOf_56 ?_
        have h4 : i = ab_n S := by omega
        exact ⟨rfl, by rw [h4]⟩
      · skip
        have hif := hS.2.2.1 i (by omega)
        unfold ab_If at hif
        obtain ⟨i0, i1, i2, i3, i4, i5, i6, -⟩ := hif
        have hcf : ∀ j, j < 13 → σ 9 i j = S j i := fun j hj => hC.2.1 i j (by omega) hj
        refine wk_aload_n C rfl dX5_unsentOutOf_12 ?_
        refine wk_getr C (k := 0) (ci := 5) (j := 0) (T := TX5) rfl (show 0 < (1:Nat) by decide) rfl in_c_X5_unsentOutOf_X5 (by decide) (by decide +kernel) rfl dX5_unsentOutOf_13 ?_
        refine wk_iload_n C rfl dX5_unsentOutOf_16 ?_
        refine wk_aald C (k := 1) rfl rfl (show 0 < (1:Nat) by decide) (Nat.le_of_ble_eq_true rfl) (i) (by omega) (show _ < (24:Nat) by omega) dX5_unsentOutOf_17 ?_
        refine wk_ofI C (wk_runN (host := RX5) (index := 223) (ci := 0) (st := []) C (c_X0_crossesLeaves l g hI _ i (by omega) (by rw [hcf 0 (by omega)]; exact i0) (by rw [hcf 1 (by omega)]; exact i1)) ⟨va_cnB 0 C.2.2.2.2.1 gX5_unsentOutOf_X0_crossesLeaves_n223 rfl rfl rfl (C.2.2.2.2.2.1.2 _ (by decide +kernel)) (C.2.2.2.2.1 (.initialized RX0) (by decide +kernel)) (by decide +kernel) ⟨Nat.le_of_ble_eq_true rfl, Nat.le_of_ble_eq_true rfl⟩, C.2.2.2.2.1 (.instanceMethod yX0_crossesLeaves) (by decide +kernel), C.2.2.2.2.1 (.selects RX0 yX0_crossesLeaves yX0_crossesLeaves) (by decide +kernel)⟩ rfl (show _ < (24:Nat) by omega) rfl rfl rfl (Nat.le_of_ble_eq_true rfl) dX5_unsentOutOf_18 ⟨Nat.zero_le _, Nat.zero_le _⟩) (fun r18 σ18 hp18 => ?_)
        obtain ⟨hsg18, rfl⟩ := hp18
        rw [hsg18]
        rw [hcf 0 (by omega), hcf 1 (by omega)]
        have hfe : (if S 0 i / 4 = S 1 i / 4 then (0 : Int) else 1) = ab_1 (ab_far S i) := by unfold ab_far ab_1; by_cases q : S 0 i / 4 = S 1 i / 4 <;> simp [q]
        rw [hfe]
        have h1r := ab_1r (ab_far S i)
        refine wk_if_eq C 49 (by omega) (by decide) dX5_unsentOutOf_21 (fun hc21 => ?_) (fun hc21 => ?_)
        · skip
          have hfar : ab_far S i = false := by
            cases hz : ab_far S i
            · rfl
            · rw [hz, ab_1t] at hc21; omega
          have hts := ts_n (S := S) (what := 2) (which := w) (n := i) (by unfold ab_P; rw [if_neg (by decide), hfar]; rfl)
          refine wk_iinc C rfl (by decide) dX5_unsentOutOf_49 ?_
          refine wk_goto C 4 (by decide) dX5_unsentOutOf_52 ?_
          have := ih (i + 1) (by omega) (by omega)
          rw [← hts] at this
          exact this
        · skip
          have hfar : ab_far S i = true := by
            cases hz : ab_far S i
            · rw [hz, ab_1f] at hc21; omega
            · rfl
          refine wk_aload_n C rfl dX5_unsentOutOf_24 ?_
          refine wk_getr C (k := 0) (ci := 5) (j := 0) (T := TX5) rfl (show 0 < (1:Nat) by decide) rfl in_c_X5_unsentOutOf_X5 (by decide) (by decide +kernel) rfl dX5_unsentOutOf_25 ?_
          refine wk_iload_n C rfl dX5_unsentOutOf_28 ?_
          refine wk_aald C (k := 1) rfl rfl (show 0 < (1:Nat) by decide) (Nat.le_of_ble_eq_true rfl) (i) (by omega) (show _ < (24:Nat) by omega) dX5_unsentOutOf_29 ?_
          refine wk_ofI C (wk_runN (host := RX5) (index := 227) (ci := 0) (st := []) C (c_X0_sourceLeaf l g hI _ i (by omega) (by rw [hcf 0 (by omega)]; exact i0)) ⟨va_cnB 0 C.2.2.2.2.1 gX5_unsentOutOf_X0_sourceLeaf_n227 rfl rfl rfl (C.2.2.2.2.2.1.2 _ (by decide +kernel)) (C.2.2.2.2.1 (.initialized RX0) (by decide +kernel)) (by decide +kernel) ⟨Nat.le_of_ble_eq_true rfl, Nat.le_of_ble_eq_true rfl⟩, C.2.2.2.2.1 (.instanceMethod yX0_sourceLeaf) (by decide +kernel), C.2.2.2.2.1 (.selects RX0 yX0_sourceLeaf yX0_sourceLeaf) (by decide +kernel)⟩ rfl (show _ < (24:Nat) by omega) rfl rfl rfl (Nat.le_of_ble_eq_true rfl) dX5_unsentOutOf_30 ⟨Nat.zero_le _, Nat.zero_le _⟩) (fun r30 σ30 hp30 => ?_)
          obtain ⟨hsg30, rfl⟩ := hp30
          rw [hsg30]
          rw [hcf 0 (by omega)]
          refine wk_iload_n C rfl dX5_unsentOutOf_33 ?_
          refine wk_icmp_ne C 49 (by omega) (by omega) (by decide) dX5_unsentOutOf_34 (fun hc34 => ?_) (fun hc34 => ?_)
          · skip
            have hts := ts_n (S := S) (what := 2) (which := w) (n := i) (by unfold ab_P; rw [if_neg (by decide), hfar, Bool.true_and]; exact decide_eq_false hc34)
            refine wk_iinc C rfl (by decide) dX5_unsentOutOf_49 ?_
            refine wk_goto C 4 (by decide) dX5_unsentOutOf_52 ?_
            have := ih (i + 1) (by omega) (by omega)
            rw [← hts] at this
            exact this
          · skip
            have hts := ts_y (S := S) (what := 2) (which := w) (n := i) (by unfold ab_P; rw [if_neg (by decide), hfar, Bool.true_and]; exact decide_eq_true hc34)
            refine wk_iload_n C rfl dX5_unsentOutOf_37 ?_
            refine wk_aload_n C rfl dX5_unsentOutOf_38 ?_
            refine wk_getr C (k := 0) (ci := 5) (j := 0) (T := TX5) rfl (show 0 < (1:Nat) by decide) rfl in_c_X5_unsentOutOf_X5 (by decide) (by decide +kernel) rfl dX5_unsentOutOf_39 ?_
            refine wk_iload_n C rfl dX5_unsentOutOf_42 ?_
            refine wk_aald C (k := 1) rfl rfl (show 0 < (1:Nat) by decide) (Nat.le_of_ble_eq_true rfl) (i) (by omega) (show _ < (24:Nat) by omega) dX5_unsentOutOf_43 ?_
            refine wk_ofI C (wk_runN (host := RX5) (index := 217) (ci := 0) (st := [_]) C (c_X0_unsent l g hI _ i (by omega)) ⟨va_cnB 0 C.2.2.2.2.1 gX5_unsentOutOf_X0_unsent_n217 rfl rfl rfl (C.2.2.2.2.2.1.2 _ (by decide +kernel)) (C.2.2.2.2.1 (.initialized RX0) (by decide +kernel)) (by decide +kernel) ⟨Nat.le_of_ble_eq_true rfl, Nat.le_of_ble_eq_true rfl⟩, C.2.2.2.2.1 (.instanceMethod yX0_unsent) (by decide +kernel), C.2.2.2.2.1 (.selects RX0 yX0_unsent yX0_unsent) (by decide +kernel)⟩ rfl (show _ < (24:Nat) by omega) rfl rfl rfl (Nat.le_of_ble_eq_true rfl) dX5_unsentOutOf_44 ⟨Nat.zero_le _, Nat.zero_le _⟩) (fun r44 σ44 hp44 => ?_)
            obtain ⟨hsg44, rfl⟩ := hp44
            rw [hsg44]
            rw [hcf 2 (by omega), hcf 4 (by omega), hcf 6 (by omega)]
            refine wk_iadd C dX5_unsentOutOf_47 ?_
            refine wk_istore_n C (by decide) (Nat.le_of_ble_eq_true rfl) dX5_unsentOutOf_48 ?_
            refine wk_iinc C rfl (by decide) dX5_unsentOutOf_49 ?_
            refine wk_goto C 4 (by decide) dX5_unsentOutOf_52 ?_
            have := ih (i + 1) (by omega) (by omega)
            rw [← hts] at this
            exact this
  exact hl4 (n + 1) 0 (by omega) (by omega)

theorem in_c_X5_unsentInto_X5 : ∀ w ∈ u_ws RX5 TX5 13, w ∈ wsX5_unsentInto := by decide +kernel
set_option maxRecDepth 100000 in
set_option maxHeartbeats 4000000 in
/-- unsentInto -/
theorem c_X5_unsentInto (l : Launch) (g : am_g) (hI : am_inj (gC g)) (σ : am_M) (w : Nat) (hw : w < 16) (S : ab_S) (b : Int) (hC : ab_C S σ) (hS : ab_I S b) : Met l yX5_unsentInto wsX5_unsentInto ({ frames := 2, cells := 0, slots := 0, locals := 40 }) (am_P (gC g) σ [.inr (0, 0), .inl ((w : Nat) : Int)]) (am_QI (gC g) (fun r σ' => σ' = σ ∧ r = ab_ts S 3 w (ab_n S))) 0 0 (am_FA (gC g)) := by
  refine wk_start (cc := cX5_unsentInto) (nL := 4) (ret := (some .int)) (own := RX5) (by decide) rfl hI rfl (Nat.le_of_ble_eq_true rfl) ?_
  intro p e s m below meth c C hr hlk
  change wk _ p l e _ s m _ below meth c 0 0 _ _ _ _ 0 [some (.inr (0, 0)), some (.inl ((w : Nat) : Int)), none, none] [] σ
  have hn24 := hS.2.1.2.2.2.2
  obtain ⟨n, hn⟩ : ∃ n : Nat, n = ab_n S := ⟨_, rfl⟩
  have hn4 : S 19 4 = ((n : Nat) : Int) := by unfold ab_n at hn; omega
  refine wk_iconst C dX5_unsentInto_0 ?_
  refine wk_istore_n C (by decide) (Nat.le_of_ble_eq_true rfl) dX5_unsentInto_1 ?_
  refine wk_iconst C dX5_unsentInto_2 ?_
  refine wk_istore_n C (by decide) (Nat.le_of_ble_eq_true rfl) dX5_unsentInto_3 ?_
  have hl4 : ∀ (d i : Nat), n + 1 ≤ i + d → i ≤ n → wk (gC g) p l e (headSpec wsX5_unsentInto ({ frames := 2, cells := 0, slots := 0, locals := 40 })).room s m ([.inr (0, 0), .inl ((w : Nat) : Int)].map (am_tv (gC g))).toArray below meth c 0 0 (MQ below (am_QI (gC g) (fun r σ' => σ' = σ ∧ r = ab_ts S 3 w (ab_n S))) ([.inr (0, 0), .inl ((w : Nat) : Int)].map (am_tv (gC g))).toArray s 0 0 (am_FA (gC g))) (am_FA (gC g)) s.heap 4 4 [some (.inr (0, 0)), some (.inl ((w : Nat) : Int)), some (.inl (ab_ts S 3 w i)), some (.inl ((i : Nat) : Int))] [] σ := by
    intro d
    induction d with
    | zero => intro i h1 h2; omega
    | succ d ih =>
      intro i h1 h2
      refine wk_iload_n C rfl dX5_unsentInto_4 ?_
      refine wk_aload_n C rfl dX5_unsentInto_5 ?_
      refine wk_geti C (k := 0) (ci := 5) (j := 8) (T := TX5) rfl (show 0 < (1:Nat) by decide) rfl in_c_X5_unsentInto_X5 (by decide) (by decide +kernel) rfl dX5_unsentInto_6 ?_
      rw [hC.1.1, hn4]
      refine wk_icmp_ge C 55 (by omega) (by omega) (by decide) dX5_unsentInto_9 (fun hc9 => ?_) (fun hc9 => ?_)
      · skip
        refine wk_iload_n C rfl dX5_unsentInto_55 ?_
        refine wk_iret C hr hlk dX5_unsentInto_56 ?_
        have h4 : i = ab_n S := by omega
        exact ⟨rfl, by rw [h4]⟩
      · skip
        have hif := hS.2.2.1 i (by omega)
        unfold ab_If at hif
        obtain ⟨i0, i1, i2, i3, i4, i5, i6, -⟩ := hif
        have hcf : ∀ j, j < 13 → σ 9 i j = S j i := fun j hj => hC.2.1 i j (by omega) hj
        refine wk_aload_n C rfl dX5_unsentInto_12 ?_
        refine wk_getr C (k := 0) (ci := 5) (j := 0) (T := TX5) rfl (show 0 < (1:Nat) by decide) rfl in_c_X5_unsentInto_X5 (by decide) (by decide +kernel) rfl dX5_unsentInto_13 ?_
        refine wk_iload_n C rfl dX5_unsentInto_16 ?_
        refine wk_aald C (k := 1) rfl rfl (show 0 < (1:Nat) by decide) (Nat.le_of_ble_eq_true rfl) (i) (by omega) (show _ < (24:Nat) by omega) dX5_unsentInto_17 ?_
        refine wk_ofI C (wk_runN (host := RX5) (index := 223) (ci := 0) (st := []) C (c_X0_crossesLeaves l g hI _ i (by omega) (by rw [hcf 0 (by omega)]; exact i0) (by rw [hcf 1 (by omega)]; exact i1)) ⟨va_cnB 0 C.2.2.2.2.1 gX5_unsentInto_X0_crossesLeaves_n223 rfl rfl rfl (C.2.2.2.2.2.1.2 _ (by decide +kernel)) (C.2.2.2.2.1 (.initialized RX0) (by decide +kernel)) (by decide +kernel) ⟨Nat.le_of_ble_eq_true rfl, Nat.le_of_ble_eq_true rfl⟩, C.2.2.2.2.1 (.instanceMethod yX0_crossesLeaves) (by decide +kernel), C.2.2.2.2.1 (.selects RX0 yX0_crossesLeaves yX0_crossesLeaves) (by decide +kernel)⟩ rfl (show _ < (24:Nat) by omega) rfl rfl rfl (Nat.le_of_ble_eq_true rfl) dX5_unsentInto_18 ⟨Nat.zero_le _, Nat.zero_le _⟩) (fun r18 σ18 hp18 => ?_)
        obtain ⟨hsg18, rfl⟩ := hp18
        rw [hsg18]
        rw [hcf 0 (by omega), hcf 1 (by omega)]
        have hfe : (if S 0 i / 4 = S 1 i / 4 then (0 : Int) else 1) = ab_1 (ab_far S i) := by unfold ab_far ab_1; by_cases q : S 0 i / 4 = S 1 i / 4 <;> simp [q]
        rw [hfe]
        have h1r := ab_1r (ab_far S i)
        refine wk_if_eq C 49 (by omega) (by decide) dX5_unsentInto_21 (fun hc21 => ?_) (fun hc21 => ?_)
        · skip
          have hfar : ab_far S i = false := by
            cases hz : ab_far S i
            · rfl
            · rw [hz, ab_1t] at hc21; omega
          have hts := ts_n (S := S) (what := 3) (which := w) (n := i) (by unfold ab_P; rw [if_neg (by decide), hfar]; rfl)
          refine wk_iinc C rfl (by decide) dX5_unsentInto_49 ?_
          refine wk_goto C 4 (by decide) dX5_unsentInto_52 ?_
          have := ih (i + 1) (by omega) (by omega)
          rw [← hts] at this
          exact this
        · skip
          have hfar : ab_far S i = true := by
            cases hz : ab_far S i
            · rw [hz, ab_1f] at hc21; omega
            · rfl
          refine wk_aload_n C rfl dX5_unsentInto_24 ?_
          refine wk_getr C (k := 0) (ci := 5) (j := 0) (T := TX5) rfl (show 0 < (1:Nat) by decide) rfl in_c_X5_unsentInto_X5 (by decide) (by decide +kernel) rfl dX5_unsentInto_25 ?_
          refine wk_iload_n C rfl dX5_unsentInto_28 ?_
          refine wk_aald C (k := 1) rfl rfl (show 0 < (1:Nat) by decide) (Nat.le_of_ble_eq_true rfl) (i) (by omega) (show _ < (24:Nat) by omega) dX5_unsentInto_29 ?_
          refine wk_ofI C (wk_runN (host := RX5) (index := 230) (ci := 0) (st := []) C (c_X0_targetLeaf l g hI _ i (by omega) (by rw [hcf 1 (by omega)]; exact i1)) ⟨va_cnB 0 C.2.2.2.2.1 gX5_unsentInto_X0_targetLeaf_n230 rfl rfl rfl (C.2.2.2.2.2.1.2 _ (by decide +kernel)) (C.2.2.2.2.1 (.initialized RX0) (by decide +kernel)) (by decide +kernel) ⟨Nat.le_of_ble_eq_true rfl, Nat.le_of_ble_eq_true rfl⟩, C.2.2.2.2.1 (.instanceMethod yX0_targetLeaf) (by decide +kernel), C.2.2.2.2.1 (.selects RX0 yX0_targetLeaf yX0_targetLeaf) (by decide +kernel)⟩ rfl (show _ < (24:Nat) by omega) rfl rfl rfl (Nat.le_of_ble_eq_true rfl) dX5_unsentInto_30 ⟨Nat.zero_le _, Nat.zero_le _⟩) (fun r30 σ30 hp30 => ?_)
          obtain ⟨hsg30, rfl⟩ := hp30
          rw [hsg30]
          rw [hcf 1 (by omega)]
          refine wk_iload_n C rfl dX5_unsentInto_33 ?_
          refine wk_icmp_ne C 49 (by omega) (by omega) (by decide) dX5_unsentInto_34 (fun hc34 => ?_) (fun hc34 => ?_)
          · skip
            have hts := ts_n (S := S) (what := 3) (which := w) (n := i) (by unfold ab_P; rw [if_neg (by decide), hfar, Bool.true_and]; exact decide_eq_false hc34)
            refine wk_iinc C rfl (by decide) dX5_unsentInto_49 ?_
            refine wk_goto C 4 (by decide) dX5_unsentInto_52 ?_
            have := ih (i + 1) (by omega) (by omega)
            rw [← hts] at this
            exact this
          · skip
            have hts := ts_y (S := S) (what := 3) (which := w) (n := i) (by unfold ab_P; rw [if_neg (by decide), hfar, Bool.true_and]; exact decide_eq_true hc34)
            refine wk_iload_n C rfl dX5_unsentInto_37 ?_
            refine wk_aload_n C rfl dX5_unsentInto_38 ?_
            refine wk_getr C (k := 0) (ci := 5) (j := 0) (T := TX5) rfl (show 0 < (1:Nat) by decide) rfl in_c_X5_unsentInto_X5 (by decide) (by decide +kernel) rfl dX5_unsentInto_39 ?_
            refine wk_iload_n C rfl dX5_unsentInto_42 ?_
            refine wk_aald C (k := 1) rfl rfl (show 0 < (1:Nat) by decide) (Nat.le_of_ble_eq_true rfl) (i) (by omega) (show _ < (24:Nat) by omega) dX5_unsentInto_43 ?_
            refine wk_ofI C (wk_runN (host := RX5) (index := 217) (ci := 0) (st := [_]) C (c_X0_unsent l g hI _ i (by omega)) ⟨va_cnB 0 C.2.2.2.2.1 gX5_unsentInto_X0_unsent_n217 rfl rfl rfl (C.2.2.2.2.2.1.2 _ (by decide +kernel)) (C.2.2.2.2.1 (.initialized RX0) (by decide +kernel)) (by decide +kernel) ⟨Nat.le_of_ble_eq_true rfl, Nat.le_of_ble_eq_true rfl⟩, C.2.2.2.2.1 (.instanceMethod yX0_unsent) (by decide +kernel), C.2.2.2.2.1 (.selects RX0 yX0_unsent yX0_unsent) (by decide +kernel)⟩ rfl (show _ < (24:Nat) by omega) rfl rfl rfl (Nat.le_of_ble_eq_true rfl) dX5_unsentInto_44 ⟨Nat.zero_le _, Nat.zero_le _⟩) (fun r44 σ44 hp44 => ?_)
            obtain ⟨hsg44, rfl⟩ := hp44
            rw [hsg44]
            rw [hcf 2 (by omega), hcf 4 (by omega), hcf 6 (by omega)]
            refine wk_iadd C dX5_unsentInto_47 ?_
            refine wk_istore_n C (by decide) (Nat.le_of_ble_eq_true rfl) dX5_unsentInto_48 ?_
            refine wk_iinc C rfl (by decide) dX5_unsentInto_49 ?_
            refine wk_goto C 4 (by decide) dX5_unsentInto_52 ?_
            have := ih (i + 1) (by omega) (by omega)
            rw [← hts] at this
            exact this
  exact hl4 (n + 1) 0 (by omega) (by omega)

theorem in_c_X5_leastTicks_X5 : ∀ w ∈ u_ws RX5 TX5 13, w ∈ wsX5_leastTicks := by decide +kernel
set_option maxRecDepth 100000 in
set_option maxHeartbeats 4000000 in
/-- leastTicks -/
theorem c_X5_leastTicks (l : Launch) (g : am_g) (hI : am_inj (gC g)) (σ : am_M) (S : ab_S) (b : Int) (hC : ab_C S σ) (hS : ab_I S b) (hJ : ab_J S) (hb7 : b ≤ 10000000) : Met l yX5_leastTicks wsX5_leastTicks ({ frames := 3, cells := 0, slots := 0, locals := 63 }) (am_P (gC g) σ [.inr (0, 0)]) (am_QI (gC g) (fun r σ' => σ' = σ ∧ r = ab_least S)) 0 0 (am_FA (gC g)) := by
  refine wk_start (cc := cX5_leastTicks) (nL := 5) (ret := (some .int)) (own := RX5) (by decide) rfl hI rfl (Nat.le_of_ble_eq_true rfl) ?_
  intro p e s m below meth c C hr hlk
  change wk _ p l e _ s m _ below meth c 0 0 _ _ _ _ 0 [some (.inr (0, 0)), none, none, none, none] [] σ
  have hts := ts_R hS hJ hb7
  have hL1 := L1_R hS hJ hb7
  have hL2 := L2_R hS hJ hb7
  have hmo := mo_R hS hJ hb7
  refine wk_iconst C dX5_leastTicks_0 ?_
  refine wk_istore_n C (by decide) (Nat.le_of_ble_eq_true rfl) dX5_leastTicks_1 ?_
  refine wk_iconst C dX5_leastTicks_2 ?_
  refine wk_istore_n C (by decide) (Nat.le_of_ble_eq_true rfl) dX5_leastTicks_3 ?_
  have hl4 : ∀ (d k : Nat), 17 ≤ k + d → k ≤ 16 → wk (gC g) p l e (headSpec wsX5_leastTicks ({ frames := 3, cells := 0, slots := 0, locals := 63 })).room s m ([.inr (0, 0)].map (am_tv (gC g))).toArray below meth c 0 0 (MQ below (am_QI (gC g) (fun r σ' => σ' = σ ∧ r = ab_least S)) ([.inr (0, 0)].map (am_tv (gC g))).toArray s 0 0 (am_FA (gC g))) (am_FA (gC g)) s.heap 5 4 [some (.inr (0, 0)), some (.inl (ab_L1 S k)), some (.inl ((k : Nat) : Int)), none, none] [] σ := by
    intro d
    induction d with
    | zero => intro k h1 h2; omega
    | succ d ih =>
      intro k h1 h2
      have q0 := hts 0 k
      have q1 := hts 1 k
      have q2 := hL1 k
      refine wk_iload_n C rfl dX5_leastTicks_4 ?_
      refine wk_bipush C (n := 16) (by decide) dX5_leastTicks_5 ?_
      refine wk_icmp_ge C 34 (by omega) (by omega) (by decide) dX5_leastTicks_7 (fun hc7 => ?_) (fun hc7 => ?_)
      · skip
        have h4 : k = 16 := by omega
        subst h4
        refine wk_iconst C dX5_leastTicks_34 ?_
        refine wk_istore_n C (by decide) (Nat.le_of_ble_eq_true rfl) dX5_leastTicks_35 ?_
        have hl36 : ∀ (d2 a : Nat), 5 ≤ a + d2 → a ≤ 4 → ab_nn S a = false → wk (gC g) p l e (headSpec wsX5_leastTicks ({ frames := 3, cells := 0, slots := 0, locals := 63 })).room s m ([.inr (0, 0)].map (am_tv (gC g))).toArray below meth c 0 0 (MQ below (am_QI (gC g) (fun r σ' => σ' = σ ∧ r = ab_least S)) ([.inr (0, 0)].map (am_tv (gC g))).toArray s 0 0 (am_FA (gC g))) (am_FA (gC g)) s.heap 5 36 [some (.inr (0, 0)), some (.inl (ab_L2 S a)), some (.inl ((a : Nat) : Int)), none, none] [] σ := by
          intro d2
          induction d2 with
          | zero => intro a g1 g2 g3; omega
          | succ d2 ih2 =>
            intro a g1 g2 g3
            have q0 := hts 2 a
            have q1 := hts 3 a
            have q2 := hL2 a
            have q3 := hmo a
            have q4 := ab_many_rng S a a
            refine wk_iload_n C rfl dX5_leastTicks_36 ?_
            refine wk_iconst C dX5_leastTicks_37 ?_
            refine wk_icmp_ge C 102 (by omega) (by omega) (by decide) dX5_leastTicks_38 (fun hc38 => ?_) (fun hc38 => ?_)
            · skip
              refine wk_iload_n C rfl dX5_leastTicks_102 ?_
              refine wk_iret C hr hlk dX5_leastTicks_103 ?_
              have h5 : a = 4 := by omega
              subst h5
              exact ⟨rfl, by rw [ab_least, if_neg (by rw [g3]; decide)]⟩
            · skip
              refine wk_aload_n C rfl dX5_leastTicks_41 ?_
              refine wk_iload_n C rfl dX5_leastTicks_42 ?_
              refine wk_ofI C (wk_runV (index := 208) (ci := 5) (st := []) C (c_X5_unsentOutOf l g hI _ a (by omega) S b hC hS) (cwV 1 C.2.2.2.2.1 gX5_leastTicks_X5_unsentOutOf rfl rfl rfl (by decide +kernel) ⟨Nat.le_of_ble_eq_true rfl, Nat.le_of_ble_eq_true rfl⟩) rfl (show 0 < (1:Nat) by decide) rfl rfl rfl (Nat.le_of_ble_eq_true rfl) dX5_leastTicks_43 ⟨Nat.zero_le _, Nat.zero_le _⟩) (fun r43 σ43 hp43 => ?_)
              obtain ⟨hsg43, rfl⟩ := hp43
              rw [hsg43]
              refine wk_aload_n C rfl dX5_leastTicks_46 ?_
              refine wk_iload_n C rfl dX5_leastTicks_47 ?_
              refine wk_ofI C (wk_runV (index := 211) (ci := 5) (st := [_]) C (c_X5_unsentInto l g hI _ a (by omega) S b hC hS) (cwV 1 C.2.2.2.2.1 gX5_leastTicks_X5_unsentInto rfl rfl rfl (by decide +kernel) ⟨Nat.le_of_ble_eq_true rfl, Nat.le_of_ble_eq_true rfl⟩) rfl (show 0 < (1:Nat) by decide) rfl rfl rfl (Nat.le_of_ble_eq_true rfl) dX5_leastTicks_48 ⟨Nat.zero_le _, Nat.zero_le _⟩) (fun r48 σ48 hp48 => ?_)
              obtain ⟨hsg48, rfl⟩ := hp48
              rw [hsg48]
              refine wk_max C (index := 203) (by decide +kernel) (by decide +kernel) (by decide +kernel) (by decide +kernel) (Nat.le_of_ble_eq_true rfl) (Nat.le_of_ble_eq_true rfl) (Nat.zero_le _) (Nat.zero_le _) (by omega) (by omega) dX5_leastTicks_51 ?_
              rw [show ab_max (ab_ts S 2 a (ab_n S)) (ab_ts S 3 a (ab_n S)) = ab_mo S a from rfl]
              refine wk_istore_n C (by decide) (Nat.le_of_ble_eq_true rfl) dX5_leastTicks_54 ?_
              refine wk_aload_n C rfl dX5_leastTicks_55 ?_
              refine wk_getr C (k := 0) (ci := 5) (j := 7) (T := TX5) rfl (show 0 < (1:Nat) by decide) rfl in_c_X5_leastTicks_X5 (by decide) (by decide +kernel) rfl dX5_leastTicks_56 ?_
              refine wk_iload_n C rfl dX5_leastTicks_59 ?_
              refine wk_iald C (k := 8) rfl (show 0 < (1:Nat) by decide) (Nat.le_of_ble_eq_true rfl) (a) (by omega) (show _ < (4:Nat) by omega) dX5_leastTicks_60 ?_
              rw [hC.2.2.2.2.2.2 a (by omega), (mask_um hS.2.2.2.2.2.2.1 (by omega)).1]
              refine wk_ofI C (wk_runS (index := 143) (st := []) C (c_bitCountU l g hI _ S a a) (va_cwS 1 C.2.2.2.2.1 gX5_leastTicks_J6_bitCount_0f7a4 rfl rfl rfl (by decide +kernel) ⟨Nat.le_of_ble_eq_true rfl, Nat.le_of_ble_eq_true rfl⟩) rfl rfl (Nat.le_of_ble_eq_true rfl) dX5_leastTicks_61 ⟨Nat.zero_le _, Nat.zero_le _⟩) (fun r61 σ61 hp61 => ?_)
              obtain ⟨hsg61, rfl⟩ := hp61
              rw [hsg61]
              refine wk_istore C (by decide) (Nat.le_of_ble_eq_true rfl) dX5_leastTicks_64 ?_
              refine wk_iload_n C rfl dX5_leastTicks_66 ?_
              refine wk_if_le C 77 (by omega) (by decide) dX5_leastTicks_67 (fun hc67 => ?_) (fun hc67 => ?_)
              · skip
                refine wk_iload C rfl dX5_leastTicks_77 ?_
                refine wk_if_le C 96 (by omega) (by decide) dX5_leastTicks_79 (fun hc79 => ?_) (fun hc79 => ?_)
                · skip
                  have hl2 : ab_L2 S (a + 1) = ab_L2 S a := by rw [ab_L2, if_neg (by omega)]
                  refine wk_iinc C rfl (by decide) dX5_leastTicks_96 ?_
                  refine wk_goto C 36 (by decide) dX5_leastTicks_99 ?_
                  have hnn : ab_nn S (a + 1) = false := by
                    rw [ab_nn, g3, Bool.false_or]
                    rcases (by omega : ¬ 0 < ab_mo S a ∨ ¬ ab_many S a a = 0) with z | z
                    · rw [decide_eq_false z]; rfl
                    · rw [decide_eq_false z, Bool.and_false]
                  have hst := ih2 (a + 1) (by omega) (by omega) hnn
                  rw [hl2] at hst
                  refine wk_le ?_ hst
                  repeat (first | exact le_0 | refine le_s ?_ | refine le_n ?_)
                · skip
                  have hl2 : ab_L2 S (a + 1) = ab_max (ab_L2 S a) ((ab_mo S a + ab_many S a a - 1) / ab_many S a a) := by rw [ab_L2, if_pos (by omega)]
                  have q5 := div_R q3 (show 0 < ab_many S a a ∧ ab_many S a a ≤ 4 by omega)
                  refine wk_iload_n C rfl dX5_leastTicks_82 ?_
                  refine wk_iload_n C rfl dX5_leastTicks_83 ?_
                  refine wk_iload C rfl dX5_leastTicks_84 ?_
                  refine wk_iadd C dX5_leastTicks_86 ?_
                  refine wk_iconst C dX5_leastTicks_87 ?_
                  refine wk_isub C dX5_leastTicks_88 ?_
                  refine wk_iload C rfl dX5_leastTicks_89 ?_
                  refine wk_idiv C (by omega) (by omega) dX5_leastTicks_91 ?_
                  refine wk_max C (index := 203) (by decide +kernel) (by decide +kernel) (by decide +kernel) (by decide +kernel) (Nat.le_of_ble_eq_true rfl) (Nat.le_of_ble_eq_true rfl) (Nat.zero_le _) (Nat.zero_le _) (by omega) (by omega) dX5_leastTicks_92 ?_
                  refine wk_istore_n C (by decide) (Nat.le_of_ble_eq_true rfl) dX5_leastTicks_95 ?_
                  refine wk_iinc C rfl (by decide) dX5_leastTicks_96 ?_
                  refine wk_goto C 36 (by decide) dX5_leastTicks_99 ?_
                  have hnn : ab_nn S (a + 1) = false := by
                    rw [ab_nn, g3, Bool.false_or]
                    rcases (by omega : ¬ 0 < ab_mo S a ∨ ¬ ab_many S a a = 0) with z | z
                    · rw [decide_eq_false z]; rfl
                    · rw [decide_eq_false z, Bool.and_false]
                  have hst := ih2 (a + 1) (by omega) (by omega) hnn
                  rw [hl2] at hst
                  refine wk_le ?_ hst
                  repeat (first | exact le_0 | refine le_s ?_ | refine le_n ?_)
              · skip
                refine wk_iload C rfl dX5_leastTicks_70 ?_
                refine wk_if_ne C 77 (by omega) (by decide) dX5_leastTicks_72 (fun hc72 => ?_) (fun hc72 => ?_)
                · skip
                  refine wk_iload C rfl dX5_leastTicks_77 ?_
                  refine wk_if_le C 96 (by omega) (by decide) dX5_leastTicks_79 (fun hc79 => ?_) (fun hc79 => ?_)
                  · skip
                    have hl2 : ab_L2 S (a + 1) = ab_L2 S a := by rw [ab_L2, if_neg (by omega)]
                    refine wk_iinc C rfl (by decide) dX5_leastTicks_96 ?_
                    refine wk_goto C 36 (by decide) dX5_leastTicks_99 ?_
                    have hnn : ab_nn S (a + 1) = false := by
                      rw [ab_nn, g3, Bool.false_or]
                      rcases (by omega : ¬ 0 < ab_mo S a ∨ ¬ ab_many S a a = 0) with z | z
                      · rw [decide_eq_false z]; rfl
                      · rw [decide_eq_false z, Bool.and_false]
                    have hst := ih2 (a + 1) (by omega) (by omega) hnn
                    rw [hl2] at hst
                    refine wk_le ?_ hst
                    repeat (first | exact le_0 | refine le_s ?_ | refine le_n ?_)
                  · skip
                    have hl2 : ab_L2 S (a + 1) = ab_max (ab_L2 S a) ((ab_mo S a + ab_many S a a - 1) / ab_many S a a) := by rw [ab_L2, if_pos (by omega)]
                    have q5 := div_R q3 (show 0 < ab_many S a a ∧ ab_many S a a ≤ 4 by omega)
                    refine wk_iload_n C rfl dX5_leastTicks_82 ?_
                    refine wk_iload_n C rfl dX5_leastTicks_83 ?_
                    refine wk_iload C rfl dX5_leastTicks_84 ?_
                    refine wk_iadd C dX5_leastTicks_86 ?_
                    refine wk_iconst C dX5_leastTicks_87 ?_
                    refine wk_isub C dX5_leastTicks_88 ?_
                    refine wk_iload C rfl dX5_leastTicks_89 ?_
                    refine wk_idiv C (by omega) (by omega) dX5_leastTicks_91 ?_
                    refine wk_max C (index := 203) (by decide +kernel) (by decide +kernel) (by decide +kernel) (by decide +kernel) (Nat.le_of_ble_eq_true rfl) (Nat.le_of_ble_eq_true rfl) (Nat.zero_le _) (Nat.zero_le _) (by omega) (by omega) dX5_leastTicks_92 ?_
                    refine wk_istore_n C (by decide) (Nat.le_of_ble_eq_true rfl) dX5_leastTicks_95 ?_
                    refine wk_iinc C rfl (by decide) dX5_leastTicks_96 ?_
                    refine wk_goto C 36 (by decide) dX5_leastTicks_99 ?_
                    have hnn : ab_nn S (a + 1) = false := by
                      rw [ab_nn, g3, Bool.false_or]
                      rcases (by omega : ¬ 0 < ab_mo S a ∨ ¬ ab_many S a a = 0) with z | z
                      · rw [decide_eq_false z]; rfl
                      · rw [decide_eq_false z, Bool.and_false]
                    have hst := ih2 (a + 1) (by omega) (by omega) hnn
                    rw [hl2] at hst
                    refine wk_le ?_ hst
                    repeat (first | exact le_0 | refine le_s ?_ | refine le_n ?_)
                · skip
                  refine wk_iconst C dX5_leastTicks_75 ?_
                  refine wk_iret C hr hlk dX5_leastTicks_76 ?_
                  have hn1 : ab_nn S (a + 1) = true := by rw [ab_nn, decide_eq_true (show 0 < ab_mo S a by omega), decide_eq_true (show ab_many S a a = 0 by omega), Bool.true_and, Bool.or_true]
                  have hn4 : ab_nn S 4 = true := by
                    have := nn_up hn1 (4 - (a + 1))
                    rw [show a + 1 + (4 - (a + 1)) = 4 by omega] at this
                    exact this
                  exact ⟨rfl, by rw [ab_least, if_pos hn4]⟩
        refine wk_le ?_ (hl36 5 0 (by omega) (by omega) rfl)
        repeat (first | exact le_0 | refine le_s ?_ | refine le_n ?_)
      · skip
        refine wk_iload_n C rfl dX5_leastTicks_10 ?_
        refine wk_aload_n C rfl dX5_leastTicks_11 ?_
        refine wk_iload_n C rfl dX5_leastTicks_12 ?_
        refine wk_ofI C (wk_runV (index := 197) (ci := 5) (st := [_]) C (c_X5_unsentBy l g hI _ k (by omega) S b hC hS) (cwV 1 C.2.2.2.2.1 gX5_leastTicks_X5_unsentBy rfl rfl rfl (by decide +kernel) ⟨Nat.le_of_ble_eq_true rfl, Nat.le_of_ble_eq_true rfl⟩) rfl (show 0 < (1:Nat) by decide) rfl rfl rfl (Nat.le_of_ble_eq_true rfl) dX5_leastTicks_13 ⟨Nat.zero_le _, Nat.zero_le _⟩) (fun r13 σ13 hp13 => ?_)
        obtain ⟨hsg13, rfl⟩ := hp13
        rw [hsg13]
        refine wk_aload_n C rfl dX5_leastTicks_16 ?_
        refine wk_iload_n C rfl dX5_leastTicks_17 ?_
        refine wk_ofI C (wk_runV (index := 200) (ci := 5) (st := [_, _]) C (c_X5_unsentFor l g hI _ k (by omega) S b hC hS) (cwV 1 C.2.2.2.2.1 gX5_leastTicks_X5_unsentFor rfl rfl rfl (by decide +kernel) ⟨Nat.le_of_ble_eq_true rfl, Nat.le_of_ble_eq_true rfl⟩) rfl (show 0 < (1:Nat) by decide) rfl rfl rfl (Nat.le_of_ble_eq_true rfl) dX5_leastTicks_18 ⟨Nat.zero_le _, Nat.zero_le _⟩) (fun r18 σ18 hp18 => ?_)
        obtain ⟨hsg18, rfl⟩ := hp18
        rw [hsg18]
        have q3 := max_rng q0 q1
        refine wk_max C (index := 203) (by decide +kernel) (by decide +kernel) (by decide +kernel) (by decide +kernel) (Nat.le_of_ble_eq_true rfl) (Nat.le_of_ble_eq_true rfl) (Nat.zero_le _) (Nat.zero_le _) (by omega) (by omega) dX5_leastTicks_21 ?_
        refine wk_max C (index := 203) (by decide +kernel) (by decide +kernel) (by decide +kernel) (by decide +kernel) (Nat.le_of_ble_eq_true rfl) (Nat.le_of_ble_eq_true rfl) (Nat.zero_le _) (Nat.zero_le _) (by omega) (by omega) dX5_leastTicks_24 ?_
        refine wk_istore_n C (by decide) (Nat.le_of_ble_eq_true rfl) dX5_leastTicks_27 ?_
        refine wk_iinc C rfl (by decide) dX5_leastTicks_28 ?_
        refine wk_goto C 4 (by decide) dX5_leastTicks_31 ?_
        exact ih (k + 1) (by omega) (by omega)
  refine wk_le ?_ (hl4 17 0 (by omega) (by omega))
  repeat (first | exact le_0 | refine le_s ?_ | refine le_n ?_)
