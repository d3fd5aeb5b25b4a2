/-! the model: addFlow, cut, restore, pass, leastTicks -/
theorem in_c_X6_addFlow_X6 : ∀ w ∈ u_ws RX6 TX6 36, w ∈ wsX6_addFlow := by decide +kernel
set_option maxRecDepth 100000 in
set_option maxHeartbeats 4000000 in
/-- addFlow -/
theorem c_X6_addFlow (l : Launch) (g : am_g) (hI : am_inj (gR g)) (σ : am_M) (p1 p2 p3 p4 : Int) (hp1 : -2147483648 ≤ p1 ∧ p1 < 2147483648) (hp2 : -2147483648 ≤ p2 ∧ p2 < 2147483648) (hp3 : -2147483648 ≤ p3 ∧ p3 < 2147483648) (hp4 : -2147483648 ≤ p4 ∧ p4 < 2147483648) (S : ab_S) (b : Int) (hR : ab_R S σ) (hS : ab_I S b) : Met l yX6_addFlow wsX6_addFlow ({ frames := 2, cells := 0, slots := 0, locals := 42 }) (am_P (gR g) σ [.inr (20, 0), .inl (p1), .inl (p2), .inl (p3), .inl (p4)]) (am_QI (gR g) (fun r σ' => (ab_okA p1 p2 p3 p4 ∧ S 19 4 < 24 ∧ ab_R (ab_add (ab_u S 19 5 0) p1 p2 p3 p4) σ' ∧ r = S 19 4) ∨ (¬ ab_okA p1 p2 p3 p4 ∧ ab_R (ab_u S 19 5 1) σ') ∨ (ab_okA p1 p2 p3 p4 ∧ ¬ S 19 4 < 24 ∧ ab_R (ab_u S 19 5 2) σ'))) 0 0 (am_FA (gR g)) := by
  refine wk_start (cc := cX6_addFlow) (nL := 6) (ret := (some .int)) (own := RX6) (by decide) rfl hI rfl (Nat.le_of_ble_eq_true rfl) ?_
  intro p e s m below meth c C hr hlk
  change wk _ p l e _ s m _ below meth c 0 0 _ _ _ _ 0 [some (.inr (20, 0)), some (.inl (p1)), some (.inl (p2)), some (.inl (p3)), some (.inl (p4)), none] [] σ
  have hn24 := hS.2.1.2.2.2.2
  have hc0 := hS.2.1.2.2.2.1
  have hj45 : ∀ v : Int, (v = 1 ∧ ab_okA p1 p2 p3 p4) ∨ (v = 0 ∧ ¬ ab_okA p1 p2 p3 p4) → wk (gR g) p l e (headSpec wsX6_addFlow ({ frames := 2, cells := 0, slots := 0, locals := 42 })).room s m ([.inr (20, 0), .inl (p1), .inl (p2), .inl (p3), .inl (p4)].map (am_tv (gR g))).toArray below meth c 0 0 (MQ below (am_QI (gR g) (fun r σ' => (ab_okA p1 p2 p3 p4 ∧ S 19 4 < 24 ∧ ab_R (ab_add (ab_u S 19 5 0) p1 p2 p3 p4) σ' ∧ r = S 19 4) ∨ (¬ ab_okA p1 p2 p3 p4 ∧ ab_R (ab_u S 19 5 1) σ') ∨ (ab_okA p1 p2 p3 p4 ∧ ¬ S 19 4 < 24 ∧ ab_R (ab_u S 19 5 2) σ'))) ([.inr (20, 0), .inl (p1), .inl (p2), .inl (p3), .inl (p4)].map (am_tv (gR g))).toArray s 0 0 (am_FA (gR g))) (am_FA (gR g)) s.heap 6 45 [some (.inr (20, 0)), some (.inl (p1)), some (.inl (p2)), some (.inl (p3)), some (.inl (p4)), none] [.inl (v)] σ := by
    intro v hv
    refine wk_istore C (by decide) (Nat.le_of_ble_eq_true rfl) dX6_addFlow_45 ?_
    have hj71 : ∀ w : Int, (w = 1 ∧ ¬ ab_okA p1 p2 p3 p4) ∨ (w = 2 ∧ ab_okA p1 p2 p3 p4 ∧ ¬ S 19 4 < 24) ∨ (w = 0 ∧ ab_okA p1 p2 p3 p4 ∧ S 19 4 < 24) → wk (gR g) p l e (headSpec wsX6_addFlow ({ frames := 2, cells := 0, slots := 0, locals := 42 })).room s m ([.inr (20, 0), .inl (p1), .inl (p2), .inl (p3), .inl (p4)].map (am_tv (gR g))).toArray below meth c 0 0 (MQ below (am_QI (gR g) (fun r σ' => (ab_okA p1 p2 p3 p4 ∧ S 19 4 < 24 ∧ ab_R (ab_add (ab_u S 19 5 0) p1 p2 p3 p4) σ' ∧ r = S 19 4) ∨ (¬ ab_okA p1 p2 p3 p4 ∧ ab_R (ab_u S 19 5 1) σ') ∨ (ab_okA p1 p2 p3 p4 ∧ ¬ S 19 4 < 24 ∧ ab_R (ab_u S 19 5 2) σ'))) ([.inr (20, 0), .inl (p1), .inl (p2), .inl (p3), .inl (p4)].map (am_tv (gR g))).toArray s 0 0 (am_FA (gR g))) (am_FA (gR g)) s.heap 6 71 [some (.inr (20, 0)), some (.inl (p1)), some (.inl (p2)), some (.inl (p3)), some (.inl (p4)), some (.inl (v))] [.inl (w), .inr (20, 0)] σ := by
      intro w hw
      have hw3 : w = 0 ∨ w = 1 ∨ w = 2 := by
        rcases hw with ⟨y, -⟩ | ⟨y, -⟩ | ⟨y, -⟩ <;> omega
      refine wk_ofI C (wk_runV (index := 124) (ci := 6) (st := []) C (c_X6_goes l g hI _ w (by omega)) (cwV 1 C.2.2.2.2.1 gX6_addFlow_X6_goes rfl rfl rfl (by decide +kernel) ⟨Nat.le_of_ble_eq_true rfl, Nat.le_of_ble_eq_true rfl⟩) rfl (show 0 < (1:Nat) by decide) rfl rfl rfl (Nat.le_of_ble_eq_true rfl) dX6_addFlow_71 ⟨Nat.zero_le _, Nat.zero_le _⟩) (fun r71 σ71 hp71 => ?_)
      obtain ⟨rfl, hg71⟩ := hp71
      refine wk_if_ne C 79 (by omega) (by decide) dX6_addFlow_74 (fun hc74 => ?_) (fun hc74 => ?_)
      · skip
        have hw0 : w = 0 := by omega
        subst hw0
        have hok : ab_okA p1 p2 p3 p4 ∧ S 19 4 < 24 := by
          rcases hw with ⟨y, -⟩ | ⟨y, -⟩ | ⟨-, y⟩
          · omega
          · omega
          · exact y
        have hRT := R_th hR 0
        have t4 : ab_u S 19 5 0 19 4 = S 19 4 := th_o S 0 (by omega)
        have t3 : ab_u S 19 5 0 19 3 = S 19 3 := th_o S 0 (by omega)
        generalize am_up σ 20 0 35 0 = σt at hRT ⊢
        obtain ⟨n, hn⟩ : ∃ n : Nat, n = (S 19 4).toNat := ⟨_, rfl⟩
        have hn4 : S 19 4 = ((n : Nat) : Int) := by omega
        refine wk_aload_n C rfl dX6_addFlow_79 ?_
        refine wk_getr C (k := 20) (ci := 6) (j := 5) (T := TX6) rfl (show 0 < (1:Nat) by decide) rfl in_c_X6_addFlow_X6 (by decide) (by decide +kernel) rfl dX6_addFlow_80 ?_
        refine wk_aload_n C rfl dX6_addFlow_83 ?_
        refine wk_geti C (k := 20) (ci := 6) (j := 4) (T := TX6) rfl (show 0 < (1:Nat) by decide) rfl in_c_X6_addFlow_X6 (by decide) (by decide +kernel) rfl dX6_addFlow_84 ?_
        rw [hRT.1.1, t4, hn4]
        refine wk_iload_n C rfl dX6_addFlow_87 ?_
        refine wk_iast C (k := 25) rfl (show 0 < (1:Nat) by decide) (Nat.le_of_ble_eq_true rfl) (n) (by omega) (show _ < (24:Nat) by omega) dX6_addFlow_88 ?_
        refine wk_aload_n C rfl dX6_addFlow_89 ?_
        refine wk_getr C (k := 20) (ci := 6) (j := 6) (T := TX6) rfl (show 0 < (1:Nat) by decide) rfl in_c_X6_addFlow_X6 (by decide) (by decide +kernel) rfl dX6_addFlow_90 ?_
        refine wk_aload_n C rfl dX6_addFlow_93 ?_
        refine wk_geti C (k := 20) (ci := 6) (j := 4) (T := TX6) rfl (show 0 < (1:Nat) by decide) rfl in_c_X6_addFlow_X6 (by decide) (by decide +kernel) rfl dX6_addFlow_94 ?_
        rw [am_up_app, if_neg (by omega), hRT.1.1, t4, hn4]
        refine wk_iload_n C rfl dX6_addFlow_97 ?_
        refine wk_iast C (k := 26) rfl (show 0 < (1:Nat) by decide) (Nat.le_of_ble_eq_true rfl) (n) (by omega) (show _ < (24:Nat) by omega) dX6_addFlow_98 ?_
        refine wk_aload_n C rfl dX6_addFlow_99 ?_
        refine wk_getr C (k := 20) (ci := 6) (j := 7) (T := TX6) rfl (show 0 < (1:Nat) by decide) rfl in_c_X6_addFlow_X6 (by decide) (by decide +kernel) rfl dX6_addFlow_100 ?_
        refine wk_aload_n C rfl dX6_addFlow_103 ?_
        refine wk_geti C (k := 20) (ci := 6) (j := 4) (T := TX6) rfl (show 0 < (1:Nat) by decide) rfl in_c_X6_addFlow_X6 (by decide) (by decide +kernel) rfl dX6_addFlow_104 ?_
        rw [am_up_app, if_neg (by omega), am_up_app, if_neg (by omega), hRT.1.1, t4, hn4]
        refine wk_iload_n C rfl dX6_addFlow_107 ?_
        refine wk_iast C (k := 27) rfl (show 0 < (1:Nat) by decide) (Nat.le_of_ble_eq_true rfl) (n) (by omega) (show _ < (24:Nat) by omega) dX6_addFlow_108 ?_
        refine wk_aload_n C rfl dX6_addFlow_109 ?_
        refine wk_getr C (k := 20) (ci := 6) (j := 8) (T := TX6) rfl (show 0 < (1:Nat) by decide) rfl in_c_X6_addFlow_X6 (by decide) (by decide +kernel) rfl dX6_addFlow_110 ?_
        refine wk_aload_n C rfl dX6_addFlow_113 ?_
        refine wk_geti C (k := 20) (ci := 6) (j := 4) (T := TX6) rfl (show 0 < (1:Nat) by decide) rfl in_c_X6_addFlow_X6 (by decide) (by decide +kernel) rfl dX6_addFlow_114 ?_
        rw [am_up_app, if_neg (by omega), am_up_app, if_neg (by omega), am_up_app, if_neg (by omega), hRT.1.1, t4, hn4]
        refine wk_aload_n C rfl dX6_addFlow_117 ?_
        refine wk_geti C (k := 20) (ci := 6) (j := 3) (T := TX6) rfl (show 0 < (1:Nat) by decide) rfl in_c_X6_addFlow_X6 (by decide) (by decide +kernel) rfl dX6_addFlow_118 ?_
        rw [am_up_app, if_neg (by omega), am_up_app, if_neg (by omega), am_up_app, if_neg (by omega), hRT.1.2.1, t3]
        refine wk_iload C rfl dX6_addFlow_121 ?_
        refine wk_iadd C dX6_addFlow_123 ?_
        refine wk_iast C (k := 28) rfl (show 0 < (1:Nat) by decide) (Nat.le_of_ble_eq_true rfl) (n) (by omega) (show _ < (24:Nat) by omega) dX6_addFlow_124 ?_
        refine wk_aload_n C rfl dX6_addFlow_125 ?_
        refine wk_getr C (k := 20) (ci := 6) (j := 9) (T := TX6) rfl (show 0 < (1:Nat) by decide) rfl in_c_X6_addFlow_X6 (by decide) (by decide +kernel) rfl dX6_addFlow_126 ?_
        refine wk_aload_n C rfl dX6_addFlow_129 ?_
        refine wk_geti C (k := 20) (ci := 6) (j := 4) (T := TX6) rfl (show 0 < (1:Nat) by decide) rfl in_c_X6_addFlow_X6 (by decide) (by decide +kernel) rfl dX6_addFlow_130 ?_
        rw [am_up_app, if_neg (by omega), am_up_app, if_neg (by omega), am_up_app, if_neg (by omega), am_up_app, if_neg (by omega), hRT.1.1, t4, hn4]
        refine wk_iconst C dX6_addFlow_133 ?_
        refine wk_iast C (k := 29) rfl (show 0 < (1:Nat) by decide) (Nat.le_of_ble_eq_true rfl) (n) (by omega) (show _ < (24:Nat) by omega) dX6_addFlow_134 ?_
        refine wk_aload_n C rfl dX6_addFlow_135 ?_
        refine wk_getr C (k := 20) (ci := 6) (j := 10) (T := TX6) rfl (show 0 < (1:Nat) by decide) rfl in_c_X6_addFlow_X6 (by decide) (by decide +kernel) rfl dX6_addFlow_136 ?_
        refine wk_aload_n C rfl dX6_addFlow_139 ?_
        refine wk_geti C (k := 20) (ci := 6) (j := 4) (T := TX6) rfl (show 0 < (1:Nat) by decide) rfl in_c_X6_addFlow_X6 (by decide) (by decide +kernel) rfl dX6_addFlow_140 ?_
        rw [am_up_app, if_neg (by omega), am_up_app, if_neg (by omega), am_up_app, if_neg (by omega), am_up_app, if_neg (by omega), am_up_app, if_neg (by omega), hRT.1.1, t4, hn4]
        refine wk_iconst C dX6_addFlow_143 ?_
        refine wk_iast C (k := 30) rfl (show 0 < (1:Nat) by decide) (Nat.le_of_ble_eq_true rfl) (n) (by omega) (show _ < (24:Nat) by omega) dX6_addFlow_144 ?_
        refine wk_aload_n C rfl dX6_addFlow_145 ?_
        refine wk_getr C (k := 20) (ci := 6) (j := 11) (T := TX6) rfl (show 0 < (1:Nat) by decide) rfl in_c_X6_addFlow_X6 (by decide) (by decide +kernel) rfl dX6_addFlow_146 ?_
        refine wk_aload_n C rfl dX6_addFlow_149 ?_
        refine wk_geti C (k := 20) (ci := 6) (j := 4) (T := TX6) rfl (show 0 < (1:Nat) by decide) rfl in_c_X6_addFlow_X6 (by decide) (by decide +kernel) rfl dX6_addFlow_150 ?_
        rw [am_up_app, if_neg (by omega), am_up_app, if_neg (by omega), am_up_app, if_neg (by omega), am_up_app, if_neg (by omega), am_up_app, if_neg (by omega), am_up_app, if_neg (by omega), hRT.1.1, t4, hn4]
        refine wk_iconst C dX6_addFlow_153 ?_
        refine wk_iast C (k := 31) rfl (show 0 < (1:Nat) by decide) (Nat.le_of_ble_eq_true rfl) (n) (by omega) (show _ < (24:Nat) by omega) dX6_addFlow_154 ?_
        refine wk_aload_n C rfl dX6_addFlow_155 ?_
        refine wk_getr C (k := 20) (ci := 6) (j := 12) (T := TX6) rfl (show 0 < (1:Nat) by decide) rfl in_c_X6_addFlow_X6 (by decide) (by decide +kernel) rfl dX6_addFlow_156 ?_
        refine wk_aload_n C rfl dX6_addFlow_159 ?_
        refine wk_geti C (k := 20) (ci := 6) (j := 4) (T := TX6) rfl (show 0 < (1:Nat) by decide) rfl in_c_X6_addFlow_X6 (by decide) (by decide +kernel) rfl dX6_addFlow_160 ?_
        rw [am_up_app, if_neg (by omega), am_up_app, if_neg (by omega), am_up_app, if_neg (by omega), am_up_app, if_neg (by omega), am_up_app, if_neg (by omega), am_up_app, if_neg (by omega), am_up_app, if_neg (by omega), hRT.1.1, t4, hn4]
        refine wk_iconst C dX6_addFlow_163 ?_
        refine wk_iast C (k := 32) rfl (show 0 < (1:Nat) by decide) (Nat.le_of_ble_eq_true rfl) (n) (by omega) (show _ < (24:Nat) by omega) dX6_addFlow_164 ?_
        refine wk_aload_n C rfl dX6_addFlow_165 ?_
        refine wk_getr C (k := 20) (ci := 6) (j := 13) (T := TX6) rfl (show 0 < (1:Nat) by decide) rfl in_c_X6_addFlow_X6 (by decide) (by decide +kernel) rfl dX6_addFlow_166 ?_
        refine wk_aload_n C rfl dX6_addFlow_169 ?_
        refine wk_geti C (k := 20) (ci := 6) (j := 4) (T := TX6) rfl (show 0 < (1:Nat) by decide) rfl in_c_X6_addFlow_X6 (by decide) (by decide +kernel) rfl dX6_addFlow_170 ?_
        rw [am_up_app, if_neg (by omega), am_up_app, if_neg (by omega), am_up_app, if_neg (by omega), am_up_app, if_neg (by omega), am_up_app, if_neg (by omega), am_up_app, if_neg (by omega), am_up_app, if_neg (by omega), am_up_app, if_neg (by omega), hRT.1.1, t4, hn4]
        refine wk_iconst C dX6_addFlow_173 ?_
        refine wk_iast C (k := 33) rfl (show 0 < (1:Nat) by decide) (Nat.le_of_ble_eq_true rfl) (n) (by omega) (show _ < (24:Nat) by omega) dX6_addFlow_174 ?_
        refine wk_aload_n C rfl dX6_addFlow_175 ?_
        refine wk_getr C (k := 20) (ci := 6) (j := 14) (T := TX6) rfl (show 0 < (1:Nat) by decide) rfl in_c_X6_addFlow_X6 (by decide) (by decide +kernel) rfl dX6_addFlow_176 ?_
        refine wk_aload_n C rfl dX6_addFlow_179 ?_
        refine wk_geti C (k := 20) (ci := 6) (j := 4) (T := TX6) rfl (show 0 < (1:Nat) by decide) rfl in_c_X6_addFlow_X6 (by decide) (by decide +kernel) rfl dX6_addFlow_180 ?_
        rw [am_up_app, if_neg (by omega), am_up_app, if_neg (by omega), am_up_app, if_neg (by omega), am_up_app, if_neg (by omega), am_up_app, if_neg (by omega), am_up_app, if_neg (by omega), am_up_app, if_neg (by omega), am_up_app, if_neg (by omega), am_up_app, if_neg (by omega), hRT.1.1, t4, hn4]
        refine wk_iconst C dX6_addFlow_183 ?_
        refine wk_iast C (k := 34) rfl (show 0 < (1:Nat) by decide) (Nat.le_of_ble_eq_true rfl) (n) (by omega) (show _ < (24:Nat) by omega) dX6_addFlow_184 ?_
        refine wk_aload_n C rfl dX6_addFlow_185 ?_
        refine wk_getr C (k := 20) (ci := 6) (j := 15) (T := TX6) rfl (show 0 < (1:Nat) by decide) rfl in_c_X6_addFlow_X6 (by decide) (by decide +kernel) rfl dX6_addFlow_186 ?_
        refine wk_aload_n C rfl dX6_addFlow_189 ?_
        refine wk_geti C (k := 20) (ci := 6) (j := 4) (T := TX6) rfl (show 0 < (1:Nat) by decide) rfl in_c_X6_addFlow_X6 (by decide) (by decide +kernel) rfl dX6_addFlow_190 ?_
        rw [am_up_app, if_neg (by omega), am_up_app, if_neg (by omega), am_up_app, if_neg (by omega), am_up_app, if_neg (by omega), am_up_app, if_neg (by omega), am_up_app, if_neg (by omega), am_up_app, if_neg (by omega), am_up_app, if_neg (by omega), am_up_app, if_neg (by omega), am_up_app, if_neg (by omega), hRT.1.1, t4, hn4]
        refine wk_iconst C dX6_addFlow_193 ?_
        refine wk_iast C (k := 35) rfl (show 0 < (1:Nat) by decide) (Nat.le_of_ble_eq_true rfl) (n) (by omega) (show _ < (24:Nat) by omega) dX6_addFlow_194 ?_
        refine wk_aload_n C rfl dX6_addFlow_195 ?_
        refine wk_getr C (k := 20) (ci := 6) (j := 16) (T := TX6) rfl (show 0 < (1:Nat) by decide) rfl in_c_X6_addFlow_X6 (by decide) (by decide +kernel) rfl dX6_addFlow_196 ?_
        refine wk_aload_n C rfl dX6_addFlow_199 ?_
        refine wk_geti C (k := 20) (ci := 6) (j := 4) (T := TX6) rfl (show 0 < (1:Nat) by decide) rfl in_c_X6_addFlow_X6 (by decide) (by decide +kernel) rfl dX6_addFlow_200 ?_
        rw [am_up_app, if_neg (by omega), am_up_app, if_neg (by omega), am_up_app, if_neg (by omega), am_up_app, if_neg (by omega), am_up_app, if_neg (by omega), am_up_app, if_neg (by omega), am_up_app, if_neg (by omega), am_up_app, if_neg (by omega), am_up_app, if_neg (by omega), am_up_app, if_neg (by omega), am_up_app, if_neg (by omega), hRT.1.1, t4, hn4]
        refine wk_iconst C dX6_addFlow_203 ?_
        refine wk_iast C (k := 36) rfl (show 0 < (1:Nat) by decide) (Nat.le_of_ble_eq_true rfl) (n) (by omega) (show _ < (24:Nat) by omega) dX6_addFlow_204 ?_
        refine wk_aload_n C rfl dX6_addFlow_205 ?_
        refine wk_getr C (k := 20) (ci := 6) (j := 17) (T := TX6) rfl (show 0 < (1:Nat) by decide) rfl in_c_X6_addFlow_X6 (by decide) (by decide +kernel) rfl dX6_addFlow_206 ?_
        refine wk_aload_n C rfl dX6_addFlow_209 ?_
        refine wk_geti C (k := 20) (ci := 6) (j := 4) (T := TX6) rfl (show 0 < (1:Nat) by decide) rfl in_c_X6_addFlow_X6 (by decide) (by decide +kernel) rfl dX6_addFlow_210 ?_
        rw [am_up_app, if_neg (by omega), am_up_app, if_neg (by omega), am_up_app, if_neg (by omega), am_up_app, if_neg (by omega), am_up_app, if_neg (by omega), am_up_app, if_neg (by omega), am_up_app, if_neg (by omega), am_up_app, if_neg (by omega), am_up_app, if_neg (by omega), am_up_app, if_neg (by omega), am_up_app, if_neg (by omega), am_up_app, if_neg (by omega), hRT.1.1, t4, hn4]
        refine wk_iconst C dX6_addFlow_213 ?_
        refine wk_iast C (k := 37) rfl (show 0 < (1:Nat) by decide) (Nat.le_of_ble_eq_true rfl) (n) (by omega) (show _ < (24:Nat) by omega) dX6_addFlow_214 ?_
        refine wk_aload_n C rfl dX6_addFlow_215 ?_
        refine wk_dup C dX6_addFlow_216 ?_
        refine wk_geti C (k := 20) (ci := 6) (j := 4) (T := TX6) rfl (show 0 < (1:Nat) by decide) rfl in_c_X6_addFlow_X6 (by decide) (by decide +kernel) rfl dX6_addFlow_217 ?_
        rw [am_up_app, if_neg (by omega), am_up_app, if_neg (by omega), am_up_app, if_neg (by omega), am_up_app, if_neg (by omega), am_up_app, if_neg (by omega), am_up_app, if_neg (by omega), am_up_app, if_neg (by omega), am_up_app, if_neg (by omega), am_up_app, if_neg (by omega), am_up_app, if_neg (by omega), am_up_app, if_neg (by omega), am_up_app, if_neg (by omega), am_up_app, if_neg (by omega), hRT.1.1, t4, hn4]
        refine wk_iconst C dX6_addFlow_220 ?_
        refine wk_iadd C dX6_addFlow_221 ?_
        refine wk_put C (k := 20) (ci := 6) (j := 4) (T := TX6) rfl (show 0 < (1:Nat) by decide) rfl in_c_X6_addFlow_X6 tyX6 tyX6_ok nmX6 (by decide) (by decide +kernel) rfl rfl (by decide +kernel) dX6_addFlow_222 ?_
        refine wk_aload_n C rfl dX6_addFlow_225 ?_
        refine wk_geti C (k := 20) (ci := 6) (j := 4) (T := TX6) rfl (show 0 < (1:Nat) by decide) rfl in_c_X6_addFlow_X6 (by decide) (by decide +kernel) rfl dX6_addFlow_226 ?_
        rw [am_up_app, if_pos ⟨rfl, rfl, rfl⟩]
        refine wk_iconst C dX6_addFlow_229 ?_
        refine wk_isub C dX6_addFlow_230 ?_
        refine wk_iret C hr hlk dX6_addFlow_231 ?_
        refine Or.inl ⟨hok.1, by omega, ?_, by omega⟩
        refine R_add hRT (by omega) (fun j hj => ?_) ?_ (fun k j z1 z2 => by
          rw [t4, hn4] at z1
          simp only [Int.toNat_natCast] at z1
          rw [am_up_app, if_neg (by omega), am_up_app, if_neg (by omega), am_up_app, if_neg (by omega), am_up_app, if_neg (by omega), am_up_app, if_neg (by omega), am_up_app, if_neg (by omega), am_up_app, if_neg (by omega), am_up_app, if_neg (by omega), am_up_app, if_neg (by omega), am_up_app, if_neg (by omega), am_up_app, if_neg (by omega), am_up_app, if_neg (by omega), am_up_app, if_neg (by omega), am_up_app, if_neg (by omega)])
        · rw [t4, hn4, Int.toNat_natCast]
          match j, hj with
          | 0, _ => simp [am_up_app, ab_nf13, t3]
          | 1, _ => simp [am_up_app, ab_nf13, t3]
          | 2, _ => simp [am_up_app, ab_nf13, t3]
          | 3, _ => simp [am_up_app, ab_nf13, t3]
          | 4, _ => simp [am_up_app, ab_nf13, t3]
          | 5, _ => simp [am_up_app, ab_nf13, t3]
          | 6, _ => simp [am_up_app, ab_nf13, t3]
          | 7, _ => simp [am_up_app, ab_nf13, t3]
          | 8, _ => simp [am_up_app, ab_nf13, t3]
          | 9, _ => simp [am_up_app, ab_nf13, t3]
          | 10, _ => simp [am_up_app, ab_nf13, t3]
          | 11, _ => simp [am_up_app, ab_nf13, t3]
          | 12, _ => simp [am_up_app, ab_nf13, t3]
        · rw [am_up_app, if_pos ⟨rfl, rfl, rfl⟩, t4, hn4]
      · skip
        refine wk_iconst C dX6_addFlow_77 ?_
        refine wk_iret C hr hlk dX6_addFlow_78 ?_
        rcases hw with ⟨y, y2⟩ | ⟨y, y2⟩ | ⟨y, y2⟩
        · subst y; exact Or.inr (Or.inl ⟨y2, R_th hR _⟩)
        · subst y; exact Or.inr (Or.inr ⟨y2.1, y2.2, R_th hR _⟩)
        · exfalso; omega
    refine wk_aload_n C rfl dX6_addFlow_47 ?_
    refine wk_iload C rfl dX6_addFlow_48 ?_
    refine wk_if_ne C 57 (by omega) (by decide) dX6_addFlow_50 (fun hc50 => ?_) (fun hc50 => ?_)
    · skip
      refine wk_aload_n C rfl dX6_addFlow_57 ?_
      refine wk_geti C (k := 20) (ci := 6) (j := 4) (T := TX6) rfl (show 0 < (1:Nat) by decide) rfl in_c_X6_addFlow_X6 (by decide) (by decide +kernel) rfl dX6_addFlow_58 ?_
      rw [hR.1.1]
      refine wk_bipush C (n := 24) (by decide) dX6_addFlow_61 ?_
      refine wk_icmp_ne C 70 (by omega) (by omega) (by decide) dX6_addFlow_63 (fun hc63 => ?_) (fun hc63 => ?_)
      · skip
        refine wk_iconst C dX6_addFlow_70 ?_
        refine hj71 _ ?_
        rcases hv with ⟨y1, y2⟩ | ⟨y1, y2⟩
        · first
            | (exfalso; omega)
            | exact Or.inr (Or.inl ⟨rfl, y2, by omega⟩)
            | exact Or.inr (Or.inr ⟨rfl, y2, by omega⟩)
        · first
            | (exfalso; omega)
            | exact Or.inl ⟨rfl, y2⟩
      · skip
        refine wk_iconst C dX6_addFlow_66 ?_
        refine wk_goto C 71 (by decide) dX6_addFlow_67 ?_
        refine hj71 _ ?_
        rcases hv with ⟨y1, y2⟩ | ⟨y1, y2⟩
        · first
            | (exfalso; omega)
            | exact Or.inr (Or.inl ⟨rfl, y2, by omega⟩)
            | exact Or.inr (Or.inr ⟨rfl, y2, by omega⟩)
        · first
            | (exfalso; omega)
            | exact Or.inl ⟨rfl, y2⟩
    · skip
      refine wk_iconst C dX6_addFlow_53 ?_
      refine wk_goto C 71 (by decide) dX6_addFlow_54 ?_
      refine hj71 _ ?_
      rcases hv with ⟨y1, y2⟩ | ⟨y1, y2⟩
      · first
          | (exfalso; omega)
          | exact Or.inr (Or.inl ⟨rfl, y2, by omega⟩)
          | exact Or.inr (Or.inr ⟨rfl, y2, by omega⟩)
      · first
          | (exfalso; omega)
          | exact Or.inl ⟨rfl, y2⟩
  refine wk_iload_n C rfl dX6_addFlow_0 ?_
  refine wk_ofI C (wk_runS (index := 131) (st := []) C (c_X6_isHost l g hI _ p1 hp1) (cwS 1 C.2.2.2.2.1 gX6_addFlow_X6_isHost rfl rfl rfl (by decide +kernel) ⟨Nat.le_of_ble_eq_true rfl, Nat.le_of_ble_eq_true rfl⟩) rfl rfl (Nat.le_of_ble_eq_true rfl) dX6_addFlow_1 ⟨Nat.zero_le _, Nat.zero_le _⟩) (fun r1 σ1 hp1 => ?_)
  obtain ⟨hsg1, hr1⟩ := hp1
  rw [hsg1]
  have hb1 : (r1 = 1 ∧ ((0 ≤ p1 ∧ p1 < 16))) ∨ (r1 = 0 ∧ ¬ ((0 ≤ p1 ∧ p1 < 16))) := by
    rw [hr1]
    split
    · rename_i z; exact Or.inl ⟨rfl, z⟩
    · rename_i z; exact Or.inr ⟨rfl, z⟩
  refine wk_if_eq C 44 (by omega) (by decide) dX6_addFlow_4 (fun hc4 => ?_) (fun hc4 => ?_)
  · skip
    refine wk_iconst C dX6_addFlow_44 ?_
    exact hj45 _ (by unfold ab_okA; omega)
  · skip
    refine wk_iload_n C rfl dX6_addFlow_7 ?_
    refine wk_ofI C (wk_runS (index := 131) (st := []) C (c_X6_isHost l g hI _ p2 hp2) (cwS 1 C.2.2.2.2.1 gX6_addFlow_X6_isHost rfl rfl rfl (by decide +kernel) ⟨Nat.le_of_ble_eq_true rfl, Nat.le_of_ble_eq_true rfl⟩) rfl rfl (Nat.le_of_ble_eq_true rfl) dX6_addFlow_8 ⟨Nat.zero_le _, Nat.zero_le _⟩) (fun r8 σ8 hp8 => ?_)
    obtain ⟨hsg8, hr8⟩ := hp8
    rw [hsg8]
    have hb8 : (r8 = 1 ∧ ((0 ≤ p2 ∧ p2 < 16))) ∨ (r8 = 0 ∧ ¬ ((0 ≤ p2 ∧ p2 < 16))) := by
      rw [hr8]
      split
      · rename_i z; exact Or.inl ⟨rfl, z⟩
      · rename_i z; exact Or.inr ⟨rfl, z⟩
    refine wk_if_eq C 44 (by omega) (by decide) dX6_addFlow_11 (fun hc11 => ?_) (fun hc11 => ?_)
    · skip
      refine wk_iconst C dX6_addFlow_44 ?_
      exact hj45 _ (by unfold ab_okA; omega)
    · skip
      refine wk_iload_n C rfl dX6_addFlow_14 ?_
      refine wk_iload_n C rfl dX6_addFlow_15 ?_
      refine wk_icmp_eq C 44 (by omega) (by omega) (by decide) dX6_addFlow_16 (fun hc16 => ?_) (fun hc16 => ?_)
      · skip
        refine wk_iconst C dX6_addFlow_44 ?_
        exact hj45 _ (by unfold ab_okA; omega)
      · skip
        refine wk_iload_n C rfl dX6_addFlow_19 ?_
        refine wk_iconst C dX6_addFlow_20 ?_
        refine wk_bipush C (n := 100) (by decide) dX6_addFlow_21 ?_
        refine wk_ofI C (wk_runS (index := 114) (st := []) C (c_X6_isIn l g hI _ p3 1 100 (by omega) (by omega) (by omega)) (cwS 3 C.2.2.2.2.1 gX6_addFlow_X6_isIn rfl rfl rfl (by decide +kernel) ⟨Nat.le_of_ble_eq_true rfl, Nat.le_of_ble_eq_true rfl⟩) rfl rfl (Nat.le_of_ble_eq_true rfl) dX6_addFlow_23 ⟨Nat.zero_le _, Nat.zero_le _⟩) (fun r23 σ23 hp23 => ?_)
        obtain ⟨hsg23, hr23⟩ := hp23
        rw [hsg23]
        have hb23 : (r23 = 1 ∧ (1 ≤ p3 ∧ p3 ≤ 100)) ∨ (r23 = 0 ∧ ¬ (1 ≤ p3 ∧ p3 ≤ 100)) := by
          rw [hr23]
          split
          · rename_i z; exact Or.inl ⟨rfl, z⟩
          · rename_i z; exact Or.inr ⟨rfl, z⟩
        refine wk_if_eq C 44 (by omega) (by decide) dX6_addFlow_26 (fun hc26 => ?_) (fun hc26 => ?_)
        · skip
          refine wk_iconst C dX6_addFlow_44 ?_
          exact hj45 _ (by unfold ab_okA; omega)
        · skip
          refine wk_iload C rfl dX6_addFlow_29 ?_
          refine wk_iconst C dX6_addFlow_31 ?_
          refine wk_bipush C (n := 100) (by decide) dX6_addFlow_32 ?_
          refine wk_ofI C (wk_runS (index := 114) (st := []) C (c_X6_isIn l g hI _ p4 0 100 (by omega) (by omega) (by omega)) (cwS 3 C.2.2.2.2.1 gX6_addFlow_X6_isIn rfl rfl rfl (by decide +kernel) ⟨Nat.le_of_ble_eq_true rfl, Nat.le_of_ble_eq_true rfl⟩) rfl rfl (Nat.le_of_ble_eq_true rfl) dX6_addFlow_34 ⟨Nat.zero_le _, Nat.zero_le _⟩) (fun r34 σ34 hp34 => ?_)
          obtain ⟨hsg34, hr34⟩ := hp34
          rw [hsg34]
          have hb34 : (r34 = 1 ∧ (0 ≤ p4 ∧ p4 ≤ 100)) ∨ (r34 = 0 ∧ ¬ (0 ≤ p4 ∧ p4 ≤ 100)) := by
            rw [hr34]
            split
            · rename_i z; exact Or.inl ⟨rfl, z⟩
            · rename_i z; exact Or.inr ⟨rfl, z⟩
          refine wk_if_eq C 44 (by omega) (by decide) dX6_addFlow_37 (fun hc37 => ?_) (fun hc37 => ?_)
          · skip
            refine wk_iconst C dX6_addFlow_44 ?_
            exact hj45 _ (by unfold ab_okA; omega)
          · skip
            refine wk_iconst C dX6_addFlow_40 ?_
            refine wk_goto C 45 (by decide) dX6_addFlow_41 ?_
            exact hj45 _ (by unfold ab_okA; omega)

theorem in_c_X6_cut_X6 : ∀ w ∈ u_ws RX6 TX6 36, w ∈ wsX6_cut := by decide +kernel
set_option maxRecDepth 100000 in
set_option maxHeartbeats 4000000 in
/-- cut -/
theorem c_X6_cut (l : Launch) (g : am_g) (hI : am_inj (gR g)) (σ : am_M) (p1 p2 : Int) (hp1 : -2147483648 ≤ p1 ∧ p1 < 2147483648) (hp2 : -2147483648 ≤ p2 ∧ p2 < 2147483648) (S : ab_S) (b : Int) (hR : ab_R S σ) (hS : ab_I S b) : Met l yX6_cut wsX6_cut ({ frames := 2, cells := 0, slots := 0, locals := 43 }) (am_P (gR g) σ [.inr (20, 0), .inl (p1), .inl (p2)]) (am_QI (gR g) (fun r σ' => (((0 ≤ p1 ∧ p1 < 4) ∧ (0 ≤ p2 ∧ p2 < 4)) ∧ S 18 (4 * p1.toNat + p2.toNat) = 0 ∧ ab_R (ab_u (ab_u S 19 5 0) 18 (4 * p1.toNat + p2.toNat) 1) σ' ∧ r = S 14 (32 + 4 * p1.toNat + p2.toNat) + S 14 (48 + 4 * p2.toNat + p1.toNat)) ∨ (¬ ((0 ≤ p1 ∧ p1 < 4) ∧ (0 ≤ p2 ∧ p2 < 4)) ∧ ab_R (ab_u S 19 5 1) σ') ∨ (((0 ≤ p1 ∧ p1 < 4) ∧ (0 ≤ p2 ∧ p2 < 4)) ∧ ¬ S 18 (4 * p1.toNat + p2.toNat) = 0 ∧ ab_R (ab_u S 19 5 2) σ'))) 0 0 (am_FA (gR g)) := by
  refine wk_start (cc := cX6_cut) (nL := 3) (ret := (some .int)) (own := RX6) (by decide) rfl hI rfl (Nat.le_of_ble_eq_true rfl) ?_
  intro p e s m below meth c C hr hlk
  change wk _ p l e _ s m _ below meth c 0 0 _ _ _ _ 0 [some (.inr (20, 0)), some (.inl (p1)), some (.inl (p2))] [] σ
  have hj31 : ∀ w : Int, (w = 1 ∧ ¬ ((0 ≤ p1 ∧ p1 < 4) ∧ (0 ≤ p2 ∧ p2 < 4))) ∨ (w = 2 ∧ ((0 ≤ p1 ∧ p1 < 4) ∧ (0 ≤ p2 ∧ p2 < 4)) ∧ ¬ S 18 (4 * p1.toNat + p2.toNat) = 0) ∨ (w = 0 ∧ ((0 ≤ p1 ∧ p1 < 4) ∧ (0 ≤ p2 ∧ p2 < 4)) ∧ S 18 (4 * p1.toNat + p2.toNat) = 0) → wk (gR g) p l e (headSpec wsX6_cut ({ frames := 2, cells := 0, slots := 0, locals := 43 })).room s m ([.inr (20, 0), .inl (p1), .inl (p2)].map (am_tv (gR g))).toArray below meth c 0 0 (MQ below (am_QI (gR g) (fun r σ' => (((0 ≤ p1 ∧ p1 < 4) ∧ (0 ≤ p2 ∧ p2 < 4)) ∧ S 18 (4 * p1.toNat + p2.toNat) = 0 ∧ ab_R (ab_u (ab_u S 19 5 0) 18 (4 * p1.toNat + p2.toNat) 1) σ' ∧ r = S 14 (32 + 4 * p1.toNat + p2.toNat) + S 14 (48 + 4 * p2.toNat + p1.toNat)) ∨ (¬ ((0 ≤ p1 ∧ p1 < 4) ∧ (0 ≤ p2 ∧ p2 < 4)) ∧ ab_R (ab_u S 19 5 1) σ') ∨ (((0 ≤ p1 ∧ p1 < 4) ∧ (0 ≤ p2 ∧ p2 < 4)) ∧ ¬ S 18 (4 * p1.toNat + p2.toNat) = 0 ∧ ab_R (ab_u S 19 5 2) σ'))) ([.inr (20, 0), .inl (p1), .inl (p2)].map (am_tv (gR g))).toArray s 0 0 (am_FA (gR g))) (am_FA (gR g)) s.heap 3 31 [some (.inr (20, 0)), some (.inl (p1)), some (.inl (p2))] [.inl (w), .inr (20, 0)] σ := by
    intro w hw
    refine wk_ofI C (wk_runV (index := 124) (ci := 6) (st := []) C (c_X6_goes l g hI _ w (by omega)) (cwV 1 C.2.2.2.2.1 gX6_cut_X6_goes rfl rfl rfl (by decide +kernel) ⟨Nat.le_of_ble_eq_true rfl, Nat.le_of_ble_eq_true rfl⟩) rfl (show 0 < (1:Nat) by decide) rfl rfl rfl (Nat.le_of_ble_eq_true rfl) dX6_cut_31 ⟨Nat.zero_le _, Nat.zero_le _⟩) (fun r31 σ31 hp31 => ?_)
    obtain ⟨rfl, hg31⟩ := hp31
    refine wk_if_ne C 39 (by omega) (by decide) dX6_cut_34 (fun hc34 => ?_) (fun hc34 => ?_)
    · skip
      have hw0 : w = 0 := by omega
      subst hw0
      have hok : ((0 ≤ p1 ∧ p1 < 4) ∧ (0 ≤ p2 ∧ p2 < 4)) ∧ S 18 (4 * p1.toNat + p2.toNat) = 0 := by omega
      have hu := hS.2.2.2.2.2.2.1 (4 * p1.toNat + p2.toNat) (by omega)
      have hRT := R_th hR 0
      have hIT := I_th hS 0
      generalize am_up σ 20 0 35 0 = σt at hRT ⊢
      obtain ⟨a, rfl⟩ : ∃ a : Nat, p1 = (a : Int) := ⟨p1.toNat, by omega⟩
      obtain ⟨c2, rfl⟩ : ∃ c2 : Nat, p2 = (c2 : Int) := ⟨p2.toNat, by omega⟩
      simp only [Int.toNat_natCast] at hok hu ⊢
      refine wk_aload_n C rfl dX6_cut_39 ?_
      refine wk_getr C (k := 20) (ci := 6) (j := 27) (T := TX6) rfl (show 0 < (1:Nat) by decide) rfl in_c_X6_cut_X6 (by decide) (by decide +kernel) rfl dX6_cut_40 ?_
      refine wk_iconst C dX6_cut_43 ?_
      refine wk_iload_n C rfl dX6_cut_44 ?_
      refine wk_imul C dX6_cut_45 ?_
      refine wk_iload_n C rfl dX6_cut_46 ?_
      refine wk_iadd C dX6_cut_47 ?_
      refine wk_iconst C dX6_cut_48 ?_
      refine wk_zast C (k := 47) rfl (show 0 < (1:Nat) by decide) (Nat.le_of_ble_eq_true rfl) ((4 * a + c2)) (by omega) (show _ < (16:Nat) by omega) (Or.inr rfl) dX6_cut_49 ?_
      have hf := R_u hRT (g := 18) (k := 47) (i := 4 * a + c2) (by unfold rk_p; omega) 1
      refine wk_aload_n C rfl dX6_cut_50 ?_
      refine wk_getr C (k := 20) (ci := 6) (j := 19) (T := TX6) rfl (show 0 < (1:Nat) by decide) rfl in_c_X6_cut_X6 (by decide) (by decide +kernel) rfl dX6_cut_51 ?_
      refine wk_iload_n C rfl dX6_cut_54 ?_
      refine wk_iload_n C rfl dX6_cut_55 ?_
      refine wk_ofI C (wk_runS (index := 138) (st := [_]) C (c_X6_north l g hI _ a c2 (by omega) (by omega)) (cwS 2 C.2.2.2.2.1 gX6_cut_X6_north rfl rfl rfl (by decide +kernel) ⟨Nat.le_of_ble_eq_true rfl, Nat.le_of_ble_eq_true rfl⟩) rfl rfl (Nat.le_of_ble_eq_true rfl) dX6_cut_56 ⟨Nat.zero_le _, Nat.zero_le _⟩) (fun r56 σ56 hp56 => ?_)
      obtain ⟨hsg56, rfl⟩ := hp56
      rw [hsg56]
      refine wk_iald C (k := 39) rfl (show 0 < (1:Nat) by decide) (Nat.le_of_ble_eq_true rfl) ((32 + 4 * a + c2)) (by omega) (show _ < (64:Nat) by omega) dX6_cut_59 ?_
      rw [(hf.2.2.2.1 (32 + 4 * a + c2) (by omega)).1, ab_u_app, if_neg (by omega), ab_u_app, if_neg (by omega)]
      refine wk_aload_n C rfl dX6_cut_60 ?_
      refine wk_getr C (k := 20) (ci := 6) (j := 19) (T := TX6) rfl (show 0 < (1:Nat) by decide) rfl in_c_X6_cut_X6 (by decide) (by decide +kernel) rfl dX6_cut_61 ?_
      refine wk_iload_n C rfl dX6_cut_64 ?_
      refine wk_iload_n C rfl dX6_cut_65 ?_
      refine wk_ofI C (wk_runS (index := 142) (st := [_, _]) C (c_X6_south l g hI _ c2 a (by omega) (by omega)) (cwS 2 C.2.2.2.2.1 gX6_cut_X6_south rfl rfl rfl (by decide +kernel) ⟨Nat.le_of_ble_eq_true rfl, Nat.le_of_ble_eq_true rfl⟩) rfl rfl (Nat.le_of_ble_eq_true rfl) dX6_cut_66 ⟨Nat.zero_le _, Nat.zero_le _⟩) (fun r66 σ66 hp66 => ?_)
      obtain ⟨hsg66, rfl⟩ := hp66
      rw [hsg66]
      refine wk_iald C (k := 39) rfl (show 0 < (1:Nat) by decide) (Nat.le_of_ble_eq_true rfl) ((48 + 4 * c2 + a)) (by omega) (show _ < (64:Nat) by omega) dX6_cut_69 ?_
      rw [(hf.2.2.2.1 (48 + 4 * c2 + a) (by omega)).1, ab_u_app, if_neg (by omega), ab_u_app, if_neg (by omega)]
      refine wk_iadd C dX6_cut_70 ?_
      refine wk_iret C hr hlk dX6_cut_71 ?_
      exact Or.inl ⟨hok.1, hok.2, hf, rfl⟩
    · skip
      refine wk_iconst C dX6_cut_37 ?_
      refine wk_iret C hr hlk dX6_cut_38 ?_
      rcases (by omega : (w = 1 ∧ ¬ ((0 ≤ p1 ∧ p1 < 4) ∧ (0 ≤ p2 ∧ p2 < 4))) ∨ (w = 2 ∧ ((0 ≤ p1 ∧ p1 < 4) ∧ (0 ≤ p2 ∧ p2 < 4)) ∧ ¬ S 18 (4 * p1.toNat + p2.toNat) = 0)) with ⟨y, y2⟩ | ⟨y, y2⟩
      · subst y; exact Or.inr (Or.inl ⟨y2, R_th hR _⟩)
      · subst y; exact Or.inr (Or.inr ⟨y2.1, y2.2, R_th hR _⟩)
  refine wk_aload_n C rfl dX6_cut_0 ?_
  refine wk_iload_n C rfl dX6_cut_1 ?_
  refine wk_iload_n C rfl dX6_cut_2 ?_
  refine wk_ofI C (wk_runS (index := 134) (st := [_]) C (c_X6_areFour l g hI _ p1 p2 hp1 hp2) (cwS 2 C.2.2.2.2.1 gX6_cut_X6_areFour rfl rfl rfl (by decide +kernel) ⟨Nat.le_of_ble_eq_true rfl, Nat.le_of_ble_eq_true rfl⟩) rfl rfl (Nat.le_of_ble_eq_true rfl) dX6_cut_3 ⟨Nat.zero_le _, Nat.zero_le _⟩) (fun r3 σ3 hp3 => ?_)
  obtain ⟨hsg3, hr3⟩ := hp3
  rw [hsg3]
  have hb3 : (r3 = 1 ∧ (((0 ≤ p1 ∧ p1 < 4) ∧ (0 ≤ p2 ∧ p2 < 4)))) ∨ (r3 = 0 ∧ ¬ (((0 ≤ p1 ∧ p1 < 4) ∧ (0 ≤ p2 ∧ p2 < 4)))) := by
    rw [hr3]
    split
    · rename_i z; exact Or.inl ⟨rfl, z⟩
    · rename_i z; exact Or.inr ⟨rfl, z⟩
  refine wk_if_ne C 13 (by omega) (by decide) dX6_cut_6 (fun hc6 => ?_) (fun hc6 => ?_)
  · skip
    refine wk_aload_n C rfl dX6_cut_13 ?_
    refine wk_getr C (k := 20) (ci := 6) (j := 27) (T := TX6) rfl (show 0 < (1:Nat) by decide) rfl in_c_X6_cut_X6 (by decide) (by decide +kernel) rfl dX6_cut_14 ?_
    refine wk_iconst C dX6_cut_17 ?_
    refine wk_iload_n C rfl dX6_cut_18 ?_
    refine wk_imul C dX6_cut_19 ?_
    refine wk_iload_n C rfl dX6_cut_20 ?_
    refine wk_iadd C dX6_cut_21 ?_
    refine wk_zald C (k := 47) rfl (show 0 < (1:Nat) by decide) (Nat.le_of_ble_eq_true rfl) ((4 * p1.toNat + p2.toNat)) (by omega) (show _ < (16:Nat) by omega) dX6_cut_22 ?_
    rw [hR.2.2.2.2.2.2 (4 * p1.toNat + p2.toNat) (by omega)]
    have hu := hS.2.2.2.2.2.2.1 (4 * p1.toNat + p2.toNat) (by omega)
    refine wk_if_eq C 30 (by omega) (by decide) dX6_cut_23 (fun hc23 => ?_) (fun hc23 => ?_)
    · skip
      refine wk_iconst C dX6_cut_30 ?_
      exact hj31 _ (by omega)
    · skip
      refine wk_iconst C dX6_cut_26 ?_
      refine wk_goto C 31 (by decide) dX6_cut_27 ?_
      exact hj31 _ (by omega)
  · skip
    refine wk_iconst C dX6_cut_9 ?_
    refine wk_goto C 31 (by decide) dX6_cut_10 ?_
    exact hj31 _ (by omega)

theorem in_c_X6_restore_X6 : ∀ w ∈ u_ws RX6 TX6 36, w ∈ wsX6_restore := by decide +kernel
set_option maxRecDepth 100000 in
set_option maxHeartbeats 4000000 in
/-- restore -/
theorem c_X6_restore (l : Launch) (g : am_g) (hI : am_inj (gR g)) (σ : am_M) (p1 p2 : Int) (hp1 : -2147483648 ≤ p1 ∧ p1 < 2147483648) (hp2 : -2147483648 ≤ p2 ∧ p2 < 2147483648) (S : ab_S) (b : Int) (hR : ab_R S σ) (hS : ab_I S b) : Met l yX6_restore wsX6_restore ({ frames := 2, cells := 0, slots := 0, locals := 43 }) (am_P (gR g) σ [.inr (20, 0), .inl (p1), .inl (p2)]) (am_QI (gR g) (fun r σ' => (((0 ≤ p1 ∧ p1 < 4) ∧ (0 ≤ p2 ∧ p2 < 4)) ∧ ¬ S 18 (4 * p1.toNat + p2.toNat) = 0 ∧ ab_R (ab_u (ab_u S 19 5 0) 18 (4 * p1.toNat + p2.toNat) 0) σ' ∧ r = ab_cuts (ab_u (ab_u S 19 5 0) 18 (4 * p1.toNat + p2.toNat) 0)) ∨ (¬ ((0 ≤ p1 ∧ p1 < 4) ∧ (0 ≤ p2 ∧ p2 < 4)) ∧ ab_R (ab_u S 19 5 1) σ') ∨ (((0 ≤ p1 ∧ p1 < 4) ∧ (0 ≤ p2 ∧ p2 < 4)) ∧ S 18 (4 * p1.toNat + p2.toNat) = 0 ∧ ab_R (ab_u S 19 5 2) σ'))) 0 0 (am_FA (gR g)) := by
  refine wk_start (cc := cX6_restore) (nL := 5) (ret := (some .int)) (own := RX6) (by decide) rfl hI rfl (Nat.le_of_ble_eq_true rfl) ?_
  intro p e s m below meth c C hr hlk
  change wk _ p l e _ s m _ below meth c 0 0 _ _ _ _ 0 [some (.inr (20, 0)), some (.inl (p1)), some (.inl (p2)), none, none] [] σ
  have hj31 : ∀ w : Int, (w = 1 ∧ ¬ ((0 ≤ p1 ∧ p1 < 4) ∧ (0 ≤ p2 ∧ p2 < 4))) ∨ (w = 2 ∧ ((0 ≤ p1 ∧ p1 < 4) ∧ (0 ≤ p2 ∧ p2 < 4)) ∧ S 18 (4 * p1.toNat + p2.toNat) = 0) ∨ (w = 0 ∧ ((0 ≤ p1 ∧ p1 < 4) ∧ (0 ≤ p2 ∧ p2 < 4)) ∧ ¬ S 18 (4 * p1.toNat + p2.toNat) = 0) → wk (gR g) p l e (headSpec wsX6_restore ({ frames := 2, cells := 0, slots := 0, locals := 43 })).room s m ([.inr (20, 0), .inl (p1), .inl (p2)].map (am_tv (gR g))).toArray below meth c 0 0 (MQ below (am_QI (gR g) (fun r σ' => (((0 ≤ p1 ∧ p1 < 4) ∧ (0 ≤ p2 ∧ p2 < 4)) ∧ ¬ S 18 (4 * p1.toNat + p2.toNat) = 0 ∧ ab_R (ab_u (ab_u S 19 5 0) 18 (4 * p1.toNat + p2.toNat) 0) σ' ∧ r = ab_cuts (ab_u (ab_u S 19 5 0) 18 (4 * p1.toNat + p2.toNat) 0)) ∨ (¬ ((0 ≤ p1 ∧ p1 < 4) ∧ (0 ≤ p2 ∧ p2 < 4)) ∧ ab_R (ab_u S 19 5 1) σ') ∨ (((0 ≤ p1 ∧ p1 < 4) ∧ (0 ≤ p2 ∧ p2 < 4)) ∧ S 18 (4 * p1.toNat + p2.toNat) = 0 ∧ ab_R (ab_u S 19 5 2) σ'))) ([.inr (20, 0), .inl (p1), .inl (p2)].map (am_tv (gR g))).toArray s 0 0 (am_FA (gR g))) (am_FA (gR g)) s.heap 5 31 [some (.inr (20, 0)), some (.inl (p1)), some (.inl (p2)), none, none] [.inl (w), .inr (20, 0)] σ := by
    intro w hw
    refine wk_ofI C (wk_runV (index := 124) (ci := 6) (st := []) C (c_X6_goes l g hI _ w (by omega)) (cwV 1 C.2.2.2.2.1 gX6_restore_X6_goes rfl rfl rfl (by decide +kernel) ⟨Nat.le_of_ble_eq_true rfl, Nat.le_of_ble_eq_true rfl⟩) rfl (show 0 < (1:Nat) by decide) rfl rfl rfl (Nat.le_of_ble_eq_true rfl) dX6_restore_31 ⟨Nat.zero_le _, Nat.zero_le _⟩) (fun r31 σ31 hp31 => ?_)
    obtain ⟨rfl, hg31⟩ := hp31
    refine wk_if_ne C 39 (by omega) (by decide) dX6_restore_34 (fun hc34 => ?_) (fun hc34 => ?_)
    · skip
      have hw0 : w = 0 := by omega
      subst hw0
      have hok : ((0 ≤ p1 ∧ p1 < 4) ∧ (0 ≤ p2 ∧ p2 < 4)) ∧ ¬ S 18 (4 * p1.toNat + p2.toNat) = 0 := by omega
      have hu := hS.2.2.2.2.2.2.1 (4 * p1.toNat + p2.toNat) (by omega)
      have hRT := R_th hR 0
      have hIT := I_th hS 0
      generalize am_up σ 20 0 35 0 = σt at hRT ⊢
      obtain ⟨a, rfl⟩ : ∃ a : Nat, p1 = (a : Int) := ⟨p1.toNat, by omega⟩
      obtain ⟨c2, rfl⟩ : ∃ c2 : Nat, p2 = (c2 : Int) := ⟨p2.toNat, by omega⟩
      simp only [Int.toNat_natCast] at hok hu ⊢
      refine wk_aload_n C rfl dX6_restore_39 ?_
      refine wk_getr C (k := 20) (ci := 6) (j := 27) (T := TX6) rfl (show 0 < (1:Nat) by decide) rfl in_c_X6_restore_X6 (by decide) (by decide +kernel) rfl dX6_restore_40 ?_
      refine wk_iconst C dX6_restore_43 ?_
      refine wk_iload_n C rfl dX6_restore_44 ?_
      refine wk_imul C dX6_restore_45 ?_
      refine wk_iload_n C rfl dX6_restore_46 ?_
      refine wk_iadd C dX6_restore_47 ?_
      refine wk_iconst C dX6_restore_48 ?_
      refine wk_zast C (k := 47) rfl (show 0 < (1:Nat) by decide) (Nat.le_of_ble_eq_true rfl) ((4 * a + c2)) (by omega) (show _ < (16:Nat) by omega) (Or.inl rfl) dX6_restore_49 ?_
      have hf := R_u hRT (g := 18) (k := 47) (i := 4 * a + c2) (by unfold rk_p; omega) 0
      have hIf := I_cut hIT (Or.inl rfl : (0 : Int) = 0 ∨ (0 : Int) = 1) (4 * a + c2)
      generalize am_up σt 47 0 (4 * a + c2) 0 = σf at hf ⊢
      refine wk_iconst C dX6_restore_50 ?_
      refine wk_istore_n C (by decide) (Nat.le_of_ble_eq_true rfl) dX6_restore_51 ?_
      refine wk_iconst C dX6_restore_52 ?_
      refine wk_istore C (by decide) (Nat.le_of_ble_eq_true rfl) dX6_restore_53 ?_
      have hl55 : ∀ (d k : Nat), 17 ≤ k + d → k ≤ 16 → wk (gR g) p l e (headSpec wsX6_restore ({ frames := 2, cells := 0, slots := 0, locals := 43 })).room s m ([.inr (20, 0), .inl (((a : Nat) : Int)), .inl (((c2 : Nat) : Int))].map (am_tv (gR g))).toArray below meth c 0 0 (MQ below (am_QI (gR g) (fun r σ' => (((0 ≤ ((a : Nat) : Int) ∧ ((a : Nat) : Int) < 4) ∧ (0 ≤ ((c2 : Nat) : Int) ∧ ((c2 : Nat) : Int) < 4)) ∧ ¬ S 18 (4 * a + c2) = 0 ∧ ab_R (ab_u (ab_u S 19 5 0) 18 (4 * a + c2) 0) σ' ∧ r = ab_cuts (ab_u (ab_u S 19 5 0) 18 (4 * a + c2) 0)) ∨ (¬ ((0 ≤ ((a : Nat) : Int) ∧ ((a : Nat) : Int) < 4) ∧ (0 ≤ ((c2 : Nat) : Int) ∧ ((c2 : Nat) : Int) < 4)) ∧ ab_R (ab_u S 19 5 1) σ') ∨ (((0 ≤ ((a : Nat) : Int) ∧ ((a : Nat) : Int) < 4) ∧ (0 ≤ ((c2 : Nat) : Int) ∧ ((c2 : Nat) : Int) < 4)) ∧ S 18 (4 * a + c2) = 0 ∧ ab_R (ab_u S 19 5 2) σ'))) ([.inr (20, 0), .inl (((a : Nat) : Int)), .inl (((c2 : Nat) : Int))].map (am_tv (gR g))).toArray s 0 0 (am_FA (gR g))) (am_FA (gR g)) s.heap 5 55 [some (.inr (20, 0)), some (.inl ((a : Nat) : Int)), some (.inl ((c2 : Nat) : Int)), some (.inl (am_sum (fun q => (ab_u (ab_u S 19 5 0) 18 (4 * a + c2) 0) 18 q) k)), some (.inl ((k : Nat) : Int))] [] σf := by
        intro d
        induction d with
        | zero => intro k h1 h2; omega
        | succ d ih =>
          intro k h1 h2
          refine wk_iload C rfl dX6_restore_55 ?_
          refine wk_bipush C (n := 16) (by decide) dX6_restore_57 ?_
          refine wk_icmp_ge C 86 (by omega) (by omega) (by decide) dX6_restore_59 (fun hc59 => ?_) (fun hc59 => ?_)
          · skip
            refine wk_iload_n C rfl dX6_restore_86 ?_
            refine wk_iret C hr hlk dX6_restore_87 ?_
            have h4 : k = 16 := by omega
            subst h4
            exact Or.inl ⟨hok.1, hok.2, hf, rfl⟩
          · skip
            refine wk_iload_n C rfl dX6_restore_62 ?_
            refine wk_aload_n C rfl dX6_restore_63 ?_
            refine wk_getr C (k := 20) (ci := 6) (j := 27) (T := TX6) rfl (show 0 < (1:Nat) by decide) rfl in_c_X6_restore_X6 (by decide) (by decide +kernel) rfl dX6_restore_64 ?_
            refine wk_iload C rfl dX6_restore_67 ?_
            refine wk_zald C (k := 47) rfl (show 0 < (1:Nat) by decide) (Nat.le_of_ble_eq_true rfl) (k) (by omega) (show _ < (16:Nat) by omega) dX6_restore_69 ?_
            rw [hf.2.2.2.2.2.2 k (by omega)]
            have hk := hIf.2.2.2.2.2.2.1 k (by omega)
            refine wk_if_eq C 77 (by omega) (by decide) dX6_restore_70 (fun hc70 => ?_) (fun hc70 => ?_)
            · skip
              have hs : (0 : Int) = (ab_u (ab_u S 19 5 0) 18 (4 * a + c2) 0) 18 k := by omega
              refine wk_iconst C dX6_restore_77 ?_
              refine wk_iadd C dX6_restore_78 ?_
              refine wk_istore_n C (by decide) (Nat.le_of_ble_eq_true rfl) dX6_restore_79 ?_
              refine wk_iinc C rfl (by decide) dX6_restore_80 ?_
              refine wk_goto C 55 (by decide) dX6_restore_83 ?_
              have hst := ih (k + 1) (by omega) (by omega)
              simp only [am_sum] at hst
              rw [← hs] at hst
              exact hst
            · skip
              have hs : (1 : Int) = (ab_u (ab_u S 19 5 0) 18 (4 * a + c2) 0) 18 k := by omega
              refine wk_iconst C dX6_restore_73 ?_
              refine wk_goto C 78 (by decide) dX6_restore_74 ?_
              refine wk_iadd C dX6_restore_78 ?_
              refine wk_istore_n C (by decide) (Nat.le_of_ble_eq_true rfl) dX6_restore_79 ?_
              refine wk_iinc C rfl (by decide) dX6_restore_80 ?_
              refine wk_goto C 55 (by decide) dX6_restore_83 ?_
              have hst := ih (k + 1) (by omega) (by omega)
              simp only [am_sum] at hst
              rw [← hs] at hst
              exact hst
      exact hl55 17 0 (by omega) (by omega)
    · skip
      refine wk_iconst C dX6_restore_37 ?_
      refine wk_iret C hr hlk dX6_restore_38 ?_
      rcases (by omega : (w = 1 ∧ ¬ ((0 ≤ p1 ∧ p1 < 4) ∧ (0 ≤ p2 ∧ p2 < 4))) ∨ (w = 2 ∧ ((0 ≤ p1 ∧ p1 < 4) ∧ (0 ≤ p2 ∧ p2 < 4)) ∧ S 18 (4 * p1.toNat + p2.toNat) = 0)) with ⟨y, y2⟩ | ⟨y, y2⟩
      · subst y; exact Or.inr (Or.inl ⟨y2, R_th hR _⟩)
      · subst y; exact Or.inr (Or.inr ⟨y2.1, y2.2, R_th hR _⟩)
  refine wk_aload_n C rfl dX6_restore_0 ?_
  refine wk_iload_n C rfl dX6_restore_1 ?_
  refine wk_iload_n C rfl dX6_restore_2 ?_
  refine wk_ofI C (wk_runS (index := 134) (st := [_]) C (c_X6_areFour l g hI _ p1 p2 hp1 hp2) (cwS 2 C.2.2.2.2.1 gX6_restore_X6_areFour rfl rfl rfl (by decide +kernel) ⟨Nat.le_of_ble_eq_true rfl, Nat.le_of_ble_eq_true rfl⟩) rfl rfl (Nat.le_of_ble_eq_true rfl) dX6_restore_3 ⟨Nat.zero_le _, Nat.zero_le _⟩) (fun r3 σ3 hp3 => ?_)
  obtain ⟨hsg3, hr3⟩ := hp3
  rw [hsg3]
  have hb3 : (r3 = 1 ∧ (((0 ≤ p1 ∧ p1 < 4) ∧ (0 ≤ p2 ∧ p2 < 4)))) ∨ (r3 = 0 ∧ ¬ (((0 ≤ p1 ∧ p1 < 4) ∧ (0 ≤ p2 ∧ p2 < 4)))) := by
    rw [hr3]
    split
    · rename_i z; exact Or.inl ⟨rfl, z⟩
    · rename_i z; exact Or.inr ⟨rfl, z⟩
  refine wk_if_ne C 13 (by omega) (by decide) dX6_restore_6 (fun hc6 => ?_) (fun hc6 => ?_)
  · skip
    refine wk_aload_n C rfl dX6_restore_13 ?_
    refine wk_getr C (k := 20) (ci := 6) (j := 27) (T := TX6) rfl (show 0 < (1:Nat) by decide) rfl in_c_X6_restore_X6 (by decide) (by decide +kernel) rfl dX6_restore_14 ?_
    refine wk_iconst C dX6_restore_17 ?_
    refine wk_iload_n C rfl dX6_restore_18 ?_
    refine wk_imul C dX6_restore_19 ?_
    refine wk_iload_n C rfl dX6_restore_20 ?_
    refine wk_iadd C dX6_restore_21 ?_
    refine wk_zald C (k := 47) rfl (show 0 < (1:Nat) by decide) (Nat.le_of_ble_eq_true rfl) ((4 * p1.toNat + p2.toNat)) (by omega) (show _ < (16:Nat) by omega) dX6_restore_22 ?_
    rw [hR.2.2.2.2.2.2 (4 * p1.toNat + p2.toNat) (by omega)]
    have hu := hS.2.2.2.2.2.2.1 (4 * p1.toNat + p2.toNat) (by omega)
    refine wk_if_eq C 30 (by omega) (by decide) dX6_restore_23 (fun hc23 => ?_) (fun hc23 => ?_)
    · skip
      refine wk_iconst C dX6_restore_30 ?_
      exact hj31 _ (by omega)
    · skip
      refine wk_iconst C dX6_restore_26 ?_
      refine wk_goto C 31 (by decide) dX6_restore_27 ?_
      exact hj31 _ (by omega)
  · skip
    refine wk_iconst C dX6_restore_9 ?_
    refine wk_goto C 31 (by decide) dX6_restore_10 ?_
    exact hj31 _ (by omega)

theorem in_c_X6_pass_X6 : ∀ w ∈ u_ws RX6 TX6 36, w ∈ wsX6_pass := by decide +kernel
set_option maxRecDepth 100000 in
set_option maxHeartbeats 4000000 in
/-- pass -/
theorem c_X6_pass (l : Launch) (g : am_g) (hI : am_inj (gR g)) (σ : am_M) (p1 : Int) (hp1 : -2147483648 ≤ p1 ∧ p1 < 2147483648) (S : ab_S) (b : Int) (hR : ab_R S σ) (hS : ab_I S b) (hb : b + 9600 ≤ 100000000) : Met l yX6_pass wsX6_pass ({ frames := 5, cells := 0, slots := 0, locals := 117 }) (am_P (gR g) σ [.inr (20, 0), .inl (p1)]) (am_QI (gR g) (fun r σ' => ((1 ≤ p1 ∧ p1 ≤ 200) ∧ S 19 3 + p1 ≤ 100000 ∧ ab_R (ab_pass (ab_u S 19 5 0) p1.toNat) σ' ∧ r = ab_passC (ab_u S 19 5 0) p1.toNat) ∨ (¬ (1 ≤ p1 ∧ p1 ≤ 200) ∧ ab_R (ab_u S 19 5 1) σ') ∨ ((1 ≤ p1 ∧ p1 ≤ 200) ∧ ¬ S 19 3 + p1 ≤ 100000 ∧ ab_R (ab_u S 19 5 2) σ'))) 0 0 (am_FA (gR g)) := by
  refine wk_start (cc := cX6_pass) (nL := 4) (ret := (some .int)) (own := RX6) (by decide) rfl hI rfl (Nat.le_of_ble_eq_true rfl) ?_
  intro p e s m below meth c C hr hlk
  change wk _ p l e _ s m _ below meth c 0 0 _ _ _ _ 0 [some (.inr (20, 0)), some (.inl (p1)), none, none] [] σ
  have hc0 := hS.2.1.2.2.2.1
  have hj32 : ∀ w : Int, (w = 1 ∧ ¬ (1 ≤ p1 ∧ p1 ≤ 200)) ∨ (w = 2 ∧ (1 ≤ p1 ∧ p1 ≤ 200) ∧ ¬ S 19 3 + p1 ≤ 100000) ∨ (w = 0 ∧ (1 ≤ p1 ∧ p1 ≤ 200) ∧ S 19 3 + p1 ≤ 100000) → wk (gR g) p l e (headSpec wsX6_pass ({ frames := 5, cells := 0, slots := 0, locals := 117 })).room s m ([.inr (20, 0), .inl (p1)].map (am_tv (gR g))).toArray below meth c 0 0 (MQ below (am_QI (gR g) (fun r σ' => ((1 ≤ p1 ∧ p1 ≤ 200) ∧ S 19 3 + p1 ≤ 100000 ∧ ab_R (ab_pass (ab_u S 19 5 0) p1.toNat) σ' ∧ r = ab_passC (ab_u S 19 5 0) p1.toNat) ∨ (¬ (1 ≤ p1 ∧ p1 ≤ 200) ∧ ab_R (ab_u S 19 5 1) σ') ∨ ((1 ≤ p1 ∧ p1 ≤ 200) ∧ ¬ S 19 3 + p1 ≤ 100000 ∧ ab_R (ab_u S 19 5 2) σ'))) ([.inr (20, 0), .inl (p1)].map (am_tv (gR g))).toArray s 0 0 (am_FA (gR g))) (am_FA (gR g)) s.heap 4 32 [some (.inr (20, 0)), some (.inl (p1)), none, none] [.inl (w), .inr (20, 0)] σ := by
    intro w hw
    refine wk_ofI C (wk_runV (index := 124) (ci := 6) (st := []) C (c_X6_goes l g hI _ w (by omega)) (cwV 1 C.2.2.2.2.1 gX6_pass_X6_goes rfl rfl rfl (by decide +kernel) ⟨Nat.le_of_ble_eq_true rfl, Nat.le_of_ble_eq_true rfl⟩) rfl (show 0 < (1:Nat) by decide) rfl rfl rfl (Nat.le_of_ble_eq_true rfl) dX6_pass_32 ⟨Nat.zero_le _, Nat.zero_le _⟩) (fun r32 σ32 hp32 => ?_)
    obtain ⟨rfl, hg32⟩ := hp32
    refine wk_if_ne C 40 (by omega) (by decide) dX6_pass_35 (fun hc35 => ?_) (fun hc35 => ?_)
    · skip
      have hw0 : w = 0 := by omega
      subst hw0
      have hok : (1 ≤ p1 ∧ p1 ≤ 200) ∧ S 19 3 + p1 ≤ 100000 := by omega
      have hRT := R_th hR 0
      have hIT := I_th hS 0
      have t3 : ab_u S 19 5 0 19 3 = S 19 3 := th_o S 0 (by omega)
      generalize am_up σ 20 0 35 0 = σt at hRT ⊢
      obtain ⟨n, rfl⟩ : ∃ n : Nat, p1 = (n : Int) := ⟨p1.toNat, by omega⟩
      simp only [Int.toNat_natCast]
      refine wk_iconst C dX6_pass_40 ?_
      refine wk_istore_n C (by decide) (Nat.le_of_ble_eq_true rfl) dX6_pass_41 ?_
      refine wk_iconst C dX6_pass_42 ?_
      refine wk_istore_n C (by decide) (Nat.le_of_ble_eq_true rfl) dX6_pass_43 ?_
      have hl44 : ∀ (d k : Nat) (σ1 : am_M), n + 1 ≤ k + d → k ≤ n → ab_R (ab_pass (ab_u S 19 5 0) k) σ1 → wk (gR g) p l e (headSpec wsX6_pass ({ frames := 5, cells := 0, slots := 0, locals := 117 })).room s m ([.inr (20, 0), .inl (((n : Nat) : Int))].map (am_tv (gR g))).toArray below meth c 0 0 (MQ below (am_QI (gR g) (fun r σ' => ((1 ≤ ((n : Nat) : Int) ∧ ((n : Nat) : Int) ≤ 200) ∧ S 19 3 + ((n : Nat) : Int) ≤ 100000 ∧ ab_R (ab_pass (ab_u S 19 5 0) n) σ' ∧ r = ab_passC (ab_u S 19 5 0) n) ∨ (¬ (1 ≤ ((n : Nat) : Int) ∧ ((n : Nat) : Int) ≤ 200) ∧ ab_R (ab_u S 19 5 1) σ') ∨ ((1 ≤ ((n : Nat) : Int) ∧ ((n : Nat) : Int) ≤ 200) ∧ ¬ S 19 3 + ((n : Nat) : Int) ≤ 100000 ∧ ab_R (ab_u S 19 5 2) σ'))) ([.inr (20, 0), .inl (((n : Nat) : Int))].map (am_tv (gR g))).toArray s 0 0 (am_FA (gR g))) (am_FA (gR g)) s.heap 4 44 [some (.inr (20, 0)), some (.inl ((n : Nat) : Int)), some (.inl (ab_passC (ab_u S 19 5 0) k)), some (.inl ((k : Nat) : Int))] [] σ1 := by
        intro d
        induction d with
        | zero => intro k σ1 h1 h2 h3; omega
        | succ d ih =>
          intro k σ1 h1 h2 h3
          refine wk_iload_n C rfl dX6_pass_44 ?_
          refine wk_iload_n C rfl dX6_pass_45 ?_
          refine wk_icmp_ge C 62 (by omega) (by omega) (by decide) dX6_pass_46 (fun hc46 => ?_) (fun hc46 => ?_)
          · skip
            refine wk_iload_n C rfl dX6_pass_62 ?_
            refine wk_iret C hr hlk dX6_pass_63 ?_
            have h4 : k = n := by omega
            subst h4
            exact Or.inl ⟨by omega, by omega, h3, rfl⟩
          · skip
            refine wk_iload_n C rfl dX6_pass_49 ?_
            refine wk_aload_n C rfl dX6_pass_50 ?_
            refine wk_ofI C (wk_runV (index := 209) (ci := 6) (st := [_]) C (c_X6_ticks l g hI _ (ab_pass (ab_u S 19 5 0) k) (b + 48 * k) h3 (I_pass hIT k (by omega) (by omega)) (by omega) (by rw [(pass_193 _ k).1]; omega)) (cwV 0 C.2.2.2.2.1 gX6_pass_X6_ticks rfl rfl rfl (by decide +kernel) ⟨Nat.le_of_ble_eq_true rfl, Nat.le_of_ble_eq_true rfl⟩) rfl (show 0 < (1:Nat) by decide) rfl rfl rfl (Nat.le_of_ble_eq_true rfl) dX6_pass_51 ⟨Nat.zero_le _, Nat.zero_le _⟩) (fun r51 σ51 hp51 => ?_)
            obtain ⟨hR51, rfl⟩ := hp51
            refine wk_iadd C dX6_pass_54 ?_
            refine wk_istore_n C (by decide) (Nat.le_of_ble_eq_true rfl) dX6_pass_55 ?_
            refine wk_iinc C rfl (by decide) dX6_pass_56 ?_
            refine wk_goto C 44 (by decide) dX6_pass_59 ?_
            exact ih (k + 1) _ (by omega) (by omega) hR51
      exact hl44 (n + 1) 0 _ (by omega) (by omega) hRT
    · skip
      refine wk_iconst C dX6_pass_38 ?_
      refine wk_iret C hr hlk dX6_pass_39 ?_
      rcases (by omega : (w = 1 ∧ ¬ (1 ≤ p1 ∧ p1 ≤ 200)) ∨ (w = 2 ∧ (1 ≤ p1 ∧ p1 ≤ 200) ∧ ¬ S 19 3 + p1 ≤ 100000)) with ⟨y, y2⟩ | ⟨y, y2⟩
      · subst y; exact Or.inr (Or.inl ⟨y2, R_th hR _⟩)
      · subst y; exact Or.inr (Or.inr ⟨y2.1, y2.2, R_th hR _⟩)
  refine wk_aload_n C rfl dX6_pass_0 ?_
  refine wk_iload_n C rfl dX6_pass_1 ?_
  refine wk_iconst C dX6_pass_2 ?_
  refine wk_sipush C (n := 200) (by decide) dX6_pass_3 ?_
  refine wk_ofI C (wk_runS (index := 114) (st := [_]) C (c_X6_isIn l g hI _ p1 1 200 (by omega) (by omega) (by omega)) (cwS 3 C.2.2.2.2.1 gX6_pass_X6_isIn rfl rfl rfl (by decide +kernel) ⟨Nat.le_of_ble_eq_true rfl, Nat.le_of_ble_eq_true rfl⟩) rfl rfl (Nat.le_of_ble_eq_true rfl) dX6_pass_6 ⟨Nat.zero_le _, Nat.zero_le _⟩) (fun r6 σ6 hp6 => ?_)
  obtain ⟨hsg6, hr6⟩ := hp6
  rw [hsg6]
  have hb6 : (r6 = 1 ∧ (1 ≤ p1 ∧ p1 ≤ 200)) ∨ (r6 = 0 ∧ ¬ (1 ≤ p1 ∧ p1 ≤ 200)) := by
    rw [hr6]
    split
    · rename_i z; exact Or.inl ⟨rfl, z⟩
    · rename_i z; exact Or.inr ⟨rfl, z⟩
  refine wk_if_ne C 16 (by omega) (by decide) dX6_pass_9 (fun hc9 => ?_) (fun hc9 => ?_)
  · skip
    refine wk_aload_n C rfl dX6_pass_16 ?_
    refine wk_geti C (k := 20) (ci := 6) (j := 3) (T := TX6) rfl (show 0 < (1:Nat) by decide) rfl in_c_X6_pass_X6 (by decide) (by decide +kernel) rfl dX6_pass_17 ?_
    rw [hR.1.2.1]
    refine wk_iload_n C rfl dX6_pass_20 ?_
    refine wk_iadd C dX6_pass_21 ?_
    refine wk_ldc C (index := 208) (n := 100000) rfl (C.2.2.2.2.1 (.constant RX6 208 (100000)) (by decide +kernel)) dX6_pass_22 ?_
    refine wk_icmp_le C 31 (by omega) (by omega) (by decide) dX6_pass_24 (fun hc24 => ?_) (fun hc24 => ?_)
    · skip
      refine wk_iconst C dX6_pass_31 ?_
      exact hj32 _ (by omega)
    · skip
      refine wk_iconst C dX6_pass_27 ?_
      refine wk_goto C 32 (by decide) dX6_pass_28 ?_
      exact hj32 _ (by omega)
  · skip
    refine wk_iconst C dX6_pass_12 ?_
    refine wk_goto C 32 (by decide) dX6_pass_13 ?_
    exact hj32 _ (by omega)

theorem in_c_X6_toSend_X6 : ∀ w ∈ u_ws RX6 TX6 36, w ∈ wsX6_toSend := by decide +kernel
set_option maxRecDepth 100000 in
set_option maxHeartbeats 4000000 in
theorem c_X6_toSend (l : Launch) (g : am_g) (hI : am_inj (gR g)) (σ : am_M) (f : Nat) (S : ab_S) (b : Int) (hR : ab_R S σ) (hS : ab_I S b) (hf : (f : Int) < S 19 4) : Met l yX6_toSend wsX6_toSend ({ frames := 0, cells := 0, slots := 0, locals := 0 }) (am_P (gR g) σ [.inr (20, 0), .inl ((f : Nat) : Int)]) (am_QI (gR g) (fun r σ' => σ' = σ ∧ r = ab_tos S f)) 0 0 (am_FA (gR g)) := by
  refine wk_start (cc := cX6_toSend) (nL := 2) (ret := (some .int)) (own := RX6) (by decide) rfl hI rfl (Nat.le_of_ble_eq_true rfl) ?_
  intro p e s m below meth c C hr hlk
  change wk _ p l e _ s m _ below meth c 0 0 _ _ _ _ 0 [some (.inr (20, 0)), some (.inl ((f : Nat) : Int))] [] σ
  have hn24 := hS.2.1.2.2.2.2
  have hcf : ∀ j, j < 13 → σ (25 + j) 0 f = S j f := fun j hj => hR.2.1 f j hf hj
  have q2 : σ 27 0 f = S 2 f := hcf 2 (by omega)
  have q4 : σ 29 0 f = S 4 f := hcf 4 (by omega)
  have q6 : σ 31 0 f = S 6 f := hcf 6 (by omega)
  refine wk_aload_n C rfl dX6_toSend_0 ?_
  refine wk_getr C (k := 20) (ci := 6) (j := 7) (T := TX6) rfl (show 0 < (1:Nat) by decide) rfl in_c_X6_toSend_X6 (by decide) (by decide +kernel) rfl dX6_toSend_1 ?_
  refine wk_iload_n C rfl dX6_toSend_4 ?_
  refine wk_iald C (k := 27) rfl (show 0 < (1:Nat) by decide) (Nat.le_of_ble_eq_true rfl) (f) (by omega) (show _ < (24:Nat) by omega) dX6_toSend_5 ?_
  rw [q2]
  refine wk_aload_n C rfl dX6_toSend_6 ?_
  refine wk_getr C (k := 20) (ci := 6) (j := 9) (T := TX6) rfl (show 0 < (1:Nat) by decide) rfl in_c_X6_toSend_X6 (by decide) (by decide +kernel) rfl dX6_toSend_7 ?_
  refine wk_iload_n C rfl dX6_toSend_10 ?_
  refine wk_iald C (k := 29) rfl (show 0 < (1:Nat) by decide) (Nat.le_of_ble_eq_true rfl) (f) (by omega) (show _ < (24:Nat) by omega) dX6_toSend_11 ?_
  rw [q4]
  refine wk_isub C dX6_toSend_12 ?_
  refine wk_aload_n C rfl dX6_toSend_13 ?_
  refine wk_getr C (k := 20) (ci := 6) (j := 11) (T := TX6) rfl (show 0 < (1:Nat) by decide) rfl in_c_X6_toSend_X6 (by decide) (by decide +kernel) rfl dX6_toSend_14 ?_
  refine wk_iload_n C rfl dX6_toSend_17 ?_
  refine wk_iald C (k := 31) rfl (show 0 < (1:Nat) by decide) (Nat.le_of_ble_eq_true rfl) (f) (by omega) (show _ < (24:Nat) by omega) dX6_toSend_18 ?_
  rw [q6]
  refine wk_iadd C dX6_toSend_19 ?_
  refine wk_iret C hr hlk dX6_toSend_20 ?_
  exact ⟨rfl, by unfold ab_tos; omega⟩

theorem in_c_X6_sum_X6 : ∀ w ∈ u_ws RX6 TX6 36, w ∈ wsX6_sum := by decide +kernel
set_option maxRecDepth 100000 in
set_option maxHeartbeats 4000000 in
/-- sum -/
theorem c_X6_sum (l : Launch) (g : am_g) (hI : am_inj (gR g)) (σ : am_M) (wt wh : Nat) (hwt : wt < 4) (hwh : wh < 16) (S : ab_S) (b : Int) (hR : ab_R S σ) (hS : ab_I S b) : Met l yX6_sum wsX6_sum ({ frames := 1, cells := 0, slots := 0, locals := 21 }) (am_P (gR g) σ [.inr (20, 0), .inl ((wt : Nat) : Int), .inl ((wh : Nat) : Int)]) (am_QI (gR g) (fun r σ' => σ' = σ ∧ r = ab_ts S wt wh (ab_n S))) 0 0 (am_FA (gR g)) := by
  refine wk_start (cc := cX6_sum) (nL := 7) (ret := (some .int)) (own := RX6) (by decide) rfl hI rfl (Nat.le_of_ble_eq_true rfl) ?_
  intro p e s m below meth c C hr hlk
  change wk _ p l e _ s m _ below meth c 0 0 _ _ _ _ 0 [some (.inr (20, 0)), some (.inl ((wt : Nat) : Int)), some (.inl ((wh : Nat) : Int)), none, none, none, none] [] σ
  have hn24 := hS.2.1.2.2.2.2
  obtain ⟨n, hn⟩ : ∃ n : Nat, n = ab_n S := ⟨_, rfl⟩
  have hn4 : S 19 4 = ((n : Nat) : Int) := by unfold ab_n at hn; omega
  refine wk_iconst C dX6_sum_0 ?_
  refine wk_istore_n C (by decide) (Nat.le_of_ble_eq_true rfl) dX6_sum_1 ?_
  refine wk_iconst C dX6_sum_2 ?_
  refine wk_istore C (by decide) (Nat.le_of_ble_eq_true rfl) dX6_sum_3 ?_
  have hl5 : ∀ (d i : Nat), n + 1 ≤ i + d → i ≤ n → wk (gR g) p l e (headSpec wsX6_sum ({ frames := 1, cells := 0, slots := 0, locals := 21 })).room s m ([.inr (20, 0), .inl ((wt : Nat) : Int), .inl ((wh : Nat) : Int)].map (am_tv (gR g))).toArray below meth c 0 0 (MQ below (am_QI (gR g) (fun r σ' => σ' = σ ∧ r = ab_ts S wt wh (ab_n S))) ([.inr (20, 0), .inl ((wt : Nat) : Int), .inl ((wh : Nat) : Int)].map (am_tv (gR g))).toArray s 0 0 (am_FA (gR g))) (am_FA (gR g)) s.heap 7 5 [some (.inr (20, 0)), some (.inl ((wt : Nat) : Int)), some (.inl ((wh : Nat) : Int)), some (.inl (ab_ts S wt wh i)), some (.inl ((i : Nat) : Int)), none, none] [] σ := by
    intro d
    induction d with
    | zero => intro i h1 h2; omega
    | succ d ih =>
      intro i h1 h2
      refine wk_iload C rfl dX6_sum_5 ?_
      refine wk_aload_n C rfl dX6_sum_7 ?_
      refine wk_geti C (k := 20) (ci := 6) (j := 4) (T := TX6) rfl (show 0 < (1:Nat) by decide) rfl in_c_X6_sum_X6 (by decide) (by decide +kernel) rfl dX6_sum_8 ?_
      rw [hR.1.1, hn4]
      refine wk_icmp_ge C 106 (by omega) (by omega) (by decide) dX6_sum_11 (fun hc11 => ?_) (fun hc11 => ?_)
      · skip
        refine wk_iload_n C rfl dX6_sum_106 ?_
        refine wk_iret C hr hlk dX6_sum_107 ?_
        have h4 : i = ab_n S := by omega
        exact ⟨rfl, by rw [h4]⟩
      · skip
        have hin : (i : Int) < S 19 4 := by omega
        have hif := hS.2.2.1 i hin
        have i0 := hif.1
        have i1 := hif.2.1
        have q0 : σ 25 0 i = S 0 i := hR.2.1 i 0 hin (by omega)
        have q1 : σ 26 0 i = S 1 i := hR.2.1 i 1 hin (by omega)
        have hj37 : ∀ e5 : Int, e5 = (if wt % 2 = 0 then S 0 i else S 1 i) → wk (gR g) p l e (headSpec wsX6_sum ({ frames := 1, cells := 0, slots := 0, locals := 21 })).room s m ([.inr (20, 0), .inl ((wt : Nat) : Int), .inl ((wh : Nat) : Int)].map (am_tv (gR g))).toArray below meth c 0 0 (MQ below (am_QI (gR g) (fun r σ' => σ' = σ ∧ r = ab_ts S wt wh (ab_n S))) ([.inr (20, 0), .inl ((wt : Nat) : Int), .inl ((wh : Nat) : Int)].map (am_tv (gR g))).toArray s 0 0 (am_FA (gR g))) (am_FA (gR g)) s.heap 7 37 [some (.inr (20, 0)), some (.inl ((wt : Nat) : Int)), some (.inl ((wh : Nat) : Int)), some (.inl (ab_ts S wt wh i)), some (.inl ((i : Nat) : Int)), none, none] [.inl (e5)] σ := by
          intro e5 he5
          have he6 : 0 ≤ e5 ∧ e5 < 16 := by
            rw [he5]
            split <;> omega
          refine wk_istore C (by decide) (Nat.le_of_ble_eq_true rfl) dX6_sum_37 ?_
          have hj80 : ∀ v : Int, (v = 1 ∧ ab_P S wt wh i = true) ∨ (v = 0 ∧ ab_P S wt wh i = false) → wk (gR g) p l e (headSpec wsX6_sum ({ frames := 1, cells := 0, slots := 0, locals := 21 })).room s m ([.inr (20, 0), .inl ((wt : Nat) : Int), .inl ((wh : Nat) : Int)].map (am_tv (gR g))).toArray below meth c 0 0 (MQ below (am_QI (gR g) (fun r σ' => σ' = σ ∧ r = ab_ts S wt wh (ab_n S))) ([.inr (20, 0), .inl ((wt : Nat) : Int), .inl ((wh : Nat) : Int)].map (am_tv (gR g))).toArray s 0 0 (am_FA (gR g))) (am_FA (gR g)) s.heap 7 80 [some (.inr (20, 0)), some (.inl ((wt : Nat) : Int)), some (.inl ((wh : Nat) : Int)), some (.inl (ab_ts S wt wh i)), some (.inl ((i : Nat) : Int)), some (.inl (e5)), none] [.inl (v)] σ := by
            intro v hv
            have hv01 : v = 0 ∨ v = 1 := by rcases hv with ⟨y, -⟩ | ⟨y, -⟩ <;> omega
            refine wk_istore C (by decide) (Nat.le_of_ble_eq_true rfl) dX6_sum_80 ?_
            refine wk_iload_n C rfl dX6_sum_82 ?_
            refine wk_iload C rfl dX6_sum_83 ?_
            refine wk_if_eq C 97 (by omega) (by decide) dX6_sum_85 (fun hc85 => ?_) (fun hc85 => ?_)
            · skip
              have hts : ab_ts S wt wh i + 0 = ab_ts S wt wh (i + 1) := by
                rcases hv with ⟨y, y2⟩ | ⟨y, y2⟩
                · omega
                · rw [← ts_n y2]; omega
              refine wk_iconst C dX6_sum_97 ?_
              refine wk_iadd C dX6_sum_98 ?_
              refine wk_istore_n C (by decide) (Nat.le_of_ble_eq_true rfl) dX6_sum_99 ?_
              refine wk_iinc C rfl (by decide) dX6_sum_100 ?_
              refine wk_goto C 5 (by decide) dX6_sum_103 ?_
              have hst := ih (i + 1) (by omega) (by omega)
              rw [← hts] at hst
              refine wk_le ?_ hst
              repeat (first | exact le_0 | refine le_s ?_ | refine le_n ?_)
            · skip
              have hts : ab_ts S wt wh i + ab_tos S i = ab_ts S wt wh (i + 1) := by
                rcases hv with ⟨y, y2⟩ | ⟨y, y2⟩
                · exact ts_y y2
                · omega
              refine wk_aload_n C rfl dX6_sum_88 ?_
              refine wk_iload C rfl dX6_sum_89 ?_
              refine wk_ofI C (wk_runV (index := 218) (ci := 6) (st := [_]) C (c_X6_toSend l g hI _ i S b hR hS hin) (cwV 1 C.2.2.2.2.1 gX6_sum_X6_toSend rfl rfl rfl (by decide +kernel) ⟨Nat.le_of_ble_eq_true rfl, Nat.le_of_ble_eq_true rfl⟩) rfl (show 0 < (1:Nat) by decide) rfl rfl rfl (Nat.le_of_ble_eq_true rfl) dX6_sum_91 ⟨Nat.zero_le _, Nat.zero_le _⟩) (fun r91 σ91 hp91 => ?_)
              obtain ⟨hsg91, rfl⟩ := hp91
              rw [hsg91]
              refine wk_goto C 98 (by decide) dX6_sum_94 ?_
              refine wk_iadd C dX6_sum_98 ?_
              refine wk_istore_n C (by decide) (Nat.le_of_ble_eq_true rfl) dX6_sum_99 ?_
              refine wk_iinc C rfl (by decide) dX6_sum_100 ?_
              refine wk_goto C 5 (by decide) dX6_sum_103 ?_
              have hst := ih (i + 1) (by omega) (by omega)
              rw [← hts] at hst
              refine wk_le ?_ hst
              repeat (first | exact le_0 | refine le_s ?_ | refine le_n ?_)
          refine wk_iload_n C rfl dX6_sum_39 ?_
          refine wk_iconst C dX6_sum_40 ?_
          refine wk_icmp_ge C 58 (by omega) (by omega) (by decide) dX6_sum_41 (fun hc41 => ?_) (fun hc41 => ?_)
          · skip
            refine wk_aload_n C rfl dX6_sum_58 ?_
            refine wk_iload C rfl dX6_sum_59 ?_
            refine wk_ofI C (wk_runV (index := 162) (ci := 6) (st := []) C (c_X6_isFar l g hI _ i S b (Rv_of hR) hS hin) (cwV 1 C.2.2.2.2.1 gX6_sum_X6_isFar rfl rfl rfl (by decide +kernel) ⟨Nat.le_of_ble_eq_true rfl, Nat.le_of_ble_eq_true rfl⟩) rfl (show 0 < (1:Nat) by decide) rfl rfl rfl (Nat.le_of_ble_eq_true rfl) dX6_sum_61 ⟨Nat.zero_le _, Nat.zero_le _⟩) (fun r61 σ61 hp61 => ?_)
            obtain ⟨hsg61, rfl⟩ := hp61
            rw [hsg61]
            have h1r := ab_1r (ab_far S i)
            refine wk_if_eq C 79 (by omega) (by decide) dX6_sum_64 (fun hc64 => ?_) (fun hc64 => ?_)
            · skip
              have hfar : ab_far S i = false := by
                cases hz : ab_far S i
                · rfl
                · rw [hz, ab_1t] at hc64; omega
              have h80 : ((0 : Int) = 1 ∧ ab_P S wt wh i = true) ∨ ((0 : Int) = 0 ∧ ab_P S wt wh i = false) := Or.inr ⟨rfl, by unfold ab_P; rw [if_neg (by omega), hfar]; rfl⟩
              refine wk_iconst C dX6_sum_79 ?_
              exact hj80 _ h80
            · skip
              have hfar : ab_far S i = true := by
                cases hz : ab_far S i
                · rw [hz, ab_1f] at hc64; omega
                · rfl
              refine wk_iload C rfl dX6_sum_67 ?_
              refine wk_iconst C dX6_sum_69 ?_
              refine wk_idiv C (by omega) (by omega) dX6_sum_70 ?_
              refine wk_iload_n C rfl dX6_sum_71 ?_
              refine wk_icmp_ne C 79 (by omega) (by omega) (by decide) dX6_sum_72 (fun hc72 => ?_) (fun hc72 => ?_)
              · skip
                have h80 : ((0 : Int) = 1 ∧ ab_P S wt wh i = true) ∨ ((0 : Int) = 0 ∧ ab_P S wt wh i = false) := Or.inr ⟨rfl, by unfold ab_P; rw [if_neg (by omega), hfar, Bool.true_and, ← he5]; exact decide_eq_false hc72⟩
                refine wk_iconst C dX6_sum_79 ?_
                exact hj80 _ h80
              · skip
                have h80 : ((1 : Int) = 1 ∧ ab_P S wt wh i = true) ∨ ((1 : Int) = 0 ∧ ab_P S wt wh i = false) := Or.inl ⟨rfl, by unfold ab_P; rw [if_neg (by omega), hfar, Bool.true_and, ← he5]; exact decide_eq_true hc72⟩
                refine wk_iconst C dX6_sum_75 ?_
                refine wk_goto C 80 (by decide) dX6_sum_76 ?_
                exact hj80 _ h80
          · skip
            refine wk_iload C rfl dX6_sum_44 ?_
            refine wk_iload_n C rfl dX6_sum_46 ?_
            refine wk_icmp_ne C 54 (by omega) (by omega) (by decide) dX6_sum_47 (fun hc47 => ?_) (fun hc47 => ?_)
            · skip
              have h80 : ((0 : Int) = 1 ∧ ab_P S wt wh i = true) ∨ ((0 : Int) = 0 ∧ ab_P S wt wh i = false) := Or.inr ⟨rfl, by unfold ab_P; rw [if_pos (by omega), ← he5]; exact decide_eq_false hc47⟩
              refine wk_iconst C dX6_sum_54 ?_
              refine wk_goto C 80 (by decide) dX6_sum_55 ?_
              exact hj80 _ h80
            · skip
              have h80 : ((1 : Int) = 1 ∧ ab_P S wt wh i = true) ∨ ((1 : Int) = 0 ∧ ab_P S wt wh i = false) := Or.inl ⟨rfl, by unfold ab_P; rw [if_pos (by omega), ← he5]; exact decide_eq_true hc47⟩
              refine wk_iconst C dX6_sum_50 ?_
              refine wk_goto C 80 (by decide) dX6_sum_51 ?_
              exact hj80 _ h80
        refine wk_iload_n C rfl dX6_sum_14 ?_
        refine wk_iconst C dX6_sum_15 ?_
        refine wk_irem C (by omega) (by omega) dX6_sum_16 ?_
        refine wk_if_ne C 30 (by omega) (by decide) dX6_sum_17 (fun hc17 => ?_) (fun hc17 => ?_)
        · skip
          have h37 : S 1 i = (if wt % 2 = 0 then S 0 i else S 1 i) := by rw [if_neg (by omega)]
          refine wk_aload_n C rfl dX6_sum_30 ?_
          refine wk_getr C (k := 20) (ci := 6) (j := 6) (T := TX6) rfl (show 0 < (1:Nat) by decide) rfl in_c_X6_sum_X6 (by decide) (by decide +kernel) rfl dX6_sum_31 ?_
          refine wk_iload C rfl dX6_sum_34 ?_
          refine wk_iald C (k := 26) rfl (show 0 < (1:Nat) by decide) (Nat.le_of_ble_eq_true rfl) (i) (by omega) (show _ < (24:Nat) by omega) dX6_sum_36 ?_
          rw [q1]
          exact hj37 _ h37
        · skip
          have h37 : S 0 i = (if wt % 2 = 0 then S 0 i else S 1 i) := by rw [if_pos (by omega)]
          refine wk_aload_n C rfl dX6_sum_20 ?_
          refine wk_getr C (k := 20) (ci := 6) (j := 5) (T := TX6) rfl (show 0 < (1:Nat) by decide) rfl in_c_X6_sum_X6 (by decide) (by decide +kernel) rfl dX6_sum_21 ?_
          refine wk_iload C rfl dX6_sum_24 ?_
          refine wk_iald C (k := 25) rfl (show 0 < (1:Nat) by decide) (Nat.le_of_ble_eq_true rfl) (i) (by omega) (show _ < (24:Nat) by omega) dX6_sum_26 ?_
          rw [q0]
          refine wk_goto C 37 (by decide) dX6_sum_27 ?_
          exact hj37 _ h37
  refine wk_le ?_ (hl5 (n + 1) 0 (by omega) (by omega))
  repeat (first | exact le_0 | refine le_s ?_ | refine le_n ?_)

theorem in_c_X6_uncut_X6 : ∀ w ∈ u_ws RX6 TX6 36, w ∈ wsX6_uncut := by decide +kernel
set_option maxRecDepth 100000 in
set_option maxHeartbeats 4000000 in
theorem c_X6_uncut (l : Launch) (g : am_g) (hI : am_inj (gR g)) (σ : am_M) (a : Nat) (ha : a < 4) (S : ab_S) (b : Int) (hv : ab_Rv S σ) (hS : ab_I S b) : Met l yX6_uncut wsX6_uncut ({ frames := 0, cells := 0, slots := 0, locals := 0 }) (am_P (gR g) σ [.inr (20, 0), .inl ((a : Nat) : Int)]) (am_QI (gR g) (fun r σ' => σ' = σ ∧ r = ab_many S a a)) 0 0 (am_FA (gR g)) := by
  refine wk_start (cc := cX6_uncut) (nL := 4) (ret := (some .int)) (own := RX6) (by decide) rfl hI rfl (Nat.le_of_ble_eq_true rfl) ?_
  intro p e s m below meth c C hr hlk
  change wk _ p l e _ s m _ below meth c 0 0 _ _ _ _ 0 [some (.inr (20, 0)), some (.inl ((a : Nat) : Int)), none, none] [] σ
  refine wk_iconst C dX6_uncut_0 ?_
  refine wk_istore_n C (by decide) (Nat.le_of_ble_eq_true rfl) dX6_uncut_1 ?_
  refine wk_iconst C dX6_uncut_2 ?_
  refine wk_istore_n C (by decide) (Nat.le_of_ble_eq_true rfl) dX6_uncut_3 ?_
  have hl4 : ∀ (d k : Nat), 5 ≤ k + d → k ≤ 4 → wk (gR g) p l e (headSpec wsX6_uncut ({ frames := 0, cells := 0, slots := 0, locals := 0 })).room s m ([.inr (20, 0), .inl ((a : Nat) : Int)].map (am_tv (gR g))).toArray below meth c 0 0 (MQ below (am_QI (gR g) (fun r σ' => σ' = σ ∧ r = ab_many S a a)) ([.inr (20, 0), .inl ((a : Nat) : Int)].map (am_tv (gR g))).toArray s 0 0 (am_FA (gR g))) (am_FA (gR g)) s.heap 4 4 [some (.inr (20, 0)), some (.inl ((a : Nat) : Int)), some (.inl (am_sum (fun s2 => 1 - S 18 (4 * a + s2)) k)), some (.inl ((k : Nat) : Int))] [] σ := by
    intro d
    induction d with
    | zero => intro k h1 h2; omega
    | succ d ih =>
      intro k h1 h2
      refine wk_iload_n C rfl dX6_uncut_4 ?_
      refine wk_iconst C dX6_uncut_5 ?_
      refine wk_icmp_ge C 36 (by omega) (by omega) (by decide) dX6_uncut_6 (fun hc6 => ?_) (fun hc6 => ?_)
      · skip
        refine wk_iload_n C rfl dX6_uncut_36 ?_
        refine wk_iret C hr hlk dX6_uncut_37 ?_
        have h4 : k = 4 := by omega
        subst h4
        refine ⟨rfl, ?_⟩
        rw [(mask_um hS.2.2.2.2.2.2.1 ha).2]
        simp only [am_sum, Nat.add_zero]
        omega
      · skip
        refine wk_iload_n C rfl dX6_uncut_9 ?_
        refine wk_aload_n C rfl dX6_uncut_10 ?_
        refine wk_getr C (k := 20) (ci := 6) (j := 27) (T := TX6) rfl (show 0 < (1:Nat) by decide) rfl in_c_X6_uncut_X6 (by decide) (by decide +kernel) rfl dX6_uncut_11 ?_
        refine wk_iconst C dX6_uncut_14 ?_
        refine wk_iload_n C rfl dX6_uncut_15 ?_
        refine wk_imul C dX6_uncut_16 ?_
        refine wk_iload_n C rfl dX6_uncut_17 ?_
        refine wk_iadd C dX6_uncut_18 ?_
        refine wk_zald C (k := 47) rfl (show 0 < (1:Nat) by decide) (Nat.le_of_ble_eq_true rfl) (((4 * a) + k)) (by omega) (show _ < (16:Nat) by omega) dX6_uncut_19 ?_
        rw [hv.1 (4 * a + k) (by omega)]
        have hk := hS.2.2.2.2.2.2.1 (4 * a + k) (by omega)
        refine wk_if_eq C 27 (by omega) (by decide) dX6_uncut_20 (fun hc20 => ?_) (fun hc20 => ?_)
        · skip
          have hs : (1 : Int) = 1 - S 18 (4 * a + k) := by omega
          refine wk_iconst C dX6_uncut_27 ?_
          refine wk_iadd C dX6_uncut_28 ?_
          refine wk_istore_n C (by decide) (Nat.le_of_ble_eq_true rfl) dX6_uncut_29 ?_
          refine wk_iinc C rfl (by decide) dX6_uncut_30 ?_
          refine wk_goto C 4 (by decide) dX6_uncut_33 ?_
          have hst := ih (k + 1) (by omega) (by omega)
          simp only [am_sum] at hst
          rw [← hs] at hst
          exact hst
        · skip
          have hs : (0 : Int) = 1 - S 18 (4 * a + k) := by omega
          refine wk_iconst C dX6_uncut_23 ?_
          refine wk_goto C 28 (by decide) dX6_uncut_24 ?_
          refine wk_iadd C dX6_uncut_28 ?_
          refine wk_istore_n C (by decide) (Nat.le_of_ble_eq_true rfl) dX6_uncut_29 ?_
          refine wk_iinc C rfl (by decide) dX6_uncut_30 ?_
          refine wk_goto C 4 (by decide) dX6_uncut_33 ?_
          have hst := ih (k + 1) (by omega) (by omega)
          simp only [am_sum] at hst
          rw [← hs] at hst
          exact hst
  exact hl4 5 0 (by omega) (by omega)

theorem in_c_X6_leastTicks_X6 : ∀ w ∈ u_ws RX6 TX6 36, w ∈ wsX6_leastTicks := by decide +kernel
set_option maxRecDepth 100000 in
set_option maxHeartbeats 4000000 in
/-- leastTicks -/
theorem c_X6_leastTicks (l : Launch) (g : am_g) (hI : am_inj (gR g)) (σ : am_M) (S : ab_S) (b : Int) (hR : ab_R S σ) (hS : ab_I S b) (hJ : ab_J S) (hb7 : b ≤ 10000000) : Met l yX6_leastTicks wsX6_leastTicks ({ frames := 2, cells := 0, slots := 0, locals := 47 }) (am_P (gR g) σ [.inr (20, 0)]) (am_QI (gR g) (fun r σ' => ab_R (ab_u S 19 5 0) σ' ∧ r = ab_least (ab_u S 19 5 0))) 0 0 (am_FA (gR g)) := by
  refine wk_start (cc := cX6_leastTicks) (nL := 7) (ret := (some .int)) (own := RX6) (by decide) rfl hI rfl (Nat.le_of_ble_eq_true rfl) ?_
  intro p e s m below meth c C hr hlk
  change wk _ p l e _ s m _ below meth c 0 0 _ _ _ _ 0 [some (.inr (20, 0)), none, none, none, none, none, none] [] σ
  refine wk_aload_n C rfl dX6_leastTicks_0 ?_
  refine wk_iconst C dX6_leastTicks_1 ?_
  refine wk_put C (k := 20) (ci := 6) (j := 35) (T := TX6) rfl (show 0 < (1:Nat) by decide) rfl in_c_X6_leastTicks_X6 tyX6 tyX6_ok nmX6 (by decide) (by decide +kernel) rfl rfl (by decide +kernel) dX6_leastTicks_2 ?_
  have hRT := R_th hR 0
  have hIT := I_th hS 0
  have hJT := J_th hJ 0
  generalize am_up σ 20 0 35 0 = σt at hRT ⊢
  have htsR := ts_R hIT hJT hb7
  have hL1 := L1_R hIT hJT hb7
  have hL2 := L2_R hIT hJT hb7
  have hM1r : ∀ k, 0 ≤ ab_M1 (ab_u S 19 5 0) k ∧ ab_M1 (ab_u S 19 5 0) k ≤ 250000000 := fun k => by
    unfold ab_M1
    split
    · exact hL1 _
    · exact max_rng (hL1 _) (htsR _ _)
  have htk : ∀ m w : Int, (0 ≤ m ∧ m ≤ 250000000) → (0 ≤ w ∧ w ≤ 4) → 0 ≤ ab_tk m w ∧ ab_tk m w ≤ 250000000 := fun m w hm hw => by
    unfold ab_tk
    split
    · omega
    · exact div_R hm (by omega)
  have hM2r : ∀ k, 0 ≤ ab_M2 (ab_u S 19 5 0) k ∧ ab_M2 (ab_u S 19 5 0) k ≤ 250000000 := fun k => by
    unfold ab_M2
    split
    · exact hL2 _
    · exact max_rng (hL2 _) (htk _ _ (htsR _ _) (by have := ab_many_rng (ab_u S 19 5 0) (k / 2) (k / 2); omega))
  refine wk_iconst C dX6_leastTicks_5 ?_
  refine wk_istore_n C (by decide) (Nat.le_of_ble_eq_true rfl) dX6_leastTicks_6 ?_
  refine wk_iconst C dX6_leastTicks_7 ?_
  refine wk_istore_n C (by decide) (Nat.le_of_ble_eq_true rfl) dX6_leastTicks_8 ?_
  refine wk_iconst C dX6_leastTicks_9 ?_
  refine wk_istore_n C (by decide) (Nat.le_of_ble_eq_true rfl) dX6_leastTicks_10 ?_
  have hl11 : ∀ (d k : Nat), 33 ≤ k + d → k ≤ 32 → wk (gR g) p l e (headSpec wsX6_leastTicks ({ frames := 2, cells := 0, slots := 0, locals := 47 })).room s m ([.inr (20, 0)].map (am_tv (gR g))).toArray below meth c 0 0 (MQ below (am_QI (gR g) (fun r σ' => ab_R (ab_u S 19 5 0) σ' ∧ r = ab_least (ab_u S 19 5 0))) ([.inr (20, 0)].map (am_tv (gR g))).toArray s 0 0 (am_FA (gR g))) (am_FA (gR g)) s.heap 7 11 [some (.inr (20, 0)), some (.inl (ab_M1 (ab_u S 19 5 0) k)), some (.inl (0 : Int)), some (.inl ((k : Nat) : Int)), none, none, none] [] σt := by
    intro d
    induction d with
    | zero => intro k h1 h2; omega
    | succ d ih =>
      intro k h1 h2
      have q1 := hM1r k
      have q2 := htsR (k % 2) (k / 2)
      refine wk_iload_n C rfl dX6_leastTicks_11 ?_
      refine wk_bipush C (n := 32) (by decide) dX6_leastTicks_12 ?_
      refine wk_icmp_ge C 48 (by omega) (by omega) (by decide) dX6_leastTicks_14 (fun hc14 => ?_) (fun hc14 => ?_)
      · skip
        have h4 : k = 32 := by omega
        subst h4
        rw [show ab_M1 (ab_u S 19 5 0) 32 = ab_M2 (ab_u S 19 5 0) 0 from rfl]
        refine wk_iconst C dX6_leastTicks_48 ?_
        refine wk_istore_n C (by decide) (Nat.le_of_ble_eq_true rfl) dX6_leastTicks_49 ?_
        have hl50 : ∀ (d2 k : Nat), 9 ≤ k + d2 → k ≤ 8 → wk (gR g) p l e (headSpec wsX6_leastTicks ({ frames := 2, cells := 0, slots := 0, locals := 47 })).room s m ([.inr (20, 0)].map (am_tv (gR g))).toArray below meth c 0 0 (MQ below (am_QI (gR g) (fun r σ' => ab_R (ab_u S 19 5 0) σ' ∧ r = ab_least (ab_u S 19 5 0))) ([.inr (20, 0)].map (am_tv (gR g))).toArray s 0 0 (am_FA (gR g))) (am_FA (gR g)) s.heap 7 50 [some (.inr (20, 0)), some (.inl (ab_M2 (ab_u S 19 5 0) k)), some (.inl (ab_1 (ab_N2 (ab_u S 19 5 0) k))), some (.inl ((k : Nat) : Int)), none, none, none] [] σt := by
          intro d2
          induction d2 with
          | zero => intro k g1 g2; omega
          | succ d2 ih2 =>
            intro k g1 g2
            have q1 := hM2r k
            have q2 := htsR (2 + k % 2) (k / 2)
            have q3 := ab_many_rng (ab_u S 19 5 0) (k / 2) (k / 2)
            have q4 := ab_1r (ab_N2 (ab_u S 19 5 0) k)
            have q5 := htk _ _ q2 q3
            have hN2 := N2_S hIT hJT hb7 k
            have hM2 := M2_S hIT hJT hb7 k
            refine wk_iload_n C rfl dX6_leastTicks_50 ?_
            refine wk_bipush C (n := 8) (by decide) dX6_leastTicks_51 ?_
            refine wk_icmp_ge C 139 (by omega) (by omega) (by decide) dX6_leastTicks_53 (fun hc53 => ?_) (fun hc53 => ?_)
            · skip
              have h5 : k = 8 := by omega
              subst h5
              have hnn : ab_N2 (ab_u S 19 5 0) 8 = ab_nn (ab_u S 19 5 0) 4 := rfl
              have hm8 : ab_M2 (ab_u S 19 5 0) 8 = ab_L2 (ab_u S 19 5 0) 4 := rfl
              refine wk_iload_n C rfl dX6_leastTicks_139 ?_
              refine wk_if_eq C 147 (by omega) (by decide) dX6_leastTicks_140 (fun hc140 => ?_) (fun hc140 => ?_)
              · skip
                have hN : ab_nn (ab_u S 19 5 0) 4 = false := by
                  rw [← hnn]
                  cases hz : ab_N2 (ab_u S 19 5 0) 8
                  · rfl
                  · rw [hz, ab_1t] at hc140; omega
                have hl148 : ab_M2 (ab_u S 19 5 0) 8 = ab_least (ab_u S 19 5 0) := by rw [hm8, ab_least, if_neg (by rw [hN]; decide)]
                refine wk_iload_n C rfl dX6_leastTicks_147 ?_
                refine wk_iret C hr hlk dX6_leastTicks_148 ?_
                exact ⟨hRT, hl148⟩
              · skip
                have hN : ab_nn (ab_u S 19 5 0) 4 = true := by
                  rw [← hnn]
                  cases hz : ab_N2 (ab_u S 19 5 0) 8
                  · rw [hz, ab_1f] at hc140; omega
                  · rfl
                have hl148 : (-1 : Int) = ab_least (ab_u S 19 5 0) := by rw [ab_least, if_pos hN]
                refine wk_iconst C dX6_leastTicks_143 ?_
                refine wk_goto C 148 (by decide) dX6_leastTicks_144 ?_
                refine wk_iret C hr hlk dX6_leastTicks_148 ?_
                exact ⟨hRT, hl148⟩
            · skip
              refine wk_aload_n C rfl dX6_leastTicks_56 ?_
              refine wk_iconst C dX6_leastTicks_57 ?_
              refine wk_iload_n C rfl dX6_leastTicks_58 ?_
              refine wk_iconst C dX6_leastTicks_59 ?_
              refine wk_irem C (by omega) (by omega) dX6_leastTicks_60 ?_
              refine wk_iadd C dX6_leastTicks_61 ?_
              refine wk_iload_n C rfl dX6_leastTicks_62 ?_
              refine wk_iconst C dX6_leastTicks_63 ?_
              refine wk_idiv C (by omega) (by omega) dX6_leastTicks_64 ?_
              rw [show (2 : Int) + ((k : Nat) : Int) % 2 = ((2 + k % 2 : Nat) : Int) by omega, show ((k : Nat) : Int) / 2 = ((k / 2 : Nat) : Int) by omega]
              refine wk_ofI C (wk_runV (index := 221) (ci := 6) (st := []) C (c_X6_sum l g hI _ (2 + k % 2) (k / 2) (by omega) (by omega) (ab_u S 19 5 0) b hRT hIT) (cwV 2 C.2.2.2.2.1 gX6_leastTicks_X6_sum rfl rfl rfl (by decide +kernel) ⟨Nat.le_of_ble_eq_true rfl, Nat.le_of_ble_eq_true rfl⟩) rfl (show 0 < (1:Nat) by decide) rfl rfl rfl (Nat.le_of_ble_eq_true rfl) dX6_leastTicks_65 ⟨Nat.zero_le _, Nat.zero_le _⟩) (fun r65 σ65 hp65 => ?_)
              obtain ⟨hsg65, rfl⟩ := hp65
              rw [hsg65]
              refine wk_istore C (by decide) (Nat.le_of_ble_eq_true rfl) dX6_leastTicks_68 ?_
              refine wk_aload_n C rfl dX6_leastTicks_70 ?_
              refine wk_iload_n C rfl dX6_leastTicks_71 ?_
              refine wk_iconst C dX6_leastTicks_72 ?_
              refine wk_idiv C (by omega) (by omega) dX6_leastTicks_73 ?_
              rw [show ((k : Nat) : Int) / 2 = ((k / 2 : Nat) : Int) by omega]
              refine wk_ofI C (wk_runV (index := 224) (ci := 6) (st := []) C (c_X6_uncut l g hI _ (k / 2) (by omega) (ab_u S 19 5 0) b (Rv_of hRT) hIT) (cwV 1 C.2.2.2.2.1 gX6_leastTicks_X6_uncut rfl rfl rfl (by decide +kernel) ⟨Nat.le_of_ble_eq_true rfl, Nat.le_of_ble_eq_true rfl⟩) rfl (show 0 < (1:Nat) by decide) rfl rfl rfl (Nat.le_of_ble_eq_true rfl) dX6_leastTicks_74 ⟨Nat.zero_le _, Nat.zero_le _⟩) (fun r74 σ74 hp74 => ?_)
              obtain ⟨hsg74, rfl⟩ := hp74
              rw [hsg74]
              refine wk_istore C (by decide) (Nat.le_of_ble_eq_true rfl) dX6_leastTicks_77 ?_
              have hj98 : ∀ v : Int, v = ab_1 (ab_N2 (ab_u S 19 5 0) (k + 1)) → wk (gR g) p l e (headSpec wsX6_leastTicks ({ frames := 2, cells := 0, slots := 0, locals := 47 })).room s m ([.inr (20, 0)].map (am_tv (gR g))).toArray below meth c 0 0 (MQ below (am_QI (gR g) (fun r σ' => ab_R (ab_u S 19 5 0) σ' ∧ r = ab_least (ab_u S 19 5 0))) ([.inr (20, 0)].map (am_tv (gR g))).toArray s 0 0 (am_FA (gR g))) (am_FA (gR g)) s.heap 7 98 [some (.inr (20, 0)), some (.inl (ab_M2 (ab_u S 19 5 0) k)), some (.inl (ab_1 (ab_N2 (ab_u S 19 5 0) k))), some (.inl ((k : Nat) : Int)), some (.inl (ab_ts (ab_u S 19 5 0) (2 + k % 2) (k / 2) (ab_n (ab_u S 19 5 0)))), some (.inl (ab_many (ab_u S 19 5 0) (k / 2) (k / 2))), none] [.inl (v)] σt := by
                intro v hv
                subst hv
                refine wk_istore_n C (by decide) (Nat.le_of_ble_eq_true rfl) dX6_leastTicks_98 ?_
                have hj118 : ∀ t5 : Int, t5 = ab_tk (ab_ts (ab_u S 19 5 0) (2 + k % 2) (k / 2) (ab_n (ab_u S 19 5 0))) (ab_many (ab_u S 19 5 0) (k / 2) (k / 2)) → wk (gR g) p l e (headSpec wsX6_leastTicks ({ frames := 2, cells := 0, slots := 0, locals := 47 })).room s m ([.inr (20, 0)].map (am_tv (gR g))).toArray below meth c 0 0 (MQ below (am_QI (gR g) (fun r σ' => ab_R (ab_u S 19 5 0) σ' ∧ r = ab_least (ab_u S 19 5 0))) ([.inr (20, 0)].map (am_tv (gR g))).toArray s 0 0 (am_FA (gR g))) (am_FA (gR g)) s.heap 7 118 [some (.inr (20, 0)), some (.inl (ab_M2 (ab_u S 19 5 0) k)), some (.inl (ab_1 (ab_N2 (ab_u S 19 5 0) (k + 1)))), some (.inl ((k : Nat) : Int)), some (.inl (ab_ts (ab_u S 19 5 0) (2 + k % 2) (k / 2) (ab_n (ab_u S 19 5 0)))), some (.inl (ab_many (ab_u S 19 5 0) (k / 2) (k / 2))), none] [.inl (t5)] σt := by
                  intro t5 ht5
                  subst ht5
                  refine wk_istore C (by decide) (Nat.le_of_ble_eq_true rfl) dX6_leastTicks_118 ?_
                  refine wk_iload C rfl dX6_leastTicks_120 ?_
                  refine wk_iload_n C rfl dX6_leastTicks_122 ?_
                  refine wk_icmp_le C 131 (by omega) (by omega) (by decide) dX6_leastTicks_123 (fun hc123 => ?_) (fun hc123 => ?_)
                  · skip
                    have hM : ab_M2 (ab_u S 19 5 0) k = ab_M2 (ab_u S 19 5 0) (k + 1) := by rw [← hM2, ab_max, if_neg (by omega)]
                    refine wk_iload_n C rfl dX6_leastTicks_131 ?_
                    refine wk_istore_n C (by decide) (Nat.le_of_ble_eq_true rfl) dX6_leastTicks_132 ?_
                    refine wk_iinc C rfl (by decide) dX6_leastTicks_133 ?_
                    refine wk_goto C 50 (by decide) dX6_leastTicks_136 ?_
                    rw [hM]
                    refine wk_le ?_ (ih2 (k + 1) (by omega) (by omega))
                    repeat (first | exact le_0 | refine le_s ?_ | refine le_n ?_)
                  · skip
                    have hM : ab_tk (ab_ts (ab_u S 19 5 0) (2 + k % 2) (k / 2) (ab_n (ab_u S 19 5 0))) (ab_many (ab_u S 19 5 0) (k / 2) (k / 2)) = ab_M2 (ab_u S 19 5 0) (k + 1) := by rw [← hM2, ab_max, if_pos (by omega)]
                    refine wk_iload C rfl dX6_leastTicks_126 ?_
                    refine wk_goto C 132 (by decide) dX6_leastTicks_128 ?_
                    refine wk_istore_n C (by decide) (Nat.le_of_ble_eq_true rfl) dX6_leastTicks_132 ?_
                    refine wk_iinc C rfl (by decide) dX6_leastTicks_133 ?_
                    refine wk_goto C 50 (by decide) dX6_leastTicks_136 ?_
                    rw [hM]
                    refine wk_le ?_ (ih2 (k + 1) (by omega) (by omega))
                    repeat (first | exact le_0 | refine le_s ?_ | refine le_n ?_)
                refine wk_iload C rfl dX6_leastTicks_99 ?_
                refine wk_if_ne C 108 (by omega) (by decide) dX6_leastTicks_101 (fun hc101 => ?_) (fun hc101 => ?_)
                · skip
                  have h118 : (ab_ts (ab_u S 19 5 0) (2 + k % 2) (k / 2) (ab_n (ab_u S 19 5 0)) + ab_many (ab_u S 19 5 0) (k / 2) (k / 2) - 1) / ab_many (ab_u S 19 5 0) (k / 2) (k / 2) = ab_tk (ab_ts (ab_u S 19 5 0) (2 + k % 2) (k / 2) (ab_n (ab_u S 19 5 0))) (ab_many (ab_u S 19 5 0) (k / 2) (k / 2)) := by rw [ab_tk, if_neg hc101]
                  refine wk_iload C rfl dX6_leastTicks_108 ?_
                  refine wk_iload C rfl dX6_leastTicks_110 ?_
                  refine wk_iadd C dX6_leastTicks_112 ?_
                  refine wk_iconst C dX6_leastTicks_113 ?_
                  refine wk_isub C dX6_leastTicks_114 ?_
                  refine wk_iload C rfl dX6_leastTicks_115 ?_
                  refine wk_idiv C (by omega) (by omega) dX6_leastTicks_117 ?_
                  exact hj118 _ h118
                · skip
                  have h118 : (0 : Int) = ab_tk (ab_ts (ab_u S 19 5 0) (2 + k % 2) (k / 2) (ab_n (ab_u S 19 5 0))) (ab_many (ab_u S 19 5 0) (k / 2) (k / 2)) := by rw [ab_tk, if_pos hc101]
                  refine wk_iconst C dX6_leastTicks_104 ?_
                  refine wk_goto C 118 (by decide) dX6_leastTicks_105 ?_
                  exact hj118 _ h118
              refine wk_iload_n C rfl dX6_leastTicks_79 ?_
              refine wk_if_ne C 93 (by omega) (by decide) dX6_leastTicks_80 (fun hc80 => ?_) (fun hc80 => ?_)
              · skip
                have hN : ab_N2 (ab_u S 19 5 0) k = true := by
                  cases hz : ab_N2 (ab_u S 19 5 0) k
                  · rw [hz, ab_1f] at hc80; omega
                  · rfl
                have h98 : (1 : Int) = ab_1 (ab_N2 (ab_u S 19 5 0) (k + 1)) := by rw [← hN2, hN, Bool.true_or]; rfl
                refine wk_iconst C dX6_leastTicks_93 ?_
                refine wk_goto C 98 (by decide) dX6_leastTicks_94 ?_
                exact hj98 _ h98
              · skip
                have hN : ab_N2 (ab_u S 19 5 0) k = false := by
                  cases hz : ab_N2 (ab_u S 19 5 0) k
                  · rfl
                  · rw [hz, ab_1t] at hc80; omega
                refine wk_iload C rfl dX6_leastTicks_83 ?_
                refine wk_if_ne C 97 (by omega) (by decide) dX6_leastTicks_85 (fun hc85 => ?_) (fun hc85 => ?_)
                · skip
                  have h98 : (0 : Int) = ab_1 (ab_N2 (ab_u S 19 5 0) (k + 1)) := by rw [← hN2, hN, decide_eq_false hc85, Bool.and_false]; rfl
                  refine wk_iconst C dX6_leastTicks_97 ?_
                  exact hj98 _ h98
                · skip
                  refine wk_iload C rfl dX6_leastTicks_88 ?_
                  refine wk_if_le C 97 (by omega) (by decide) dX6_leastTicks_90 (fun hc90 => ?_) (fun hc90 => ?_)
                  · skip
                    have h98 : (0 : Int) = ab_1 (ab_N2 (ab_u S 19 5 0) (k + 1)) := by rw [← hN2, hN, decide_eq_false (show ¬ 0 < ab_ts (ab_u S 19 5 0) (2 + k % 2) (k / 2) (ab_n (ab_u S 19 5 0)) by omega)]; rfl
                    refine wk_iconst C dX6_leastTicks_97 ?_
                    exact hj98 _ h98
                  · skip
                    have h98 : (1 : Int) = ab_1 (ab_N2 (ab_u S 19 5 0) (k + 1)) := by rw [← hN2, hN, decide_eq_true (show 0 < ab_ts (ab_u S 19 5 0) (2 + k % 2) (k / 2) (ab_n (ab_u S 19 5 0)) by omega), decide_eq_true hc85]; rfl
                    refine wk_iconst C dX6_leastTicks_93 ?_
                    refine wk_goto C 98 (by decide) dX6_leastTicks_94 ?_
                    exact hj98 _ h98
        refine wk_le ?_ (hl50 9 0 (by omega) (by omega))
        repeat (first | exact le_0 | refine le_s ?_ | refine le_n ?_)
      · skip
        refine wk_aload_n C rfl dX6_leastTicks_17 ?_
        refine wk_iload_n C rfl dX6_leastTicks_18 ?_
        refine wk_iconst C dX6_leastTicks_19 ?_
        refine wk_irem C (by omega) (by omega) dX6_leastTicks_20 ?_
        refine wk_iload_n C rfl dX6_leastTicks_21 ?_
        refine wk_iconst C dX6_leastTicks_22 ?_
        refine wk_idiv C (by omega) (by omega) dX6_leastTicks_23 ?_
        rw [show ((k : Nat) : Int) % 2 = ((k % 2 : Nat) : Int) by omega, show ((k : Nat) : Int) / 2 = ((k / 2 : Nat) : Int) by omega]
        refine wk_ofI C (wk_runV (index := 221) (ci := 6) (st := []) C (c_X6_sum l g hI _ (k % 2) (k / 2) (by omega) (by omega) (ab_u S 19 5 0) b hRT hIT) (cwV 2 C.2.2.2.2.1 gX6_leastTicks_X6_sum rfl rfl rfl (by decide +kernel) ⟨Nat.le_of_ble_eq_true rfl, Nat.le_of_ble_eq_true rfl⟩) rfl (show 0 < (1:Nat) by decide) rfl rfl rfl (Nat.le_of_ble_eq_true rfl) dX6_leastTicks_24 ⟨Nat.zero_le _, Nat.zero_le _⟩) (fun r24 σ24 hp24 => ?_)
        obtain ⟨hsg24, rfl⟩ := hp24
        rw [hsg24]
        refine wk_istore C (by decide) (Nat.le_of_ble_eq_true rfl) dX6_leastTicks_27 ?_
        refine wk_iload C rfl dX6_leastTicks_29 ?_
        refine wk_iload_n C rfl dX6_leastTicks_31 ?_
        refine wk_icmp_le C 40 (by omega) (by omega) (by decide) dX6_leastTicks_32 (fun hc32 => ?_) (fun hc32 => ?_)
        · skip
          have hM : ab_M1 (ab_u S 19 5 0) k = ab_M1 (ab_u S 19 5 0) (k + 1) := by rw [← M1_S, ab_max, if_neg (by omega)]
          refine wk_iload_n C rfl dX6_leastTicks_40 ?_
          refine wk_istore_n C (by decide) (Nat.le_of_ble_eq_true rfl) dX6_leastTicks_41 ?_
          refine wk_iinc C rfl (by decide) dX6_leastTicks_42 ?_
          refine wk_goto C 11 (by decide) dX6_leastTicks_45 ?_
          rw [hM]
          refine wk_le ?_ (ih (k + 1) (by omega) (by omega))
          repeat (first | exact le_0 | refine le_s ?_ | refine le_n ?_)
        · skip
          have hM : ab_ts (ab_u S 19 5 0) (k % 2) (k / 2) (ab_n (ab_u S 19 5 0)) = ab_M1 (ab_u S 19 5 0) (k + 1) := by rw [← M1_S, ab_max, if_pos (by omega)]
          refine wk_iload C rfl dX6_leastTicks_35 ?_
          refine wk_goto C 41 (by decide) dX6_leastTicks_37 ?_
          refine wk_istore_n C (by decide) (Nat.le_of_ble_eq_true rfl) dX6_leastTicks_41 ?_
          refine wk_iinc C rfl (by decide) dX6_leastTicks_42 ?_
          refine wk_goto C 11 (by decide) dX6_leastTicks_45 ?_
          rw [hM]
          refine wk_le ?_ (ih (k + 1) (by omega) (by omega))
          repeat (first | exact le_0 | refine le_s ?_ | refine le_n ?_)
  refine wk_le ?_ (hl11 33 0 (by omega) (by omega))
  repeat (first | exact le_0 | refine le_s ?_ | refine le_n ?_)
