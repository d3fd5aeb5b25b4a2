/-! the law's turns -/
set_option maxRecDepth 100000 in
set_option maxHeartbeats 4000000 in
theorem w_isTick (l : Launch) (hl : l.stackTraces = false) (g : am_g) (hI : am_inj (gL g)) (σ : am_M)  (S : ab_S) (hw : lW S σ) (hc5 : S 19 3 < 5000) : Met l yL_isTick wsL_isTick ({ frames := 8, cells := 1, slots := 6, locals := 179 }) (lP g σ [.ref ((g.2.2 0 0)), .ref ((g.2.2 60 0)), .ref ((g.2.2 61 0))]) (lQ g (fun r σ' => r = 1 ∧ lW (ab_tick S) σ')) 1 6 (am_FA (gL g)) := by
  refine wq_start (cc := cL_isTick) (nL := 12) (ret := (some .boolean)) (by decide) rfl hI rfl (fun v hv => by simp only [List.mem_cons, List.not_mem_nil, or_false] at hv; rcases hv with rfl | rfl | rfl <;> rfl) (Nat.le_of_ble_eq_true rfl) ?_
  intro p e s m below meth c C hr hlk
  change wq g p l e (headSpec wsL_isTick ({ frames := 8, cells := 1, slots := 6, locals := 179 })).room s m ([.ref ((g.2.2 0 0)), .ref ((g.2.2 60 0)), .ref ((g.2.2 61 0))] : List Value).toArray below meth c (0) (0) (MQ below (lQ g (fun r σ' => r = 1 ∧ lW (ab_tick S) σ')) ([.ref ((g.2.2 0 0)), .ref ((g.2.2 60 0)), .ref ((g.2.2 61 0))] : List Value).toArray s 1 6 (am_FA (gL g))) (am_FA (gL g)) 12 0 [some (.ref ((g.2.2 0 0))), some (.ref ((g.2.2 60 0))), some (.ref ((g.2.2 61 0))), none, none, none, none, none, none, none, none, none] [] σ
  obtain ⟨hC, hS, hJ, hp, hcl, hfn, hm0, hm1, hm2, hm3⟩ := id hw
  have hn24 := hS.2.1.2.2.2.2
  have hn : ((ab_n S : Nat) : Int) = S 19 4 := Int.toNat_of_nonneg hn24.1
  have hc0 := hS.2.1.2.2.2.1
  have hwd := hS.2.1.2.2.1
  have hdl := hS.2.1.1
  refine wq_aload_n C rfl dL_isTick_0 ?_
  refine wq_cI C (av := []) (index := 98) (c_X5_clock l g (lC_inj hI) σ S (48 * S 19 3) hC hS) (cwV 0 C.1.2.2.2.2 gL_isTick_X5_clock rfl rfl rfl (by decide +kernel) ⟨Nat.le_of_ble_eq_true rfl, Nat.le_of_ble_eq_true rfl⟩) rfl rfl (Nat.le_of_ble_eq_true rfl) dL_isTick_1 ⟨(Nat.le_of_ble_eq_true rfl), (Nat.le_of_ble_eq_true rfl)⟩ (fun r1 σ1 hp1 => ?_)
  obtain ⟨hsg1, hr1⟩ := hp1
  rw [hsg1, l_mix_s]
  obtain rfl : r1 = S 19 3 := hr1.trans (by first | rfl | (congr 1; omega))
  refine wq_istore_n C (by decide) (Nat.le_of_ble_eq_true rfl) rfl dL_isTick_4 ?_
  refine wq_aload_n C rfl dL_isTick_5 ?_
  refine wq_cI C (av := []) (index := 117) (c_X5_returning l g (lC_inj hI) σ S (48 * S 19 3) hC hS) (cwV 0 C.1.2.2.2.2 gL_isTick_X5_returning rfl rfl rfl (by decide +kernel) ⟨Nat.le_of_ble_eq_true rfl, Nat.le_of_ble_eq_true rfl⟩) rfl rfl (Nat.le_of_ble_eq_true rfl) dL_isTick_6 ⟨(Nat.le_of_ble_eq_true rfl), (Nat.le_of_ble_eq_true rfl)⟩ (fun r6 σ6 hp6 => ?_)
  obtain ⟨hsg6, hr6⟩ := hp6
  rw [hsg6, l_mix_s]
  obtain rfl : r6 = ab_ret S := hr6.trans (by first | rfl | (congr 1; omega))
  refine wq_istore C (by decide) (Nat.le_of_ble_eq_true rfl) rfl dL_isTick_9 ?_
  refine wq_aload_n C rfl dL_isTick_11 ?_
  refine wq_cI C (av := []) (index := 120) (c_X5_queued l g (lC_inj hI) σ S (48 * S 19 3) hC hS) (cwV 0 C.1.2.2.2.2 gL_isTick_X5_queued rfl rfl rfl (by decide +kernel) ⟨Nat.le_of_ble_eq_true rfl, Nat.le_of_ble_eq_true rfl⟩) rfl rfl (Nat.le_of_ble_eq_true rfl) dL_isTick_12 ⟨(Nat.le_of_ble_eq_true rfl), (Nat.le_of_ble_eq_true rfl)⟩ (fun r12 σ12 hp12 => ?_)
  obtain ⟨hsg12, hr12⟩ := hp12
  rw [hsg12, l_mix_s]
  obtain rfl : r12 = ab_qd S := hr12.trans (by first | rfl | (congr 1; omega))
  refine wq_istore C (by decide) (Nat.le_of_ble_eq_true rfl) rfl dL_isTick_15 ?_
  refine wq_iconst C dL_isTick_17 ?_
  refine wq_istore C (by decide) (Nat.le_of_ble_eq_true rfl) rfl dL_isTick_18 ?_
  refine wq_iconst C dL_isTick_20 ?_
  refine wq_istore C (by decide) (Nat.le_of_ble_eq_true rfl) rfl dL_isTick_21 ?_
  refine wq_iconst C dL_isTick_23 ?_
  refine wq_istore C (by decide) (Nat.le_of_ble_eq_true rfl) rfl dL_isTick_24 ?_
  refine wq_iconst C dL_isTick_26 ?_
  refine wq_istore C (by decide) (Nat.le_of_ble_eq_true rfl) rfl dL_isTick_27 ?_
  refine wq_iconst C dL_isTick_29 ?_
  refine wq_istore C (by decide) (Nat.le_of_ble_eq_true rfl) rfl dL_isTick_30 ?_
  have hl32 : ∀ (dk k : Nat), ab_n S + 1 ≤ k + dk → k ≤ ab_n S → wq g p l e (headSpec wsL_isTick ({ frames := 8, cells := 1, slots := 6, locals := 179 })).room s m ([.ref ((g.2.2 0 0)), .ref ((g.2.2 60 0)), .ref ((g.2.2 61 0))] : List Value).toArray below meth c (0) (0) (MQ below (lQ g (fun r σ' => r = 1 ∧ lW (ab_tick S) σ')) ([.ref ((g.2.2 0 0)), .ref ((g.2.2 60 0)), .ref ((g.2.2 61 0))] : List Value).toArray s 1 6 (am_FA (gL g))) (am_FA (gL g)) 12 32 [some (.ref ((g.2.2 0 0))), some (.ref ((g.2.2 60 0))), some (.ref ((g.2.2 61 0))), some (qi (S 19 3)), some (qi (ab_ret S)), some (qi (ab_qd S)), some (qi (-(am_sum (fun f => S 4 f) k))), some (qi (-(am_sum (fun f => S 6 f) k))), some (qi (-(am_sum (fun f => S 5 f) k))), some (qi (0)), some (qi (((k : Nat) : Int))), none] [] σ := by
    intro dk
    induction dk with
    | zero => intro k h1 h2; omega
    | succ dk ihk =>
      intro k h1k h2k
      refine wq_iload C rfl dL_isTick_32 ?_
      refine wq_aload_n C rfl dL_isTick_34 ?_
      refine wq_cI C (av := []) (index := 92) (c_X5_flows l g (lC_inj hI) σ S (48 * S 19 3) hC hS) (cwV 0 C.1.2.2.2.2 gL_isTick_X5_flows rfl rfl rfl (by decide +kernel) ⟨Nat.le_of_ble_eq_true rfl, Nat.le_of_ble_eq_true rfl⟩) rfl rfl (Nat.le_of_ble_eq_true rfl) dL_isTick_35 ⟨(Nat.le_of_ble_eq_true rfl), (Nat.le_of_ble_eq_true rfl)⟩ (fun r35 σ35 hp35 => ?_)
      obtain ⟨hsg35, hr35⟩ := hp35
      rw [hsg35, l_mix_s]
      obtain rfl : r35 = S 19 4 := hr35.trans (by first | rfl | (congr 1; omega))
      refine wq_icmp_ge C 80 (by omega) (by omega) (by decide) dL_isTick_38 (fun hc38 => ?_) (fun hc38 => ?_)
      · skip
        obtain rfl : k = ab_n S := by omega
        refine wq_iconst C dL_isTick_80 ?_
        refine wq_istore C (by decide) (Nat.le_of_ble_eq_true rfl) rfl dL_isTick_81 ?_
        have hl83 : ∀ (dh h : Nat), 17 ≤ h + dh → h ≤ 16 → wq g p l e (headSpec wsL_isTick ({ frames := 8, cells := 1, slots := 6, locals := 179 })).room s m ([.ref ((g.2.2 0 0)), .ref ((g.2.2 60 0)), .ref ((g.2.2 61 0))] : List Value).toArray below meth c (0) (0) (MQ below (lQ g (fun r σ' => r = 1 ∧ lW (ab_tick S) σ')) ([.ref ((g.2.2 0 0)), .ref ((g.2.2 60 0)), .ref ((g.2.2 61 0))] : List Value).toArray s 1 6 (am_FA (gL g))) (am_FA (gL g)) 12 83 [some (.ref ((g.2.2 0 0))), some (.ref ((g.2.2 60 0))), some (.ref ((g.2.2 61 0))), some (qi (S 19 3)), some (qi (ab_ret S)), some (qi (ab_qd S)), some (qi (-(am_sum (fun f => S 4 f) (ab_n S)))), some (qi (-(am_sum (fun f => S 6 f) (ab_n S)))), some (qi (-(am_sum (fun f => S 5 f) (ab_n S)))), some (qi (am_sum (fun h => if 0 < S 14 (16 + h) then 1 else 0) h)), some (qi (((h : Nat) : Int))), none] [] σ := by
          intro dh
          induction dh with
          | zero => intro h h1 h2; omega
          | succ dh ihh =>
            intro h h1h h2h
            refine wq_iload C rfl dL_isTick_83 ?_
            refine wq_bipush C (n := 16) (by decide) dL_isTick_85 ?_
            refine wq_icmp_ge C 115 (by omega) (by omega) (by decide) dL_isTick_87 (fun hc87 => ?_) (fun hc87 => ?_)
            · skip
              obtain rfl : h = 16 := by omega
              refine wq_aload_n C rfl dL_isTick_115 ?_
              refine wq_iconst C dL_isTick_116 ?_
              refine wq_sW C (av := [.ref ((g.2.2 0 0)), qi (1)]) (index := 169) (w_pass l hl g hI σ 1 (by omega) S (48 * S 19 3) hC hS (by omega)) (vx_cwSW 2 C.1.2.2.2.2 gL_isTick_L_pass rfl rfl rfl (by decide +kernel) ⟨Nat.le_of_ble_eq_true rfl, Nat.le_of_ble_eq_true rfl⟩) rfl rfl (Nat.le_of_ble_eq_true rfl) dL_isTick_117 ⟨(Nat.le_of_ble_eq_true rfl), (Nat.le_of_ble_eq_true rfl)⟩ (fun r117 σ117 hp117 => ?_)
              obtain ⟨hr117, u, hu, hs117⟩ : r117 = ab_tickC S ∧ ∃ u, ab_C (ab_pass S 1) u ∧ σ117 = l_mix u σ := by
                rcases hp117 with ⟨h1, -, -, u, h2, h3⟩ | ⟨-, hk, -⟩ | ⟨-, -, hk, -⟩
                · exact ⟨h1.trans (by show 0 + ab_tickC S = ab_tickC S; omega), u, h2, h3⟩
                · exact absurd hk (by omega)
                · exact absurd hk (by omega)
              subst hr117
              have hw2 : lW (ab_tick S) (l_mix u σ) := lW_pass hw (n := 1) (by omega) hu
              rw [← hs117] at hw2
              obtain ⟨hC2, hS2, -, -, hcl2, -, hm20, -⟩ := id hw2
              obtain ⟨nf, C6, X, Rr, t1, t2, t3, t4, t5, t6, t7, t8, t9, t10, t11, t12, t13⟩ := tick_sum hS (by omega) hJ hp (by omega)
              have tk := tick_193 S
              have tn : ab_n (ab_tick S) = ab_n S := n_cg tk.2
              have tret := ret_r hS
              have tret2 := ret_r hS2
              have tqd := qd_nn hS
              have tqd2 := qd_nn hS2
              have hd0 : ¬ S 19 0 = 0 ∨ ab_ret S = Rr := by
                by_cases z : S 19 0 = 0
                · exact Or.inr (t11 z)
                · exact Or.inl z
              have tm := tick_19 S (i := 0) (by omega)
              have hqm : ab_qd S ≤ 256 := by
                have e := sm_le (f := fun L => S 14 L) (g := fun _ => 4) (n := 64) (fun L hL => (hS.s4 hL).2.1)
                rw [sm_const] at e
                exact e
              have hqm2 : ab_qd (ab_tick S) ≤ 256 := by
                have e := sm_le (f := fun L => ab_tick S 14 L) (g := fun _ => 4) (n := 64) (fun L hL => (hS2.s4 hL).2.1)
                rw [sm_const] at e
                exact e
              refine wq_istore C (by decide) (Nat.le_of_ble_eq_true rfl) rfl dL_isTick_120 ?_
              refine wq_iconst C dL_isTick_122 ?_
              refine wq_istore C (by decide) (Nat.le_of_ble_eq_true rfl) rfl dL_isTick_123 ?_
              have hl125 : ∀ (dj j : Nat), ab_n S + 1 ≤ j + dj → j ≤ ab_n S → wq g p l e (headSpec wsL_isTick ({ frames := 8, cells := 1, slots := 6, locals := 179 })).room s m ([.ref ((g.2.2 0 0)), .ref ((g.2.2 60 0)), .ref ((g.2.2 61 0))] : List Value).toArray below meth c (1) (6) (MQ below (lQ g (fun r σ' => r = 1 ∧ lW (ab_tick S) σ')) ([.ref ((g.2.2 0 0)), .ref ((g.2.2 60 0)), .ref ((g.2.2 61 0))] : List Value).toArray s 1 6 (am_FA (gL g))) (am_FA (gL g)) 12 125 [some (.ref ((g.2.2 0 0))), some (.ref ((g.2.2 60 0))), some (.ref ((g.2.2 61 0))), some (qi (S 19 3)), some (qi (ab_ret S)), some (qi (ab_qd S)), some (qi (-(am_sum (fun f => S 4 f) (ab_n S)) + am_sum (fun f => (ab_tick S) 4 f) j)), some (qi (-(am_sum (fun f => S 6 f) (ab_n S)) + am_sum (fun f => (ab_tick S) 6 f) j)), some (qi (-(am_sum (fun f => S 5 f) (ab_n S)) + am_sum (fun f => (ab_tick S) 5 f) j)), some (qi (am_sum (fun h => if 0 < S 14 (16 + h) then 1 else 0) 16)), some (qi (ab_tickC S)), some (qi (((j : Nat) : Int)))] [] σ117 := by
                intro dj
                induction dj with
                | zero => intro j h1 h2; omega
                | succ dj ihj =>
                  intro j h1j h2j
                  refine wq_iload C rfl dL_isTick_125 ?_
                  refine wq_aload_n C rfl dL_isTick_127 ?_
                  refine wq_cI C (av := []) (index := 92) (c_X5_flows l g (lC_inj hI) σ117 (ab_tick S) (48 * (ab_tick S) 19 3) hC2 hS2) (cwV 0 C.1.2.2.2.2 gL_isTick_X5_flows rfl rfl rfl (by decide +kernel) ⟨Nat.le_of_ble_eq_true rfl, Nat.le_of_ble_eq_true rfl⟩) rfl rfl (Nat.le_of_ble_eq_true rfl) dL_isTick_128 ⟨(Nat.le_of_ble_eq_true rfl), (Nat.le_of_ble_eq_true rfl)⟩ (fun r128 σ128 hp128 => ?_)
                  obtain ⟨hsg128, hr128⟩ := hp128
                  rw [hsg128, l_mix_s]
                  obtain rfl : r128 = (ab_tick S) 19 4 := hr128.trans (by first | rfl | (congr 1; omega))
                  refine wq_icmp_ge C 173 (by omega) (by omega) (by decide) dL_isTick_131 (fun hc131 => ?_) (fun hc131 => ?_)
                  · skip
                    obtain rfl : j = ab_n S := by omega
                    have q4 : am_sum (fun f => (ab_tick S) 4 f) (ab_n S) = s4 (ab_tick S) := by unfold s4; rw [tn]
                    have q5 : am_sum (fun f => (ab_tick S) 5 f) (ab_n S) = s5 (ab_tick S) := by unfold s5; rw [tn]
                    have q6 : am_sum (fun f => (ab_tick S) 6 f) (ab_n S) = s6 (ab_tick S) := by unfold s6; rw [tn]
                    rw [q4, q5, q6, show am_sum (fun f => S 4 f) (ab_n S) = s4 S from rfl, show am_sum (fun f => S 5 f) (ab_n S) = s5 S from rfl, show am_sum (fun f => S 6 f) (ab_n S) = s6 S from rfl, ← t13]
                    rw [show -(s4 S) + s4 (ab_tick S) = nf by omega, show -(s5 S) + s5 (ab_tick S) = ab_tickC S by omega, show -(s6 S) + s6 (ab_tick S) = C6 by omega]
                    refine wq_iload C rfl dL_isTick_173 ?_
                    refine wq_iload C rfl dL_isTick_175 ?_
                    refine wq_icmp_ne C 284 (by omega) (by omega) (by decide) dL_isTick_177 (fun hc177 => ?_) (fun hc177 => ?_)
                    · skip
                      exfalso; omega
                    · skip
                      refine wq_iload C rfl dL_isTick_180 ?_
                      refine wq_iload C rfl dL_isTick_182 ?_
                      refine wq_icmp_ne C 284 (by omega) (by omega) (by decide) dL_isTick_184 (fun hc184 => ?_) (fun hc184 => ?_)
                      · skip
                        exfalso; omega
                      · skip
                        refine wq_aload_n C rfl dL_isTick_187 ?_
                        refine wq_cI C (av := []) (index := 98) (c_X5_clock l g (lC_inj hI) σ117 (ab_tick S) (48 * (ab_tick S) 19 3) hC2 hS2) (cwV 0 C.1.2.2.2.2 gL_isTick_X5_clock rfl rfl rfl (by decide +kernel) ⟨Nat.le_of_ble_eq_true rfl, Nat.le_of_ble_eq_true rfl⟩) rfl rfl (Nat.le_of_ble_eq_true rfl) dL_isTick_188 ⟨(Nat.le_of_ble_eq_true rfl), (Nat.le_of_ble_eq_true rfl)⟩ (fun r188 σ188 hp188 => ?_)
                        obtain ⟨hsg188, hr188⟩ := hp188
                        rw [hsg188, l_mix_s]
                        obtain rfl : r188 = (ab_tick S) 19 3 := hr188.trans (by first | rfl | (congr 1; omega))
                        refine wq_iload_n C rfl dL_isTick_191 ?_
                        refine wq_iconst C dL_isTick_192 ?_
                        refine wq_iadd C dL_isTick_193 ?_
                        refine wq_icmp_ne C 284 (by omega) (by omega) (by decide) dL_isTick_194 (fun hc194 => ?_) (fun hc194 => ?_)
                        · skip
                          exfalso; omega
                        · skip
                          refine wq_iload C rfl dL_isTick_197 ?_
                          refine wq_if_lt C 284 (by omega) (by decide) dL_isTick_199 (fun hc199 => ?_) (fun hc199 => ?_)
                          · skip
                            exfalso; omega
                          · skip
                            refine wq_iload C rfl dL_isTick_202 ?_
                            refine wq_bipush C (n := 16) (by decide) dL_isTick_204 ?_
                            refine wq_icmp_gt C 284 (by omega) (by omega) (by decide) dL_isTick_206 (fun hc206 => ?_) (fun hc206 => ?_)
                            · skip
                              exfalso; omega
                            · skip
                              refine wq_iload C rfl dL_isTick_209 ?_
                              refine wq_if_lt C 284 (by omega) (by decide) dL_isTick_211 (fun hc211 => ?_) (fun hc211 => ?_)
                              · skip
                                exfalso; omega
                              · skip
                                refine wq_iload C rfl dL_isTick_214 ?_
                                refine wq_bipush C (n := 16) (by decide) dL_isTick_216 ?_
                                refine wq_icmp_gt C 284 (by omega) (by omega) (by decide) dL_isTick_218 (fun hc218 => ?_) (fun hc218 => ?_)
                                · skip
                                  exfalso; omega
                                · skip
                                  refine wq_aload_n C rfl dL_isTick_221 ?_
                                  refine wq_cI C (av := []) (index := 120) (c_X5_queued l g (lC_inj hI) σ117 (ab_tick S) (48 * (ab_tick S) 19 3) hC2 hS2) (cwV 0 C.1.2.2.2.2 gL_isTick_X5_queued rfl rfl rfl (by decide +kernel) ⟨Nat.le_of_ble_eq_true rfl, Nat.le_of_ble_eq_true rfl⟩) rfl rfl (Nat.le_of_ble_eq_true rfl) dL_isTick_222 ⟨(Nat.le_of_ble_eq_true rfl), (Nat.le_of_ble_eq_true rfl)⟩ (fun r222 σ222 hp222 => ?_)
                                  obtain ⟨hsg222, hr222⟩ := hp222
                                  rw [hsg222, l_mix_s]
                                  obtain rfl : r222 = ab_qd (ab_tick S) := hr222.trans (by first | rfl | (congr 1; omega))
                                  refine wq_iload C rfl dL_isTick_225 ?_
                                  refine wq_iload C rfl dL_isTick_227 ?_
                                  refine wq_iadd C dL_isTick_229 ?_
                                  refine wq_iload C rfl dL_isTick_230 ?_
                                  refine wq_isub C dL_isTick_232 ?_
                                  refine wq_iload C rfl dL_isTick_233 ?_
                                  refine wq_isub C dL_isTick_235 ?_
                                  refine wq_icmp_ne C 284 (by omega) (by omega) (by decide) dL_isTick_236 (fun hc236 => ?_) (fun hc236 => ?_)
                                  · skip
                                    exfalso; omega
                                  · skip
                                    refine wq_aload_n C rfl dL_isTick_239 ?_
                                    refine wq_iconst C dL_isTick_240 ?_
                                    refine wq_iald C (k := 61) (n := 4) rfl (by decide) (by decide) (0) rfl (by omega) dL_isTick_241 ?_
                                    rw [hm20, tm]
                                    refine wq_if_gt C 254 (by omega) (by decide) dL_isTick_242 (fun hc242 => ?_) (fun hc242 => ?_)
                                    · skip
                                      refine wq_aload_n C rfl dL_isTick_254 ?_
                                      refine wq_cI C (av := []) (index := 117) (c_X5_returning l g (lC_inj hI) σ117 (ab_tick S) (48 * (ab_tick S) 19 3) hC2 hS2) (cwV 0 C.1.2.2.2.2 gL_isTick_X5_returning rfl rfl rfl (by decide +kernel) ⟨Nat.le_of_ble_eq_true rfl, Nat.le_of_ble_eq_true rfl⟩) rfl rfl (Nat.le_of_ble_eq_true rfl) dL_isTick_255 ⟨(Nat.le_of_ble_eq_true rfl), (Nat.le_of_ble_eq_true rfl)⟩ (fun r255 σ255 hp255 => ?_)
                                      obtain ⟨hsg255, hr255⟩ := hp255
                                      rw [hsg255, l_mix_s]
                                      obtain rfl : r255 = ab_ret (ab_tick S) := hr255.trans (by first | rfl | (congr 1; omega))
                                      refine wq_iload C rfl dL_isTick_258 ?_
                                      refine wq_bipush C (n := 80) (by decide) dL_isTick_260 ?_
                                      refine wq_iadd C dL_isTick_262 ?_
                                      refine wq_icmp_gt C 284 (by omega) (by omega) (by decide) dL_isTick_263 (fun hc263 => ?_) (fun hc263 => ?_)
                                      · skip
                                        exfalso; omega
                                      · skip
                                        refine wq_iload C rfl dL_isTick_266 ?_
                                        refine wq_if_gt C 280 (by omega) (by decide) dL_isTick_268 (fun hc268 => ?_) (fun hc268 => ?_)
                                        · skip
                                          refine wq_iconst C dL_isTick_280 ?_
                                          refine wq_goto C 285 (by decide) dL_isTick_281 ?_
                                          refine wq_zret C hr hlk (Nat.le_of_ble_eq_true rfl) (Nat.le_of_ble_eq_true rfl) (by omega) dL_isTick_285 ?_
                                          exact ⟨rfl, hw2⟩
                                        · skip
                                          refine wq_aload_n C rfl dL_isTick_271 ?_
                                          refine wq_cI C (av := []) (index := 117) (c_X5_returning l g (lC_inj hI) σ117 (ab_tick S) (48 * (ab_tick S) 19 3) hC2 hS2) (cwV 0 C.1.2.2.2.2 gL_isTick_X5_returning rfl rfl rfl (by decide +kernel) ⟨Nat.le_of_ble_eq_true rfl, Nat.le_of_ble_eq_true rfl⟩) rfl rfl (Nat.le_of_ble_eq_true rfl) dL_isTick_272 ⟨(Nat.le_of_ble_eq_true rfl), (Nat.le_of_ble_eq_true rfl)⟩ (fun r272 σ272 hp272 => ?_)
                                          obtain ⟨hsg272, hr272⟩ := hp272
                                          rw [hsg272, l_mix_s]
                                          obtain rfl : r272 = ab_ret (ab_tick S) := hr272.trans (by first | rfl | (congr 1; omega))
                                          refine wq_iload C rfl dL_isTick_275 ?_
                                          refine wq_icmp_gt C 284 (by omega) (by omega) (by decide) dL_isTick_277 (fun hc277 => ?_) (fun hc277 => ?_)
                                          · skip
                                            exfalso; omega
                                          · skip
                                            refine wq_iconst C dL_isTick_280 ?_
                                            refine wq_goto C 285 (by decide) dL_isTick_281 ?_
                                            refine wq_zret C hr hlk (Nat.le_of_ble_eq_true rfl) (Nat.le_of_ble_eq_true rfl) (by omega) dL_isTick_285 ?_
                                            exact ⟨rfl, hw2⟩
                                    · skip
                                      refine wq_aload_n C rfl dL_isTick_245 ?_
                                      refine wq_cI C (av := []) (index := 117) (c_X5_returning l g (lC_inj hI) σ117 (ab_tick S) (48 * (ab_tick S) 19 3) hC2 hS2) (cwV 0 C.1.2.2.2.2 gL_isTick_X5_returning rfl rfl rfl (by decide +kernel) ⟨Nat.le_of_ble_eq_true rfl, Nat.le_of_ble_eq_true rfl⟩) rfl rfl (Nat.le_of_ble_eq_true rfl) dL_isTick_246 ⟨(Nat.le_of_ble_eq_true rfl), (Nat.le_of_ble_eq_true rfl)⟩ (fun r246 σ246 hp246 => ?_)
                                      obtain ⟨hsg246, hr246⟩ := hp246
                                      rw [hsg246, l_mix_s]
                                      obtain rfl : r246 = ab_ret (ab_tick S) := hr246.trans (by first | rfl | (congr 1; omega))
                                      refine wq_bipush C (n := 80) (by decide) dL_isTick_249 ?_
                                      refine wq_icmp_gt C 284 (by omega) (by omega) (by decide) dL_isTick_251 (fun hc251 => ?_) (fun hc251 => ?_)
                                      · skip
                                        exfalso; omega
                                      · skip
                                        refine wq_aload_n C rfl dL_isTick_254 ?_
                                        refine wq_cI C (av := []) (index := 117) (c_X5_returning l g (lC_inj hI) σ117 (ab_tick S) (48 * (ab_tick S) 19 3) hC2 hS2) (cwV 0 C.1.2.2.2.2 gL_isTick_X5_returning rfl rfl rfl (by decide +kernel) ⟨Nat.le_of_ble_eq_true rfl, Nat.le_of_ble_eq_true rfl⟩) rfl rfl (Nat.le_of_ble_eq_true rfl) dL_isTick_255 ⟨(Nat.le_of_ble_eq_true rfl), (Nat.le_of_ble_eq_true rfl)⟩ (fun r255 σ255 hp255 => ?_)
                                        obtain ⟨hsg255, hr255⟩ := hp255
                                        rw [hsg255, l_mix_s]
                                        obtain rfl : r255 = ab_ret (ab_tick S) := hr255.trans (by first | rfl | (congr 1; omega))
                                        refine wq_iload C rfl dL_isTick_258 ?_
                                        refine wq_bipush C (n := 80) (by decide) dL_isTick_260 ?_
                                        refine wq_iadd C dL_isTick_262 ?_
                                        refine wq_icmp_gt C 284 (by omega) (by omega) (by decide) dL_isTick_263 (fun hc263 => ?_) (fun hc263 => ?_)
                                        · skip
                                          exfalso; omega
                                        · skip
                                          refine wq_iload C rfl dL_isTick_266 ?_
                                          refine wq_if_gt C 280 (by omega) (by decide) dL_isTick_268 (fun hc268 => ?_) (fun hc268 => ?_)
                                          · skip
                                            refine wq_iconst C dL_isTick_280 ?_
                                            refine wq_goto C 285 (by decide) dL_isTick_281 ?_
                                            refine wq_zret C hr hlk (Nat.le_of_ble_eq_true rfl) (Nat.le_of_ble_eq_true rfl) (by omega) dL_isTick_285 ?_
                                            exact ⟨rfl, hw2⟩
                                          · skip
                                            refine wq_aload_n C rfl dL_isTick_271 ?_
                                            refine wq_cI C (av := []) (index := 117) (c_X5_returning l g (lC_inj hI) σ117 (ab_tick S) (48 * (ab_tick S) 19 3) hC2 hS2) (cwV 0 C.1.2.2.2.2 gL_isTick_X5_returning rfl rfl rfl (by decide +kernel) ⟨Nat.le_of_ble_eq_true rfl, Nat.le_of_ble_eq_true rfl⟩) rfl rfl (Nat.le_of_ble_eq_true rfl) dL_isTick_272 ⟨(Nat.le_of_ble_eq_true rfl), (Nat.le_of_ble_eq_true rfl)⟩ (fun r272 σ272 hp272 => ?_)
                                            obtain ⟨hsg272, hr272⟩ := hp272
                                            rw [hsg272, l_mix_s]
                                            obtain rfl : r272 = ab_ret (ab_tick S) := hr272.trans (by first | rfl | (congr 1; omega))
                                            refine wq_iload C rfl dL_isTick_275 ?_
                                            refine wq_icmp_gt C 284 (by omega) (by omega) (by decide) dL_isTick_277 (fun hc277 => ?_) (fun hc277 => ?_)
                                            · skip
                                              exfalso; omega
                                            · skip
                                              refine wq_iconst C dL_isTick_280 ?_
                                              refine wq_goto C 285 (by decide) dL_isTick_281 ?_
                                              refine wq_zret C hr hlk (Nat.le_of_ble_eq_true rfl) (Nat.le_of_ble_eq_true rfl) (by omega) dL_isTick_285 ?_
                                              exact ⟨rfl, hw2⟩
                  · skip
                    refine wq_iload C rfl dL_isTick_134 ?_
                    refine wq_aload_n C rfl dL_isTick_136 ?_
                    refine wq_iload C rfl dL_isTick_137 ?_
                    refine wq_cI C (av := [.inl (((j : Nat) : Int))]) (index := 34) (z_X5_sent l g (lC_inj hI) σ117 (((j : Nat) : Int)) (ab_tick S) (48 * (ab_tick S) 19 3) hC2 hS2 (by omega)) (cwV 1 C.1.2.2.2.2 gL_isTick_X5_sent rfl rfl rfl (by decide +kernel) ⟨Nat.le_of_ble_eq_true rfl, Nat.le_of_ble_eq_true rfl⟩) rfl rfl (Nat.le_of_ble_eq_true rfl) dL_isTick_139 ⟨(Nat.le_of_ble_eq_true rfl), (Nat.le_of_ble_eq_true rfl)⟩ (fun r139 σ139 hp139 => ?_)
                    obtain ⟨hsg139, hr139⟩ := hp139
                    rw [hsg139, l_mix_s]
                    obtain rfl : r139 = (ab_tick S) 4 j := hr139.trans (by first | rfl | (congr 1; omega))
                    refine wq_iadd C dL_isTick_142 ?_
                    refine wq_istore C (by decide) (Nat.le_of_ble_eq_true rfl) rfl dL_isTick_143 ?_
                    refine wq_iload C rfl dL_isTick_145 ?_
                    refine wq_aload_n C rfl dL_isTick_147 ?_
                    refine wq_iload C rfl dL_isTick_148 ?_
                    refine wq_cI C (av := [.inl (((j : Nat) : Int))]) (index := 40) (z_X5_lost l g (lC_inj hI) σ117 (((j : Nat) : Int)) (ab_tick S) (48 * (ab_tick S) 19 3) hC2 hS2 (by omega)) (cwV 1 C.1.2.2.2.2 gL_isTick_X5_lost rfl rfl rfl (by decide +kernel) ⟨Nat.le_of_ble_eq_true rfl, Nat.le_of_ble_eq_true rfl⟩) rfl rfl (Nat.le_of_ble_eq_true rfl) dL_isTick_150 ⟨(Nat.le_of_ble_eq_true rfl), (Nat.le_of_ble_eq_true rfl)⟩ (fun r150 σ150 hp150 => ?_)
                    obtain ⟨hsg150, hr150⟩ := hp150
                    rw [hsg150, l_mix_s]
                    obtain rfl : r150 = (ab_tick S) 6 j := hr150.trans (by first | rfl | (congr 1; omega))
                    refine wq_iadd C dL_isTick_153 ?_
                    refine wq_istore C (by decide) (Nat.le_of_ble_eq_true rfl) rfl dL_isTick_154 ?_
                    refine wq_iload C rfl dL_isTick_156 ?_
                    refine wq_aload_n C rfl dL_isTick_158 ?_
                    refine wq_iload C rfl dL_isTick_159 ?_
                    refine wq_cI C (av := [.inl (((j : Nat) : Int))]) (index := 37) (z_X5_delivered l g (lC_inj hI) σ117 (((j : Nat) : Int)) (ab_tick S) (48 * (ab_tick S) 19 3) hC2 hS2 (by omega)) (cwV 1 C.1.2.2.2.2 gL_isTick_X5_delivered rfl rfl rfl (by decide +kernel) ⟨Nat.le_of_ble_eq_true rfl, Nat.le_of_ble_eq_true rfl⟩) rfl rfl (Nat.le_of_ble_eq_true rfl) dL_isTick_161 ⟨(Nat.le_of_ble_eq_true rfl), (Nat.le_of_ble_eq_true rfl)⟩ (fun r161 σ161 hp161 => ?_)
                    obtain ⟨hsg161, hr161⟩ := hp161
                    rw [hsg161, l_mix_s]
                    obtain rfl : r161 = (ab_tick S) 5 j := hr161.trans (by first | rfl | (congr 1; omega))
                    refine wq_iadd C dL_isTick_164 ?_
                    refine wq_istore C (by decide) (Nat.le_of_ble_eq_true rfl) rfl dL_isTick_165 ?_
                    refine wq_iinc C rfl (by decide) rfl dL_isTick_167 ?_
                    refine wq_goto C 125 (by decide) dL_isTick_170 ?_
                    have hag6 : (-(am_sum (fun f => S 4 f) (ab_n S)) + am_sum (fun f => (ab_tick S) 4 f) j) + ((ab_tick S) 4 j) = -(am_sum (fun f => S 4 f) (ab_n S)) + am_sum (fun f => (ab_tick S) 4 f) (j + 1) := by rw [am_sum]; omega
                    rw [hag6]
                    have hag7 : (-(am_sum (fun f => S 6 f) (ab_n S)) + am_sum (fun f => (ab_tick S) 6 f) j) + ((ab_tick S) 6 j) = -(am_sum (fun f => S 6 f) (ab_n S)) + am_sum (fun f => (ab_tick S) 6 f) (j + 1) := by rw [am_sum]; omega
                    rw [hag7]
                    have hag8 : (-(am_sum (fun f => S 5 f) (ab_n S)) + am_sum (fun f => (ab_tick S) 5 f) j) + ((ab_tick S) 5 j) = -(am_sum (fun f => S 5 f) (ab_n S)) + am_sum (fun f => (ab_tick S) 5 f) (j + 1) := by rw [am_sum]; omega
                    rw [hag8]
                    exact ihj (j + 1) (by omega) (by omega)
              have e125 := hl125 (ab_n S + 1) 0 (by omega) (by omega)
              rw [show am_sum (fun f => (ab_tick S) 4 f) 0 = 0 from rfl, show am_sum (fun f => (ab_tick S) 6 f) 0 = 0 from rfl, show am_sum (fun f => (ab_tick S) 5 f) 0 = 0 from rfl, Int.add_zero, Int.add_zero, Int.add_zero] at e125
              exact e125
            · skip
              have hs4 := hS.s4 (L := 16 + h) (by omega)
              refine wq_iload C rfl dL_isTick_90 ?_
              refine wq_aload_n C rfl dL_isTick_92 ?_
              refine wq_iload C rfl dL_isTick_93 ?_
              refine wq_cI C (av := [.inl (((h : Nat) : Int))]) (index := 60) (z_X5_downQueue l g (lC_inj hI) σ (((h : Nat) : Int)) S (48 * S 19 3) hC hS (by omega)) (cwV 1 C.1.2.2.2.2 gL_isTick_X5_downQueue rfl rfl rfl (by decide +kernel) ⟨Nat.le_of_ble_eq_true rfl, Nat.le_of_ble_eq_true rfl⟩) rfl rfl (Nat.le_of_ble_eq_true rfl) dL_isTick_95 ⟨(Nat.le_of_ble_eq_true rfl), (Nat.le_of_ble_eq_true rfl)⟩ (fun r95 σ95 hp95 => ?_)
              obtain ⟨hsg95, hr95⟩ := hp95
              rw [hsg95, l_mix_s]
              obtain rfl : r95 = S 14 (16 + h) := hr95.trans (by first | rfl | (congr 1; omega))
              refine wq_if_le C 105 (by omega) (by decide) dL_isTick_98 (fun hc98 => ?_) (fun hc98 => ?_)
              · skip
                refine wq_iconst C dL_isTick_105 ?_
                refine wq_iadd C dL_isTick_106 ?_
                refine wq_istore C (by decide) (Nat.le_of_ble_eq_true rfl) rfl dL_isTick_107 ?_
                refine wq_iinc C rfl (by decide) rfl dL_isTick_109 ?_
                refine wq_goto C 83 (by decide) dL_isTick_112 ?_
                have hag9 : (am_sum (fun h => if 0 < S 14 (16 + h) then 1 else 0) h) + (0) = am_sum (fun h => if 0 < S 14 (16 + h) then 1 else 0) (h + 1) := by
                  rw [am_sum]
                  first | rw [if_pos (by omega)] | rw [if_neg (by omega)]
                rw [hag9]
                exact ihh (h + 1) (by omega) (by omega)
              · skip
                refine wq_iconst C dL_isTick_101 ?_
                refine wq_goto C 106 (by decide) dL_isTick_102 ?_
                refine wq_iadd C dL_isTick_106 ?_
                refine wq_istore C (by decide) (Nat.le_of_ble_eq_true rfl) rfl dL_isTick_107 ?_
                refine wq_iinc C rfl (by decide) rfl dL_isTick_109 ?_
                refine wq_goto C 83 (by decide) dL_isTick_112 ?_
                have hag9 : (am_sum (fun h => if 0 < S 14 (16 + h) then 1 else 0) h) + (1) = am_sum (fun h => if 0 < S 14 (16 + h) then 1 else 0) (h + 1) := by
                  rw [am_sum]
                  first | rw [if_pos (by omega)] | rw [if_neg (by omega)]
                rw [hag9]
                exact ihh (h + 1) (by omega) (by omega)
        exact hl83 (17) 0 (by omega) (by omega)
      · skip
        refine wq_iload C rfl dL_isTick_41 ?_
        refine wq_aload_n C rfl dL_isTick_43 ?_
        refine wq_iload C rfl dL_isTick_44 ?_
        refine wq_cI C (av := [.inl (((k : Nat) : Int))]) (index := 34) (z_X5_sent l g (lC_inj hI) σ (((k : Nat) : Int)) S (48 * S 19 3) hC hS (by omega)) (cwV 1 C.1.2.2.2.2 gL_isTick_X5_sent rfl rfl rfl (by decide +kernel) ⟨Nat.le_of_ble_eq_true rfl, Nat.le_of_ble_eq_true rfl⟩) rfl rfl (Nat.le_of_ble_eq_true rfl) dL_isTick_46 ⟨(Nat.le_of_ble_eq_true rfl), (Nat.le_of_ble_eq_true rfl)⟩ (fun r46 σ46 hp46 => ?_)
        obtain ⟨hsg46, hr46⟩ := hp46
        rw [hsg46, l_mix_s]
        obtain rfl : r46 = S 4 k := hr46.trans (by first | rfl | (congr 1; omega))
        refine wq_isub C dL_isTick_49 ?_
        refine wq_istore C (by decide) (Nat.le_of_ble_eq_true rfl) rfl dL_isTick_50 ?_
        refine wq_iload C rfl dL_isTick_52 ?_
        refine wq_aload_n C rfl dL_isTick_54 ?_
        refine wq_iload C rfl dL_isTick_55 ?_
        refine wq_cI C (av := [.inl (((k : Nat) : Int))]) (index := 40) (z_X5_lost l g (lC_inj hI) σ (((k : Nat) : Int)) S (48 * S 19 3) hC hS (by omega)) (cwV 1 C.1.2.2.2.2 gL_isTick_X5_lost rfl rfl rfl (by decide +kernel) ⟨Nat.le_of_ble_eq_true rfl, Nat.le_of_ble_eq_true rfl⟩) rfl rfl (Nat.le_of_ble_eq_true rfl) dL_isTick_57 ⟨(Nat.le_of_ble_eq_true rfl), (Nat.le_of_ble_eq_true rfl)⟩ (fun r57 σ57 hp57 => ?_)
        obtain ⟨hsg57, hr57⟩ := hp57
        rw [hsg57, l_mix_s]
        obtain rfl : r57 = S 6 k := hr57.trans (by first | rfl | (congr 1; omega))
        refine wq_isub C dL_isTick_60 ?_
        refine wq_istore C (by decide) (Nat.le_of_ble_eq_true rfl) rfl dL_isTick_61 ?_
        refine wq_iload C rfl dL_isTick_63 ?_
        refine wq_aload_n C rfl dL_isTick_65 ?_
        refine wq_iload C rfl dL_isTick_66 ?_
        refine wq_cI C (av := [.inl (((k : Nat) : Int))]) (index := 37) (z_X5_delivered l g (lC_inj hI) σ (((k : Nat) : Int)) S (48 * S 19 3) hC hS (by omega)) (cwV 1 C.1.2.2.2.2 gL_isTick_X5_delivered rfl rfl rfl (by decide +kernel) ⟨Nat.le_of_ble_eq_true rfl, Nat.le_of_ble_eq_true rfl⟩) rfl rfl (Nat.le_of_ble_eq_true rfl) dL_isTick_68 ⟨(Nat.le_of_ble_eq_true rfl), (Nat.le_of_ble_eq_true rfl)⟩ (fun r68 σ68 hp68 => ?_)
        obtain ⟨hsg68, hr68⟩ := hp68
        rw [hsg68, l_mix_s]
        obtain rfl : r68 = S 5 k := hr68.trans (by first | rfl | (congr 1; omega))
        refine wq_isub C dL_isTick_71 ?_
        refine wq_istore C (by decide) (Nat.le_of_ble_eq_true rfl) rfl dL_isTick_72 ?_
        refine wq_iinc C rfl (by decide) rfl dL_isTick_74 ?_
        refine wq_goto C 32 (by decide) dL_isTick_77 ?_
        have hag6 : (-(am_sum (fun f => S 4 f) k)) - (S 4 k) = -(am_sum (fun f => S 4 f) (k + 1)) := by rw [am_sum]; omega
        rw [hag6]
        have hag7 : (-(am_sum (fun f => S 6 f) k)) - (S 6 k) = -(am_sum (fun f => S 6 f) (k + 1)) := by rw [am_sum]; omega
        rw [hag7]
        have hag8 : (-(am_sum (fun f => S 5 f) k)) - (S 5 k) = -(am_sum (fun f => S 5 f) (k + 1)) := by rw [am_sum]; omega
        rw [hag8]
        exact ihk (k + 1) (by omega) (by omega)
  exact hl32 (ab_n S + 1) 0 (by omega) (by omega)

set_option maxRecDepth 100000 in
set_option maxHeartbeats 4000000 in
theorem w_isAdded (l : Launch) (hl : l.stackTraces = false) (g : am_g) (hI : am_inj (gL g)) (σ : am_M) (a t pk q : Int)  (S : ab_S) (hw : lW S σ) (ha : 0 ≤ a ∧ a < 16) (ht : 0 ≤ t ∧ t < 16) (hpp : 1 ≤ pk ∧ pk ≤ 100) (hq : 0 ≤ q ∧ q ≤ 100) : Met l yL_isAdded wsL_isAdded ({ frames := 9, cells := 3, slots := 18, locals := 151 }) (lP g σ [.ref ((g.2.2 0 0)), .ref ((g.2.2 60 0)), qi (a), qi (t), qi (pk), qi (q)]) (lQ g (fun r σ' => r = 1 ∧ ∃ S', lW S' σ' ∧ S' 19 3 = S 19 3)) 3 18 (am_FA (gL g)) := by
  refine wq_start (cc := cL_isAdded) (nL := 11) (ret := (some .boolean)) (by decide) rfl hI rfl (fun v hv => by simp only [List.mem_cons, List.not_mem_nil, or_false] at hv; rcases hv with rfl | rfl | rfl | rfl | rfl | rfl <;> rfl) (Nat.le_of_ble_eq_true rfl) ?_
  intro p e s m below meth c C hr hlk
  change wq g p l e (headSpec wsL_isAdded ({ frames := 9, cells := 3, slots := 18, locals := 151 })).room s m ([.ref ((g.2.2 0 0)), .ref ((g.2.2 60 0)), qi (a), qi (t), qi (pk), qi (q)] : List Value).toArray below meth c (0) (0) (MQ below (lQ g (fun r σ' => r = 1 ∧ ∃ S', lW S' σ' ∧ S' 19 3 = S 19 3)) ([.ref ((g.2.2 0 0)), .ref ((g.2.2 60 0)), qi (a), qi (t), qi (pk), qi (q)] : List Value).toArray s 3 18 (am_FA (gL g))) (am_FA (gL g)) 11 0 [some (.ref ((g.2.2 0 0))), some (.ref ((g.2.2 60 0))), some (qi (a)), some (qi (t)), some (qi (pk)), some (qi (q)), none, none, none, none, none] [] σ
  obtain ⟨hC, hS, hJ, hp, hcl, hfn, hm0, hm1, hm2, hm3⟩ := id hw
  have hn24 := hS.2.1.2.2.2.2
  have hn : ((ab_n S : Nat) : Int) = S 19 4 := Int.toNat_of_nonneg hn24.1
  have hc0 := hS.2.1.2.2.2.1
  have hwd := hS.2.1.2.2.1
  have hdl := hS.2.1.1
  refine wq_aload_n C rfl dL_isAdded_0 ?_
  refine wq_cI C (av := []) (index := 92) (c_X5_flows l g (lC_inj hI) σ S (48 * S 19 3) hC hS) (cwV 0 C.1.2.2.2.2 gL_isAdded_X5_flows rfl rfl rfl (by decide +kernel) ⟨Nat.le_of_ble_eq_true rfl, Nat.le_of_ble_eq_true rfl⟩) rfl rfl (Nat.le_of_ble_eq_true rfl) dL_isAdded_1 ⟨(Nat.le_of_ble_eq_true rfl), (Nat.le_of_ble_eq_true rfl)⟩ (fun r1 σ1 hp1 => ?_)
  obtain ⟨hsg1, hr1⟩ := hp1
  rw [hsg1, l_mix_s]
  obtain rfl : r1 = S 19 4 := hr1.trans (by first | rfl | (congr 1; omega))
  refine wq_istore C (by decide) (Nat.le_of_ble_eq_true rfl) rfl dL_isAdded_4 ?_
  refine wq_aload_n C rfl dL_isAdded_6 ?_
  refine wq_cI C (av := []) (index := 98) (c_X5_clock l g (lC_inj hI) σ S (48 * S 19 3) hC hS) (cwV 0 C.1.2.2.2.2 gL_isAdded_X5_clock rfl rfl rfl (by decide +kernel) ⟨Nat.le_of_ble_eq_true rfl, Nat.le_of_ble_eq_true rfl⟩) rfl rfl (Nat.le_of_ble_eq_true rfl) dL_isAdded_7 ⟨(Nat.le_of_ble_eq_true rfl), (Nat.le_of_ble_eq_true rfl)⟩ (fun r7 σ7 hp7 => ?_)
  obtain ⟨hsg7, hr7⟩ := hp7
  rw [hsg7, l_mix_s]
  obtain rfl : r7 = S 19 3 := hr7.trans (by first | rfl | (congr 1; omega))
  refine wq_istore C (by decide) (Nat.le_of_ble_eq_true rfl) rfl dL_isAdded_10 ?_
  refine wq_aload_n C rfl dL_isAdded_12 ?_
  refine wq_sJ C (av := [.ref ((g.2.2 0 0))]) (index := 161) (w_links l hl g hI σ S (48 * S 19 3) hC hS) (va_cwS 1 C.1.2.2.2.2 gL_isAdded_L_links rfl rfl rfl (by decide +kernel) ⟨Nat.le_of_ble_eq_true rfl, Nat.le_of_ble_eq_true rfl⟩) rfl rfl (Nat.le_of_ble_eq_true rfl) dL_isAdded_13 ⟨(Nat.le_of_ble_eq_true rfl), (Nat.le_of_ble_eq_true rfl)⟩ (fun r13 σ13 hp13 => ?_)
  obtain ⟨hsg13, rfl⟩ := hp13
  rw [hsg13]
  refine wq_lstore C (by decide) (Nat.le_of_ble_eq_true rfl) rfl dL_isAdded_16 ?_
  refine wq_aload_n C rfl dL_isAdded_18 ?_
  refine wq_iload_n C rfl dL_isAdded_19 ?_
  refine wq_iload_n C rfl dL_isAdded_20 ?_
  refine wq_iload C rfl dL_isAdded_21 ?_
  refine wq_iload C rfl dL_isAdded_23 ?_
  refine wq_sW C (av := [.ref ((g.2.2 0 0)), qi (a), qi (t), qi (pk), qi (q)]) (index := 166) (w_addFlow l hl g hI σ a t pk q (by omega) (by omega) (by omega) (by omega) S (48 * S 19 3) hC hS) (vx_cwSW 5 C.1.2.2.2.2 gL_isAdded_L_addFlow rfl rfl rfl (by decide +kernel) ⟨Nat.le_of_ble_eq_true rfl, Nat.le_of_ble_eq_true rfl⟩) rfl rfl (Nat.le_of_ble_eq_true rfl) dL_isAdded_25 ⟨(Nat.le_of_ble_eq_true rfl), (Nat.le_of_ble_eq_true rfl)⟩ (fun r25 σ25 hp25 => ?_)
  have hrr : -2147483648 ≤ r25 ∧ r25 < 2147483648 := by
    rcases hp25 with ⟨h1, -⟩ | ⟨h1, -⟩ | ⟨h1, -⟩ <;> omega
  refine wq_istore C (by decide) (Nat.le_of_ble_eq_true rfl) rfl dL_isAdded_28 ?_
  refine wq_iload_n C rfl dL_isAdded_30 ?_
  refine wq_iload_n C rfl dL_isAdded_31 ?_
  refine wq_icmp_eq C 42 (by omega) (by omega) (by decide) dL_isAdded_32 (fun hc32 => ?_) (fun hc32 => ?_)
  · skip
    obtain ⟨hr25, hsg25⟩ : r25 = -62 ∧ σ25 = σ := by
      rcases hp25 with ⟨-, hk, -⟩ | ⟨h1, -, h2⟩ | ⟨-, hk, -⟩
      · exact absurd hk (by unfold ab_okA; omega)
      · exact ⟨h1, h2⟩
      · exact absurd hk (by unfold ab_okA; omega)
    rw [hsg25]
    refine wq_iload C rfl dL_isAdded_42 ?_
    refine wq_iload_n C rfl dL_isAdded_44 ?_
    refine wq_iload_n C rfl dL_isAdded_45 ?_
    refine wq_icmp_ne C 54 (by omega) (by omega) (by decide) dL_isAdded_46 (fun hc46 => ?_) (fun hc46 => ?_)
    · skip
      refine wq_bipush C (n := -63) (by decide) dL_isAdded_54 ?_
      refine wq_icmp_ne C 72 (by omega) (by omega) (by decide) dL_isAdded_56 (fun hc56 => ?_) (fun hc56 => ?_)
      · skip
        exfalso; omega
      · skip
        refine wq_aload_n C rfl dL_isAdded_59 ?_
        refine wq_cI C (av := []) (index := 92) (c_X5_flows l g (lC_inj hI) σ S (48 * S 19 3) hC hS) (cwV 0 C.1.2.2.2.2 gL_isAdded_X5_flows rfl rfl rfl (by decide +kernel) ⟨Nat.le_of_ble_eq_true rfl, Nat.le_of_ble_eq_true rfl⟩) rfl rfl (Nat.le_of_ble_eq_true rfl) dL_isAdded_60 ⟨(Nat.le_of_ble_eq_true rfl), (Nat.le_of_ble_eq_true rfl)⟩ (fun r60 σ60 hp60 => ?_)
        obtain ⟨hsg60, hr60⟩ := hp60
        rw [hsg60, l_mix_s]
        obtain rfl : r60 = S 19 4 := hr60.trans (by first | rfl | (congr 1; omega))
        refine wq_iload C rfl dL_isAdded_63 ?_
        refine wq_icmp_ne C 72 (by omega) (by omega) (by decide) dL_isAdded_65 (fun hc65 => ?_) (fun hc65 => ?_)
        · skip
          exfalso; omega
        · skip
          refine wq_iconst C dL_isAdded_68 ?_
          refine wq_goto C 73 (by decide) dL_isAdded_69 ?_
          refine wq_zret C hr hlk (Nat.le_of_ble_eq_true rfl) (Nat.le_of_ble_eq_true rfl) (by omega) dL_isAdded_73 ?_
          exact ⟨rfl, S, hw, rfl⟩
    · skip
      refine wq_bipush C (n := -62) (by decide) dL_isAdded_49 ?_
      refine wq_goto C 56 (by decide) dL_isAdded_51 ?_
      refine wq_icmp_ne C 72 (by omega) (by omega) (by decide) dL_isAdded_56 (fun hc56 => ?_) (fun hc56 => ?_)
      · skip
        exfalso; omega
      · skip
        refine wq_aload_n C rfl dL_isAdded_59 ?_
        refine wq_cI C (av := []) (index := 92) (c_X5_flows l g (lC_inj hI) σ S (48 * S 19 3) hC hS) (cwV 0 C.1.2.2.2.2 gL_isAdded_X5_flows rfl rfl rfl (by decide +kernel) ⟨Nat.le_of_ble_eq_true rfl, Nat.le_of_ble_eq_true rfl⟩) rfl rfl (Nat.le_of_ble_eq_true rfl) dL_isAdded_60 ⟨(Nat.le_of_ble_eq_true rfl), (Nat.le_of_ble_eq_true rfl)⟩ (fun r60 σ60 hp60 => ?_)
        obtain ⟨hsg60, hr60⟩ := hp60
        rw [hsg60, l_mix_s]
        obtain rfl : r60 = S 19 4 := hr60.trans (by first | rfl | (congr 1; omega))
        refine wq_iload C rfl dL_isAdded_63 ?_
        refine wq_icmp_ne C 72 (by omega) (by omega) (by decide) dL_isAdded_65 (fun hc65 => ?_) (fun hc65 => ?_)
        · skip
          exfalso; omega
        · skip
          refine wq_iconst C dL_isAdded_68 ?_
          refine wq_goto C 73 (by decide) dL_isAdded_69 ?_
          refine wq_zret C hr hlk (Nat.le_of_ble_eq_true rfl) (Nat.le_of_ble_eq_true rfl) (by omega) dL_isAdded_73 ?_
          exact ⟨rfl, S, hw, rfl⟩
  · skip
    have hok : ab_okA a t pk q := by unfold ab_okA; omega
    refine wq_iload C rfl dL_isAdded_35 ?_
    refine wq_bipush C (n := 24) (by decide) dL_isAdded_37 ?_
    refine wq_icmp_ne C 74 (by omega) (by omega) (by decide) dL_isAdded_39 (fun hc39 => ?_) (fun hc39 => ?_)
    · skip
      obtain ⟨hr25, u, hu, hs25⟩ : r25 = S 19 4 ∧ ∃ u, ab_C (ab_add S a t pk q) u ∧ σ25 = l_mix u σ := by
        rcases hp25 with ⟨h1, -, -, u, h2, h3⟩ | ⟨-, hk, -⟩ | ⟨-, -, hk, -⟩
        · exact ⟨h1, u, h2, h3⟩
        · exact absurd hok hk
        · exact absurd (show S 19 4 < 24 by omega) hk
      have hn4 : S 19 4 < 24 := by omega
      have hw2 := lW_add hw hok hn4 hu
      rw [← hs25] at hw2
      obtain ⟨hC2, hS2, -⟩ := id hw2
      have tc := add_c S a t pk q
      have z4 : ab_add S a t pk q 4 (S 19 4).toNat = 0 := by rw [add_n _ _ _ _ _ (by omega) rfl]; rfl
      have z9 : ab_add S a t pk q 9 (S 19 4).toNat = -1 := by rw [add_n _ _ _ _ _ (by omega) rfl]; rfl
      have z11 : ab_add S a t pk q 11 (S 19 4).toNat = -1 := by rw [add_n _ _ _ _ _ (by omega) rfl]; rfl
      refine wq_aload_n C rfl dL_isAdded_74 ?_
      refine wq_iload C rfl dL_isAdded_75 ?_
      refine wq_iload_n C rfl dL_isAdded_77 ?_
      refine wq_iload_n C rfl dL_isAdded_78 ?_
      refine wq_iconst C dL_isAdded_79 ?_
      refine wq_ishl C (t * 16) (i_shl (by omega) 4 (by decide) 16 rfl (by omega)) dL_isAdded_80 ?_
      refine wq_ior C (a + t * 16) (i_or (by omega) 4 16 rfl (by omega) (by omega)) dL_isAdded_81 ?_
      refine wq_iload C rfl dL_isAdded_82 ?_
      refine wq_bipush C (n := 8) (by decide) dL_isAdded_84 ?_
      refine wq_ishl C (pk * 256) (i_shl (by omega) 8 (by decide) 256 rfl (by omega)) dL_isAdded_86 ?_
      refine wq_ior C (a + t * 16 + pk * 256) (i_or (by omega) 8 256 rfl (by omega) (by omega)) dL_isAdded_87 ?_
      refine wq_iload C rfl dL_isAdded_88 ?_
      refine wq_iload C rfl dL_isAdded_90 ?_
      refine wq_iadd C dL_isAdded_92 ?_
      refine wq_bipush C (n := 16) (by decide) dL_isAdded_93 ?_
      refine wq_ishl C ((S 19 3 + q) * 65536) (i_shl (by omega) 16 (by decide) 65536 rfl (by omega)) dL_isAdded_95 ?_
      refine wq_ior C (a + t * 16 + pk * 256 + (S 19 3 + q) * 65536) (i_or (by omega) 16 65536 rfl (by omega) (by omega)) dL_isAdded_96 ?_
      refine wq_iast C (k := 60) (n := 24) rfl (by decide) (by decide) ((S 19 4).toNat) (Int.toNat_of_nonneg hn24.1).symm (by omega) dL_isAdded_97 ?_
      obtain ⟨σ97, hσ97⟩ : ∃ σ97, σ97 = am_up σ25 60 0 (S 19 4).toNat (a + t * 16 + pk * 256 + (S 19 3 + q) * 65536) := ⟨_, rfl⟩
      rw [← hσ97]
      rw [← hσ97] at hw2 hC2
      refine wq_iload C rfl dL_isAdded_98 ?_
      refine wq_iload C rfl dL_isAdded_100 ?_
      refine wq_icmp_ne C 159 (by omega) (by omega) (by decide) dL_isAdded_102 (fun hc102 => ?_) (fun hc102 => ?_)
      · skip
        exfalso; omega
      · skip
        refine wq_aload_n C rfl dL_isAdded_105 ?_
        refine wq_cI C (av := []) (index := 92) (c_X5_flows l g (lC_inj hI) σ97 (ab_add S a t pk q) (48 * (ab_add S a t pk q) 19 3) hC2 hS2) (cwV 0 C.1.2.2.2.2 gL_isAdded_X5_flows rfl rfl rfl (by decide +kernel) ⟨Nat.le_of_ble_eq_true rfl, Nat.le_of_ble_eq_true rfl⟩) rfl rfl (Nat.le_of_ble_eq_true rfl) dL_isAdded_106 ⟨(Nat.le_of_ble_eq_true rfl), (Nat.le_of_ble_eq_true rfl)⟩ (fun r106 σ106 hp106 => ?_)
        obtain ⟨hsg106, hr106⟩ := hp106
        rw [hsg106, l_mix_s]
        obtain rfl : r106 = (ab_add S a t pk q) 19 4 := hr106.trans (by first | rfl | (congr 1; omega))
        refine wq_iload C rfl dL_isAdded_109 ?_
        refine wq_iconst C dL_isAdded_111 ?_
        refine wq_iadd C dL_isAdded_112 ?_
        refine wq_icmp_ne C 159 (by omega) (by omega) (by decide) dL_isAdded_113 (fun hc113 => ?_) (fun hc113 => ?_)
        · skip
          exfalso; omega
        · skip
          refine wq_aload_n C rfl dL_isAdded_116 ?_
          refine wq_iload C rfl dL_isAdded_117 ?_
          refine wq_cI C (av := [.inl (S 19 4)]) (index := 34) (z_X5_sent l g (lC_inj hI) σ97 (S 19 4) (ab_add S a t pk q) (48 * (ab_add S a t pk q) 19 3) hC2 hS2 (by omega)) (cwV 1 C.1.2.2.2.2 gL_isAdded_X5_sent rfl rfl rfl (by decide +kernel) ⟨Nat.le_of_ble_eq_true rfl, Nat.le_of_ble_eq_true rfl⟩) rfl rfl (Nat.le_of_ble_eq_true rfl) dL_isAdded_119 ⟨(Nat.le_of_ble_eq_true rfl), (Nat.le_of_ble_eq_true rfl)⟩ (fun r119 σ119 hp119 => ?_)
          obtain ⟨hsg119, hr119⟩ := hp119
          rw [hsg119, l_mix_s]
          obtain rfl : r119 = (ab_add S a t pk q) 4 ((S 19 4)).toNat := hr119.trans (by first | rfl | (congr 1; omega))
          refine wq_if_ne C 159 (by omega) (by decide) dL_isAdded_122 (fun hc122 => ?_) (fun hc122 => ?_)
          · skip
            exfalso; omega
          · skip
            refine wq_aload_n C rfl dL_isAdded_125 ?_
            refine wq_iload C rfl dL_isAdded_126 ?_
            refine wq_cI C (av := [.inl (S 19 4)]) (index := 46) (z_X5_doneIn l g (lC_inj hI) σ97 (S 19 4) (ab_add S a t pk q) (48 * (ab_add S a t pk q) 19 3) hC2 hS2 (by omega)) (cwV 1 C.1.2.2.2.2 gL_isAdded_X5_doneIn rfl rfl rfl (by decide +kernel) ⟨Nat.le_of_ble_eq_true rfl, Nat.le_of_ble_eq_true rfl⟩) rfl rfl (Nat.le_of_ble_eq_true rfl) dL_isAdded_128 ⟨(Nat.le_of_ble_eq_true rfl), (Nat.le_of_ble_eq_true rfl)⟩ (fun r128 σ128 hp128 => ?_)
            obtain ⟨hsg128, hr128⟩ := hp128
            rw [hsg128, l_mix_s]
            obtain rfl : r128 = (ab_add S a t pk q) 9 ((S 19 4)).toNat := hr128.trans (by first | rfl | (congr 1; omega))
            refine wq_iconst C dL_isAdded_131 ?_
            refine wq_icmp_ne C 159 (by omega) (by omega) (by decide) dL_isAdded_132 (fun hc132 => ?_) (fun hc132 => ?_)
            · skip
              exfalso; omega
            · skip
              refine wq_aload_n C rfl dL_isAdded_135 ?_
              refine wq_iload C rfl dL_isAdded_136 ?_
              refine wq_cI C (av := [.inl (S 19 4)]) (index := 52) (z_X5_spineOf l g (lC_inj hI) σ97 (S 19 4) (ab_add S a t pk q) (48 * (ab_add S a t pk q) 19 3) hC2 hS2 (by omega)) (cwV 1 C.1.2.2.2.2 gL_isAdded_X5_spineOf rfl rfl rfl (by decide +kernel) ⟨Nat.le_of_ble_eq_true rfl, Nat.le_of_ble_eq_true rfl⟩) rfl rfl (Nat.le_of_ble_eq_true rfl) dL_isAdded_138 ⟨(Nat.le_of_ble_eq_true rfl), (Nat.le_of_ble_eq_true rfl)⟩ (fun r138 σ138 hp138 => ?_)
              obtain ⟨hsg138, hr138⟩ := hp138
              rw [hsg138, l_mix_s]
              obtain rfl : r138 = (ab_add S a t pk q) 11 ((S 19 4)).toNat := hr138.trans (by first | rfl | (congr 1; omega))
              refine wq_iconst C dL_isAdded_141 ?_
              refine wq_icmp_ne C 159 (by omega) (by omega) (by decide) dL_isAdded_142 (fun hc142 => ?_) (fun hc142 => ?_)
              · skip
                exfalso; omega
              · skip
                refine wq_aload_n C rfl dL_isAdded_145 ?_
                refine wq_sJ C (av := [.ref ((g.2.2 0 0))]) (index := 161) (w_links l hl g hI σ97 (ab_add S a t pk q) (48 * (ab_add S a t pk q) 19 3) hC2 hS2) (va_cwS 1 C.1.2.2.2.2 gL_isAdded_L_links rfl rfl rfl (by decide +kernel) ⟨Nat.le_of_ble_eq_true rfl, Nat.le_of_ble_eq_true rfl⟩) rfl rfl (Nat.le_of_ble_eq_true rfl) dL_isAdded_146 ⟨(Nat.le_of_ble_eq_true rfl), (Nat.le_of_ble_eq_true rfl)⟩ (fun r146 σ146 hp146 => ?_)
                obtain ⟨hsg146, rfl⟩ := hp146
                rw [hsg146]
                refine wq_lload C rfl dL_isAdded_149 ?_
                rw [lli_add]
                refine wq_lcmpE C dL_isAdded_151 ?_
                refine wq_if_ne C 159 (by omega) (by decide) dL_isAdded_152 (fun hc152 => ?_) (fun hc152 => ?_)
                · exfalso; omega
                · skip
                  refine wq_iconst C dL_isAdded_155 ?_
                  refine wq_goto C 160 (by decide) dL_isAdded_156 ?_
                  refine wq_zret C hr hlk (Nat.le_of_ble_eq_true rfl) (Nat.le_of_ble_eq_true rfl) (by omega) dL_isAdded_160 ?_
                  exact ⟨rfl, _, hw2, add_o _ _ _ _ _ _ (by omega) (by omega)⟩
    · skip
      obtain ⟨hr25, hsg25⟩ : r25 = -63 ∧ σ25 = σ := by
        rcases hp25 with ⟨-, -, hk, -⟩ | ⟨-, hk, -⟩ | ⟨h1, -, -, h2⟩
        · exact absurd hk (by omega)
        · exact absurd hok hk
        · exact ⟨h1, h2⟩
      rw [hsg25]
      refine wq_iload C rfl dL_isAdded_42 ?_
      refine wq_iload_n C rfl dL_isAdded_44 ?_
      refine wq_iload_n C rfl dL_isAdded_45 ?_
      refine wq_icmp_ne C 54 (by omega) (by omega) (by decide) dL_isAdded_46 (fun hc46 => ?_) (fun hc46 => ?_)
      · skip
        refine wq_bipush C (n := -63) (by decide) dL_isAdded_54 ?_
        refine wq_icmp_ne C 72 (by omega) (by omega) (by decide) dL_isAdded_56 (fun hc56 => ?_) (fun hc56 => ?_)
        · skip
          exfalso; omega
        · skip
          refine wq_aload_n C rfl dL_isAdded_59 ?_
          refine wq_cI C (av := []) (index := 92) (c_X5_flows l g (lC_inj hI) σ S (48 * S 19 3) hC hS) (cwV 0 C.1.2.2.2.2 gL_isAdded_X5_flows rfl rfl rfl (by decide +kernel) ⟨Nat.le_of_ble_eq_true rfl, Nat.le_of_ble_eq_true rfl⟩) rfl rfl (Nat.le_of_ble_eq_true rfl) dL_isAdded_60 ⟨(Nat.le_of_ble_eq_true rfl), (Nat.le_of_ble_eq_true rfl)⟩ (fun r60 σ60 hp60 => ?_)
          obtain ⟨hsg60, hr60⟩ := hp60
          rw [hsg60, l_mix_s]
          obtain rfl : r60 = S 19 4 := hr60.trans (by first | rfl | (congr 1; omega))
          refine wq_iload C rfl dL_isAdded_63 ?_
          refine wq_icmp_ne C 72 (by omega) (by omega) (by decide) dL_isAdded_65 (fun hc65 => ?_) (fun hc65 => ?_)
          · skip
            exfalso; omega
          · skip
            refine wq_iconst C dL_isAdded_68 ?_
            refine wq_goto C 73 (by decide) dL_isAdded_69 ?_
            refine wq_zret C hr hlk (Nat.le_of_ble_eq_true rfl) (Nat.le_of_ble_eq_true rfl) (by omega) dL_isAdded_73 ?_
            exact ⟨rfl, S, hw, rfl⟩
      · skip
        refine wq_bipush C (n := -62) (by decide) dL_isAdded_49 ?_
        refine wq_goto C 56 (by decide) dL_isAdded_51 ?_
        refine wq_icmp_ne C 72 (by omega) (by omega) (by decide) dL_isAdded_56 (fun hc56 => ?_) (fun hc56 => ?_)
        · skip
          exfalso; omega
        · skip
          refine wq_aload_n C rfl dL_isAdded_59 ?_
          refine wq_cI C (av := []) (index := 92) (c_X5_flows l g (lC_inj hI) σ S (48 * S 19 3) hC hS) (cwV 0 C.1.2.2.2.2 gL_isAdded_X5_flows rfl rfl rfl (by decide +kernel) ⟨Nat.le_of_ble_eq_true rfl, Nat.le_of_ble_eq_true rfl⟩) rfl rfl (Nat.le_of_ble_eq_true rfl) dL_isAdded_60 ⟨(Nat.le_of_ble_eq_true rfl), (Nat.le_of_ble_eq_true rfl)⟩ (fun r60 σ60 hp60 => ?_)
          obtain ⟨hsg60, hr60⟩ := hp60
          rw [hsg60, l_mix_s]
          obtain rfl : r60 = S 19 4 := hr60.trans (by first | rfl | (congr 1; omega))
          refine wq_iload C rfl dL_isAdded_63 ?_
          refine wq_icmp_ne C 72 (by omega) (by omega) (by decide) dL_isAdded_65 (fun hc65 => ?_) (fun hc65 => ?_)
          · skip
            exfalso; omega
          · skip
            refine wq_iconst C dL_isAdded_68 ?_
            refine wq_goto C 73 (by decide) dL_isAdded_69 ?_
            refine wq_zret C hr hlk (Nat.le_of_ble_eq_true rfl) (Nat.le_of_ble_eq_true rfl) (by omega) dL_isAdded_73 ?_
            exact ⟨rfl, S, hw, rfl⟩

set_option maxRecDepth 100000 in
set_option maxHeartbeats 4000000 in
theorem w_isCutting1 (l : Launch) (hl : l.stackTraces = false) (g : am_g) (hI : am_inj (gL g)) (σ : am_M) (a y : Nat)  (S : ab_S) (hw : lW S σ) (ha : a < 4) (hy : y < 4) : Met l yL_isCutting wsL_isCutting ({ frames := 9, cells := 6, slots := 36, locals := 150 }) (lP g σ [.ref ((g.2.2 0 0)), .ref ((g.2.2 61 0)), qi (((a : Nat) : Int)), qi (((y : Nat) : Int)), qi (1)]) (lQ g (fun r σ' => r = 1 ∧ ∃ S', lW S' σ' ∧ S' 19 3 = S 19 3)) 6 36 (am_FA (gL g)) := by
  refine wq_start (cc := cL_isCutting) (nL := 13) (ret := (some .boolean)) (by decide) rfl hI rfl (fun v hv => by simp only [List.mem_cons, List.not_mem_nil, or_false] at hv; rcases hv with rfl | rfl | rfl | rfl | rfl <;> rfl) (Nat.le_of_ble_eq_true rfl) ?_
  intro p e s m below meth c C hr hlk
  change wq g p l e (headSpec wsL_isCutting ({ frames := 9, cells := 6, slots := 36, locals := 150 })).room s m ([.ref ((g.2.2 0 0)), .ref ((g.2.2 61 0)), qi (((a : Nat) : Int)), qi (((y : Nat) : Int)), qi (1)] : List Value).toArray below meth c (0) (0) (MQ below (lQ g (fun r σ' => r = 1 ∧ ∃ S', lW S' σ' ∧ S' 19 3 = S 19 3)) ([.ref ((g.2.2 0 0)), .ref ((g.2.2 61 0)), qi (((a : Nat) : Int)), qi (((y : Nat) : Int)), qi (1)] : List Value).toArray s 6 36 (am_FA (gL g))) (am_FA (gL g)) 13 0 [some (.ref ((g.2.2 0 0))), some (.ref ((g.2.2 61 0))), some (qi (((a : Nat) : Int))), some (qi (((y : Nat) : Int))), some (qi (1)), none, none, none, none, none, none, none, none] [] σ
  obtain ⟨hC, hS, hJ, hp, hcl, hfn, hm0, hm1, hm2, hm3⟩ := id hw
  have hn24 := hS.2.1.2.2.2.2
  have hn : ((ab_n S : Nat) : Int) = S 19 4 := Int.toNat_of_nonneg hn24.1
  have hc0 := hS.2.1.2.2.2.1
  have hwd := hS.2.1.2.2.1
  have hdl := hS.2.1.1
  have h01 := hS.2.2.2.2.2.2.1 (4 * a + y) (by omega)
  have q1 := hS.s4 (L := 32 + 4 * a + y) (by omega)
  have q2 := hS.s4 (L := 48 + 4 * y + a) (by omega)
  refine wq_iconst C dL_isCutting_0 ?_
  refine wq_iconst C dL_isCutting_1 ?_
  refine wq_iload_n C rfl dL_isCutting_2 ?_
  refine wq_imul C dL_isCutting_3 ?_
  refine wq_iload_n C rfl dL_isCutting_4 ?_
  refine wq_iadd C dL_isCutting_5 ?_
  refine wq_ishl C (((2 ^ (4 * a + y) : Nat) : Int)) (by rw [show (4 * ((a : Nat) : Int) + ((y : Nat) : Int)) = ((4 * a + y : Nat) : Int) by omega]; exact l_pow (by omega)) dL_isCutting_6 ?_
  refine wq_istore C (by decide) (Nat.le_of_ble_eq_true rfl) rfl dL_isCutting_7 ?_
  refine wq_aload_n C rfl dL_isCutting_9 ?_
  refine wq_iconst C dL_isCutting_10 ?_
  refine wq_iald C (k := 61) (n := 4) rfl (by decide) (by decide) (3) rfl (by omega) dL_isCutting_11 ?_
  rw [hm3]
  refine wq_iload C rfl dL_isCutting_12 ?_
  refine wq_iand C (((2 ^ (4 * a + y) * (ub S (4 * a + y)).toNat : Nat) : Int)) (lm_and (u := ub S) (by omega)) dL_isCutting_14 ?_
  obtain ⟨zb, hzb⟩ : ∃ zb : Int, zb = ((2 ^ (4 * a + y) * (ub S (4 * a + y)).toNat : Nat) : Int) := ⟨_, rfl⟩
  rw [← hzb]
  have hP := l_pr (q := (4 * a + y)) (by omega)
  have hP0 : 0 < 2 ^ (4 * a + y) := Nat.two_pow_pos _
  have hub : (zb = 0 ∧ S 18 (4 * a + y) = 0) ∨ (1 ≤ zb ∧ zb ≤ 32768 ∧ S 18 (4 * a + y) = 1) := by
    have hb := ub_n h01
    rw [hzb]
    cases hu : ub S (4 * a + y)
    · rw [hu] at hb; exact Or.inl ⟨by show ((2 ^ (4 * a + y) * 0 : Nat) : Int) = 0; rw [Nat.mul_zero]; rfl, hb.symm⟩
    · rw [hu] at hb; refine Or.inr ⟨?_, ?_, hb.symm⟩
      · show (1 : Int) ≤ ((2 ^ (4 * a + y) * 1 : Nat) : Int); rw [Nat.mul_one]; omega
      · show ((2 ^ (4 * a + y) * 1 : Nat) : Int) ≤ 32768; rw [Nat.mul_one]; omega
  refine wq_if_eq C 22 (by omega) (by decide) dL_isCutting_15 (fun hc15 => ?_) (fun hc15 => ?_)
  · skip
    have h18 : S 18 (4 * a + y) = 0 := by omega
    refine wq_iconst C dL_isCutting_22 ?_
    refine wq_istore C (by decide) (Nat.le_of_ble_eq_true rfl) rfl dL_isCutting_23 ?_
    refine wq_aload_n C rfl dL_isCutting_25 ?_
    refine wq_iload_n C rfl dL_isCutting_26 ?_
    refine wq_iload_n C rfl dL_isCutting_27 ?_
    refine wq_cI C (av := [.inl (((a : Nat) : Int)), .inl (((y : Nat) : Int))]) (index := 69) (z_X5_northQueue l g (lC_inj hI) σ (((a : Nat) : Int)) (((y : Nat) : Int)) S (48 * S 19 3) hC hS (by omega)) (cwV 2 C.1.2.2.2.2 gL_isCutting_X5_northQueue rfl rfl rfl (by decide +kernel) ⟨Nat.le_of_ble_eq_true rfl, Nat.le_of_ble_eq_true rfl⟩) rfl rfl (Nat.le_of_ble_eq_true rfl) dL_isCutting_28 ⟨(Nat.le_of_ble_eq_true rfl), (Nat.le_of_ble_eq_true rfl)⟩ (fun r28 σ28 hp28 => ?_)
    obtain ⟨hsg28, hr28⟩ := hp28
    rw [hsg28, l_mix_s]
    obtain rfl : r28 = S 14 (32 + 4 * a + y) := hr28.trans (by first | rfl | (congr 1; omega))
    refine wq_aload_n C rfl dL_isCutting_31 ?_
    refine wq_iload_n C rfl dL_isCutting_32 ?_
    refine wq_iload_n C rfl dL_isCutting_33 ?_
    refine wq_cI C (av := [.inl (((y : Nat) : Int)), .inl (((a : Nat) : Int))]) (index := 72) (z_X5_southQueue l g (lC_inj hI) σ (((y : Nat) : Int)) (((a : Nat) : Int)) S (48 * S 19 3) hC hS (by omega)) (cwV 2 C.1.2.2.2.2 gL_isCutting_X5_southQueue rfl rfl rfl (by decide +kernel) ⟨Nat.le_of_ble_eq_true rfl, Nat.le_of_ble_eq_true rfl⟩) rfl rfl (Nat.le_of_ble_eq_true rfl) dL_isCutting_34 ⟨(Nat.le_of_ble_eq_true rfl), (Nat.le_of_ble_eq_true rfl)⟩ (fun r34 σ34 hp34 => ?_)
    obtain ⟨hsg34, hr34⟩ := hp34
    rw [hsg34, l_mix_s]
    obtain rfl : r34 = S 14 (48 + 4 * y + a) := hr34.trans (by first | rfl | (congr 1; omega))
    refine wq_iadd C dL_isCutting_37 ?_
    refine wq_istore C (by decide) (Nat.le_of_ble_eq_true rfl) rfl dL_isCutting_38 ?_
    refine wq_iconst C dL_isCutting_40 ?_
    refine wq_istore C (by decide) (Nat.le_of_ble_eq_true rfl) rfl dL_isCutting_41 ?_
    refine wq_aload_n C rfl dL_isCutting_43 ?_
    refine wq_sJ C (av := [.ref ((g.2.2 0 0))]) (index := 158) (w_flows l hl g hI σ S (48 * S 19 3) hC hS) (va_cwS 1 C.1.2.2.2.2 gL_isCutting_L_flows rfl rfl rfl (by decide +kernel) ⟨Nat.le_of_ble_eq_true rfl, Nat.le_of_ble_eq_true rfl⟩) rfl rfl (Nat.le_of_ble_eq_true rfl) dL_isCutting_44 ⟨(Nat.le_of_ble_eq_true rfl), (Nat.le_of_ble_eq_true rfl)⟩ (fun r44 σ44 hp44 => ?_)
    obtain ⟨hsg44, rfl⟩ := hp44
    rw [hsg44]
    refine wq_lstore C (by decide) (Nat.le_of_ble_eq_true rfl) rfl dL_isCutting_47 ?_
    refine wq_iload C rfl dL_isCutting_49 ?_
    refine wq_if_eq C 63 (by omega) (by decide) dL_isCutting_51 (fun hc51 => ?_) (fun hc51 => ?_)
    · exfalso; omega
    · skip
      refine wq_aload_n C rfl dL_isCutting_54 ?_
      refine wq_iload_n C rfl dL_isCutting_55 ?_
      refine wq_iload_n C rfl dL_isCutting_56 ?_
      refine wq_sW C (av := [.ref ((g.2.2 0 0)), qi (((a : Nat) : Int)), qi (((y : Nat) : Int))]) (index := 172) (w_cut l hl g hI σ _ _ (by omega) (by omega) S (48 * S 19 3) hC hS) (vx_cwSW 3 C.1.2.2.2.2 gL_isCutting_L_cut rfl rfl rfl (by decide +kernel) ⟨Nat.le_of_ble_eq_true rfl, Nat.le_of_ble_eq_true rfl⟩) rfl rfl (Nat.le_of_ble_eq_true rfl) dL_isCutting_57 ⟨(Nat.le_of_ble_eq_true rfl), (Nat.le_of_ble_eq_true rfl)⟩ (fun r57 σ57 hp57 => ?_)
      obtain ⟨⟨u, hu, hs1⟩, hr1⟩ := cut_one (a := a) (y := y) (by omega) (by omega) hC h01 hp57
      have hm3b : σ57 61 0 3 = ((lcm S : Nat) : Int) := by rw [hs1, mix_hi u σ (by omega)]; exact hm3
      have hcr0 := cuts_r (I_cut hS (Or.inl rfl : (0 : Int) = 0 ∨ (0 : Int) = 1) (4 * a + y))
      have hrr : -2147483648 ≤ r57 ∧ r57 < 2147483648 := by rw [hr1]; split <;> omega
      refine wq_goto C 69 (by decide) dL_isCutting_60 ?_
      refine wq_istore C (by decide) (Nat.le_of_ble_eq_true rfl) rfl dL_isCutting_69 ?_
      refine wq_aload_n C rfl dL_isCutting_71 ?_
      refine wq_iconst C dL_isCutting_72 ?_
      refine wq_iload C rfl dL_isCutting_73 ?_
      refine wq_if_eq C 87 (by omega) (by decide) dL_isCutting_75 (fun hc75 => ?_) (fun hc75 => ?_)
      · exfalso; omega
      · skip
        refine wq_aload_n C rfl dL_isCutting_78 ?_
        refine wq_iconst C dL_isCutting_79 ?_
        refine wq_iald C (k := 61) (n := 4) rfl (by decide) (by decide) (3) rfl (by omega) dL_isCutting_80 ?_
        rw [hm3b]
        refine wq_iload C rfl dL_isCutting_81 ?_
        refine wq_ior C (((lcm (ab_u S 18 (4 * a + y) 1) : Nat) : Int)) (by unfold lcm; rw [ub_u]; exact lm_set (u := ub S) (by omega)) dL_isCutting_83 ?_
        refine wq_goto C 95 (by decide) dL_isCutting_84 ?_
        refine wq_iast C (k := 61) (n := 4) rfl (by decide) (by decide) (3) rfl (by omega) dL_isCutting_95 ?_
        obtain ⟨σ95, hσ95⟩ : ∃ σ95, σ95 = am_up σ57 61 0 3 ((lcm (ab_u S 18 (4 * a + y) 1) : Nat) : Int) := ⟨_, rfl⟩
        rw [← hσ95]
        have hw2 : lW (ab_u S 18 (4 * a + y) 1) σ95 := by
          rw [hσ95, hs1]
          refine lW_cut hw (u := u) (by omega) hu (fun k hk => ?_) ?_ (fun i j hij => ?_) ?_
          · rw [up_lo _ (by omega)]; unfold l_mix; rw [if_pos hk]
          · rw [up_lo _ (by omega)]; exact mix_hi u σ (by omega)
          · rw [am_up_app, if_neg (fun z => hij z.2), mix_hi u σ (by omega)]
          · rw [am_up_app, if_pos ⟨rfl, rfl, rfl⟩]
        obtain ⟨hC2, hS2x, -, -, -, -, -, -, -, hm23⟩ := id hw2
        have hT : ∀ g i, ¬ g = 18 → (ab_u S 18 (4 * a + y) 1) g i = S g i := fun g i z => by rw [ab_u_app, if_neg (fun y => z y.1)]
        have hS2 : ab_I (ab_u S 18 (4 * a + y) 1) (48 * S 19 3) := I_cut hS (by omega) _
        have hT18 : (ab_u S 18 (4 * a + y) 1) 18 (4 * a + y) = 1 := by rw [ab_u_app, if_pos ⟨rfl, rfl⟩]
        have hcr := cuts_r hS2
        refine wq_iconst C dL_isCutting_96 ?_
        refine wq_istore C (by decide) (Nat.le_of_ble_eq_true rfl) rfl dL_isCutting_97 ?_
        have hl99 : ∀ (dk k : Nat), 17 ≤ k + dk → k ≤ 16 → wq g p l e (headSpec wsL_isCutting ({ frames := 9, cells := 6, slots := 36, locals := 150 })).room s m ([.ref ((g.2.2 0 0)), .ref ((g.2.2 61 0)), qi (((a : Nat) : Int)), qi (((y : Nat) : Int)), qi (1)] : List Value).toArray below meth c (2) (12) (MQ below (lQ g (fun r σ' => r = 1 ∧ ∃ S', lW S' σ' ∧ S' 19 3 = S 19 3)) ([.ref ((g.2.2 0 0)), .ref ((g.2.2 61 0)), qi (((a : Nat) : Int)), qi (((y : Nat) : Int)), qi (1)] : List Value).toArray s 6 36 (am_FA (gL g))) (am_FA (gL g)) 13 99 [some (.ref ((g.2.2 0 0))), some (.ref ((g.2.2 61 0))), some (qi (((a : Nat) : Int))), some (qi (((y : Nat) : Int))), some (qi (1)), some (qi (((2 ^ (4 * a + y) : Nat) : Int))), some (qi (0)), some (qi (S 14 (32 + 4 * a + y) + S 14 (48 + 4 * y + a))), some (qi (am_sum (fun q => (((ub (ab_u S 18 (4 * a + y) 1) q).toNat : Nat) : Int)) k)), some (.long (lfl S (ab_n S))), none, some (qi (r57)), some (qi (((k : Nat) : Int)))] [] σ95 := by
          intro dk
          induction dk with
          | zero => intro k h1 h2; omega
          | succ dk ihk =>
            intro k h1k h2k
            refine wq_iload C rfl dL_isCutting_99 ?_
            refine wq_bipush C (n := 16) (by decide) dL_isCutting_101 ?_
            refine wq_icmp_ge C 125 (by omega) (by omega) (by decide) dL_isCutting_103 (fun hc103 => ?_) (fun hc103 => ?_)
            · skip
              obtain rfl : k = 16 := by omega
              rw [cuts_b hS2]
              rw [h18, if_pos rfl] at hr1
              refine wq_iload C rfl dL_isCutting_125 ?_
              refine wq_iload C rfl dL_isCutting_127 ?_
              refine wq_iload C rfl dL_isCutting_129 ?_
              refine wq_icmp_ne C 139 (by omega) (by omega) (by decide) dL_isCutting_131 (fun hc131 => ?_) (fun hc131 => ?_)
              · skip
                refine wq_iload C rfl dL_isCutting_139 ?_
                refine wq_if_eq C 149 (by omega) (by decide) dL_isCutting_141 (fun hc141 => ?_) (fun hc141 => ?_)
                · exfalso; omega
                · skip
                  refine wq_iload C rfl dL_isCutting_144 ?_
                  refine wq_goto C 151 (by decide) dL_isCutting_146 ?_
                  refine wq_icmp_ne C 240 (by omega) (by omega) (by decide) dL_isCutting_151 (fun hc151 => ?_) (fun hc151 => ?_)
                  · skip
                    exfalso; omega
                  · skip
                    refine wq_aload_n C rfl dL_isCutting_154 ?_
                    refine wq_sJ C (av := [.ref ((g.2.2 0 0))]) (index := 158) (w_flows l hl g hI σ95 (ab_u S 18 (4 * a + y) 1) (48 * S 19 3) hC2 hS2) (va_cwS 1 C.1.2.2.2.2 gL_isCutting_L_flows rfl rfl rfl (by decide +kernel) ⟨Nat.le_of_ble_eq_true rfl, Nat.le_of_ble_eq_true rfl⟩) rfl rfl (Nat.le_of_ble_eq_true rfl) dL_isCutting_155 ⟨(Nat.le_of_ble_eq_true rfl), (Nat.le_of_ble_eq_true rfl)⟩ (fun r155 σ155 hp155 => ?_)
                    obtain ⟨hsg155, rfl⟩ := hp155
                    rw [hsg155]
                    refine wq_lload C rfl dL_isCutting_158 ?_
                    rw [lfl_cut]
                    refine wq_lcmpE C dL_isCutting_160 ?_
                    refine wq_if_ne C 240 (by omega) (by decide) dL_isCutting_161 (fun hc161 => ?_) (fun hc161 => ?_)
                    · exfalso; omega
                    · skip
                      refine wq_aload_n C rfl dL_isCutting_164 ?_
                      refine wq_iload_n C rfl dL_isCutting_165 ?_
                      refine wq_iload_n C rfl dL_isCutting_166 ?_
                      refine wq_cI C (av := [.inl (((a : Nat) : Int)), .inl (((y : Nat) : Int))]) (index := 69) (z_X5_northQueue l g (lC_inj hI) σ95 (((a : Nat) : Int)) (((y : Nat) : Int)) (ab_u S 18 (4 * a + y) 1) (48 * S 19 3) hC2 hS2 (by omega)) (cwV 2 C.1.2.2.2.2 gL_isCutting_X5_northQueue rfl rfl rfl (by decide +kernel) ⟨Nat.le_of_ble_eq_true rfl, Nat.le_of_ble_eq_true rfl⟩) rfl rfl (Nat.le_of_ble_eq_true rfl) dL_isCutting_167 ⟨(Nat.le_of_ble_eq_true rfl), (Nat.le_of_ble_eq_true rfl)⟩ (fun r167 σ167 hp167 => ?_)
                      obtain ⟨hsg167, hr167⟩ := hp167
                      rw [hsg167, l_mix_s]
                      obtain rfl : r167 = S 14 (32 + 4 * a + y) := hr167.trans (hT 14 _ (by omega))
                      refine wq_aload_n C rfl dL_isCutting_170 ?_
                      refine wq_iload_n C rfl dL_isCutting_171 ?_
                      refine wq_iload_n C rfl dL_isCutting_172 ?_
                      refine wq_cI C (av := [.inl (((y : Nat) : Int)), .inl (((a : Nat) : Int))]) (index := 72) (z_X5_southQueue l g (lC_inj hI) σ95 (((y : Nat) : Int)) (((a : Nat) : Int)) (ab_u S 18 (4 * a + y) 1) (48 * S 19 3) hC2 hS2 (by omega)) (cwV 2 C.1.2.2.2.2 gL_isCutting_X5_southQueue rfl rfl rfl (by decide +kernel) ⟨Nat.le_of_ble_eq_true rfl, Nat.le_of_ble_eq_true rfl⟩) rfl rfl (Nat.le_of_ble_eq_true rfl) dL_isCutting_173 ⟨(Nat.le_of_ble_eq_true rfl), (Nat.le_of_ble_eq_true rfl)⟩ (fun r173 σ173 hp173 => ?_)
                      obtain ⟨hsg173, hr173⟩ := hp173
                      rw [hsg173, l_mix_s]
                      obtain rfl : r173 = S 14 (48 + 4 * y + a) := hr173.trans (hT 14 _ (by omega))
                      refine wq_iadd C dL_isCutting_176 ?_
                      refine wq_iload C rfl dL_isCutting_177 ?_
                      refine wq_icmp_ne C 240 (by omega) (by omega) (by decide) dL_isCutting_179 (fun hc179 => ?_) (fun hc179 => ?_)
                      · skip
                        exfalso; omega
                      · skip
                        refine wq_iload C rfl dL_isCutting_182 ?_
                        refine wq_if_eq C 214 (by omega) (by decide) dL_isCutting_184 (fun hc184 => ?_) (fun hc184 => ?_)
                        · exfalso; omega
                        · skip
                          refine wq_aload_n C rfl dL_isCutting_187 ?_
                          refine wq_iload_n C rfl dL_isCutting_188 ?_
                          refine wq_iload_n C rfl dL_isCutting_189 ?_
                          refine wq_sW C (av := [.ref ((g.2.2 0 0)), qi (((a : Nat) : Int)), qi (((y : Nat) : Int))]) (index := 174) (w_restore l hl g hI σ95 _ _ (by omega) (by omega) (ab_u S 18 (4 * a + y) 1) (48 * S 19 3) hC2 hS2) (vx_cwSW 3 C.1.2.2.2.2 gL_isCutting_L_restore rfl rfl rfl (by decide +kernel) ⟨Nat.le_of_ble_eq_true rfl, Nat.le_of_ble_eq_true rfl⟩) rfl rfl (Nat.le_of_ble_eq_true rfl) dL_isCutting_190 ⟨(Nat.le_of_ble_eq_true rfl), (Nat.le_of_ble_eq_true rfl)⟩ (fun r190 σ190 hp190 => ?_)
                          obtain ⟨⟨u2, hu2, hs2⟩, hr2⟩ := res_one (a := a) (y := y) (by omega) (by omega) hC2 (Or.inr hT18) hp190
                          rw [au_u] at hu2
                          have hCx : ab_C (ab_u S 18 (4 * a + y) 0) σ190 := by rw [hs2]; exact C_mix hu2
                          have hSx : ab_I (ab_u S 18 (4 * a + y) 0) (48 * S 19 3) := I_cut hS (by omega) _
                          have hX : ∀ g i, ¬ g = 18 → (ab_u S 18 (4 * a + y) 0) g i = S g i := fun g i z => by rw [ab_u_app, if_neg (fun y => z y.1)]
                          have hX18 : (ab_u S 18 (4 * a + y) 0) 18 (4 * a + y) = 0 := by rw [ab_u_app, if_pos ⟨rfl, rfl⟩]
                          rw [hT18, if_neg (by omega), au_u] at hr2
                          have hcu := cuts_u (ab_u S 18 (4 * a + y) 1) (q := (4 * a + y)) (by omega) 0
                          rw [au_u, hT18] at hcu
                          subst hr2
                          refine wq_iload C rfl dL_isCutting_193 ?_
                          refine wq_iconst C dL_isCutting_195 ?_
                          refine wq_isub C dL_isCutting_196 ?_
                          refine wq_icmp_ne C 240 (by omega) (by omega) (by decide) dL_isCutting_197 (fun hc197 => ?_) (fun hc197 => ?_)
                          · skip
                            exfalso; omega
                          · skip
                            refine wq_aload_n C rfl dL_isCutting_200 ?_
                            refine wq_iload_n C rfl dL_isCutting_201 ?_
                            refine wq_iload_n C rfl dL_isCutting_202 ?_
                            refine wq_sW C (av := [.ref ((g.2.2 0 0)), qi (((a : Nat) : Int)), qi (((y : Nat) : Int))]) (index := 172) (w_cut l hl g hI σ190 _ _ (by omega) (by omega) (ab_u S 18 (4 * a + y) 0) (48 * S 19 3) hCx hSx) (vx_cwSW 3 C.1.2.2.2.2 gL_isCutting_L_cut rfl rfl rfl (by decide +kernel) ⟨Nat.le_of_ble_eq_true rfl, Nat.le_of_ble_eq_true rfl⟩) rfl rfl (Nat.le_of_ble_eq_true rfl) dL_isCutting_203 ⟨(Nat.le_of_ble_eq_true rfl), (Nat.le_of_ble_eq_true rfl)⟩ (fun r203 σ203 hp203 => ?_)
                            obtain ⟨⟨u3, hu3, hs3⟩, hr3⟩ := cut_one (a := a) (y := y) (by omega) (by omega) hCx (Or.inl hX18) hp203
                            rw [au_u] at hu3
                            have hw3 : lW (ab_u S 18 (4 * a + y) 1) σ203 := by
                              refine lW_cut hw (u := u3) (by omega) hu3 (fun k hk => ?_) ?_ (fun i j hij => ?_) ?_
                              · rw [hs3]; unfold l_mix; rw [if_pos hk]
                              · rw [hs3, mix_hi u3 _ (by omega), hs2, mix_hi u2 _ (by omega), hσ95, up_lo _ (by omega), hs1]; exact mix_hi u σ (by omega)
                              · rw [hs3, mix_hi u3 _ (by omega), hs2, mix_hi u2 _ (by omega), hσ95, am_up_app, if_neg (fun z => hij z.2), hs1, mix_hi u σ (by omega)]
                              · rw [hs3, mix_hi u3 _ (by omega), hs2, mix_hi u2 _ (by omega)]; exact hm23
                            rw [hX18, if_pos rfl, hX 14 _ (by omega), hX 14 _ (by omega)] at hr3
                            subst hr3
                            refine wq_iload C rfl dL_isCutting_206 ?_
                            refine wq_icmp_ne C 240 (by omega) (by omega) (by decide) dL_isCutting_208 (fun hc208 => ?_) (fun hc208 => ?_)
                            · skip
                              exfalso; omega
                            · skip
                              refine wq_goto C 236 (by decide) dL_isCutting_211 ?_
                              refine wq_iconst C dL_isCutting_236 ?_
                              refine wq_goto C 241 (by decide) dL_isCutting_237 ?_
                              refine wq_zret C hr hlk (Nat.le_of_ble_eq_true rfl) (Nat.le_of_ble_eq_true rfl) (by omega) dL_isCutting_241 ?_
                              exact ⟨rfl, _, hw3, hT 19 3 (by omega)⟩
              · exfalso; omega
            · skip
              refine wq_iload C rfl dL_isCutting_106 ?_
              refine wq_aload_n C rfl dL_isCutting_108 ?_
              refine wq_iconst C dL_isCutting_109 ?_
              refine wq_iald C (k := 61) (n := 4) rfl (by decide) (by decide) (3) rfl (by omega) dL_isCutting_110 ?_
              rw [hm23]
              refine wq_iload C rfl dL_isCutting_111 ?_
              refine wq_ishr C (((lcm (ab_u S 18 (4 * a + y) 1) / 2 ^ k : Nat) : Int)) (l_shr (Nat.lt_trans (lcm_lt (ab_u S 18 (4 * a + y) 1)) (by decide)) (by omega)) dL_isCutting_113 ?_
              refine wq_iconst C dL_isCutting_114 ?_
              refine wq_iand C ((((ub (ab_u S 18 (4 * a + y) 1) k).toNat : Nat) : Int)) ((l_mask (lcm (ab_u S 18 (4 * a + y) 1) / 2 ^ k) 1).trans (congrArg (fun n : Nat => Int32.ofInt (n : Int)) (lm_bit (u := ub (ab_u S 18 (4 * a + y) 1)) (q := k) (by omega)))) dL_isCutting_115 ?_
              refine wq_iadd C dL_isCutting_116 ?_
              refine wq_istore C (by decide) (Nat.le_of_ble_eq_true rfl) rfl dL_isCutting_117 ?_
              refine wq_iinc C rfl (by decide) rfl dL_isCutting_119 ?_
              refine wq_goto C 99 (by decide) dL_isCutting_122 ?_
              have hag : (am_sum (fun q => (((ub (ab_u S 18 (4 * a + y) 1) q).toNat : Nat) : Int)) k) + ((((ub (ab_u S 18 (4 * a + y) 1) k).toNat : Nat) : Int)) = am_sum (fun q => (((ub (ab_u S 18 (4 * a + y) 1) q).toNat : Nat) : Int)) (k + 1) := rfl
              rw [hag]
              exact ihk (k + 1) (by omega) (by omega)
        exact hl99 (17) 0 (by omega) (by omega)
  · skip
    have h18 : S 18 (4 * a + y) = 1 := by omega
    refine wq_iconst C dL_isCutting_18 ?_
    refine wq_goto C 23 (by decide) dL_isCutting_19 ?_
    refine wq_istore C (by decide) (Nat.le_of_ble_eq_true rfl) rfl dL_isCutting_23 ?_
    refine wq_aload_n C rfl dL_isCutting_25 ?_
    refine wq_iload_n C rfl dL_isCutting_26 ?_
    refine wq_iload_n C rfl dL_isCutting_27 ?_
    refine wq_cI C (av := [.inl (((a : Nat) : Int)), .inl (((y : Nat) : Int))]) (index := 69) (z_X5_northQueue l g (lC_inj hI) σ (((a : Nat) : Int)) (((y : Nat) : Int)) S (48 * S 19 3) hC hS (by omega)) (cwV 2 C.1.2.2.2.2 gL_isCutting_X5_northQueue rfl rfl rfl (by decide +kernel) ⟨Nat.le_of_ble_eq_true rfl, Nat.le_of_ble_eq_true rfl⟩) rfl rfl (Nat.le_of_ble_eq_true rfl) dL_isCutting_28 ⟨(Nat.le_of_ble_eq_true rfl), (Nat.le_of_ble_eq_true rfl)⟩ (fun r28 σ28 hp28 => ?_)
    obtain ⟨hsg28, hr28⟩ := hp28
    rw [hsg28, l_mix_s]
    obtain rfl : r28 = S 14 (32 + 4 * a + y) := hr28.trans (by first | rfl | (congr 1; omega))
    refine wq_aload_n C rfl dL_isCutting_31 ?_
    refine wq_iload_n C rfl dL_isCutting_32 ?_
    refine wq_iload_n C rfl dL_isCutting_33 ?_
    refine wq_cI C (av := [.inl (((y : Nat) : Int)), .inl (((a : Nat) : Int))]) (index := 72) (z_X5_southQueue l g (lC_inj hI) σ (((y : Nat) : Int)) (((a : Nat) : Int)) S (48 * S 19 3) hC hS (by omega)) (cwV 2 C.1.2.2.2.2 gL_isCutting_X5_southQueue rfl rfl rfl (by decide +kernel) ⟨Nat.le_of_ble_eq_true rfl, Nat.le_of_ble_eq_true rfl⟩) rfl rfl (Nat.le_of_ble_eq_true rfl) dL_isCutting_34 ⟨(Nat.le_of_ble_eq_true rfl), (Nat.le_of_ble_eq_true rfl)⟩ (fun r34 σ34 hp34 => ?_)
    obtain ⟨hsg34, hr34⟩ := hp34
    rw [hsg34, l_mix_s]
    obtain rfl : r34 = S 14 (48 + 4 * y + a) := hr34.trans (by first | rfl | (congr 1; omega))
    refine wq_iadd C dL_isCutting_37 ?_
    refine wq_istore C (by decide) (Nat.le_of_ble_eq_true rfl) rfl dL_isCutting_38 ?_
    refine wq_iconst C dL_isCutting_40 ?_
    refine wq_istore C (by decide) (Nat.le_of_ble_eq_true rfl) rfl dL_isCutting_41 ?_
    refine wq_aload_n C rfl dL_isCutting_43 ?_
    refine wq_sJ C (av := [.ref ((g.2.2 0 0))]) (index := 158) (w_flows l hl g hI σ S (48 * S 19 3) hC hS) (va_cwS 1 C.1.2.2.2.2 gL_isCutting_L_flows rfl rfl rfl (by decide +kernel) ⟨Nat.le_of_ble_eq_true rfl, Nat.le_of_ble_eq_true rfl⟩) rfl rfl (Nat.le_of_ble_eq_true rfl) dL_isCutting_44 ⟨(Nat.le_of_ble_eq_true rfl), (Nat.le_of_ble_eq_true rfl)⟩ (fun r44 σ44 hp44 => ?_)
    obtain ⟨hsg44, rfl⟩ := hp44
    rw [hsg44]
    refine wq_lstore C (by decide) (Nat.le_of_ble_eq_true rfl) rfl dL_isCutting_47 ?_
    refine wq_iload C rfl dL_isCutting_49 ?_
    refine wq_if_eq C 63 (by omega) (by decide) dL_isCutting_51 (fun hc51 => ?_) (fun hc51 => ?_)
    · exfalso; omega
    · skip
      refine wq_aload_n C rfl dL_isCutting_54 ?_
      refine wq_iload_n C rfl dL_isCutting_55 ?_
      refine wq_iload_n C rfl dL_isCutting_56 ?_
      refine wq_sW C (av := [.ref ((g.2.2 0 0)), qi (((a : Nat) : Int)), qi (((y : Nat) : Int))]) (index := 172) (w_cut l hl g hI σ _ _ (by omega) (by omega) S (48 * S 19 3) hC hS) (vx_cwSW 3 C.1.2.2.2.2 gL_isCutting_L_cut rfl rfl rfl (by decide +kernel) ⟨Nat.le_of_ble_eq_true rfl, Nat.le_of_ble_eq_true rfl⟩) rfl rfl (Nat.le_of_ble_eq_true rfl) dL_isCutting_57 ⟨(Nat.le_of_ble_eq_true rfl), (Nat.le_of_ble_eq_true rfl)⟩ (fun r57 σ57 hp57 => ?_)
      obtain ⟨⟨u, hu, hs1⟩, hr1⟩ := cut_one (a := a) (y := y) (by omega) (by omega) hC h01 hp57
      have hm3b : σ57 61 0 3 = ((lcm S : Nat) : Int) := by rw [hs1, mix_hi u σ (by omega)]; exact hm3
      have hcr0 := cuts_r (I_cut hS (Or.inl rfl : (0 : Int) = 0 ∨ (0 : Int) = 1) (4 * a + y))
      have hrr : -2147483648 ≤ r57 ∧ r57 < 2147483648 := by rw [hr1]; split <;> omega
      refine wq_goto C 69 (by decide) dL_isCutting_60 ?_
      refine wq_istore C (by decide) (Nat.le_of_ble_eq_true rfl) rfl dL_isCutting_69 ?_
      refine wq_aload_n C rfl dL_isCutting_71 ?_
      refine wq_iconst C dL_isCutting_72 ?_
      refine wq_iload C rfl dL_isCutting_73 ?_
      refine wq_if_eq C 87 (by omega) (by decide) dL_isCutting_75 (fun hc75 => ?_) (fun hc75 => ?_)
      · exfalso; omega
      · skip
        refine wq_aload_n C rfl dL_isCutting_78 ?_
        refine wq_iconst C dL_isCutting_79 ?_
        refine wq_iald C (k := 61) (n := 4) rfl (by decide) (by decide) (3) rfl (by omega) dL_isCutting_80 ?_
        rw [hm3b]
        refine wq_iload C rfl dL_isCutting_81 ?_
        refine wq_ior C (((lcm (ab_u S 18 (4 * a + y) 1) : Nat) : Int)) (by unfold lcm; rw [ub_u]; exact lm_set (u := ub S) (by omega)) dL_isCutting_83 ?_
        refine wq_goto C 95 (by decide) dL_isCutting_84 ?_
        refine wq_iast C (k := 61) (n := 4) rfl (by decide) (by decide) (3) rfl (by omega) dL_isCutting_95 ?_
        obtain ⟨σ95, hσ95⟩ : ∃ σ95, σ95 = am_up σ57 61 0 3 ((lcm (ab_u S 18 (4 * a + y) 1) : Nat) : Int) := ⟨_, rfl⟩
        rw [← hσ95]
        have hw2 : lW (ab_u S 18 (4 * a + y) 1) σ95 := by
          rw [hσ95, hs1]
          refine lW_cut hw (u := u) (by omega) hu (fun k hk => ?_) ?_ (fun i j hij => ?_) ?_
          · rw [up_lo _ (by omega)]; unfold l_mix; rw [if_pos hk]
          · rw [up_lo _ (by omega)]; exact mix_hi u σ (by omega)
          · rw [am_up_app, if_neg (fun z => hij z.2), mix_hi u σ (by omega)]
          · rw [am_up_app, if_pos ⟨rfl, rfl, rfl⟩]
        obtain ⟨hC2, hS2x, -, -, -, -, -, -, -, hm23⟩ := id hw2
        have hT : ∀ g i, ¬ g = 18 → (ab_u S 18 (4 * a + y) 1) g i = S g i := fun g i z => by rw [ab_u_app, if_neg (fun y => z y.1)]
        have hS2 : ab_I (ab_u S 18 (4 * a + y) 1) (48 * S 19 3) := I_cut hS (by omega) _
        have hT18 : (ab_u S 18 (4 * a + y) 1) 18 (4 * a + y) = 1 := by rw [ab_u_app, if_pos ⟨rfl, rfl⟩]
        have hcr := cuts_r hS2
        refine wq_iconst C dL_isCutting_96 ?_
        refine wq_istore C (by decide) (Nat.le_of_ble_eq_true rfl) rfl dL_isCutting_97 ?_
        have hl99 : ∀ (dk k : Nat), 17 ≤ k + dk → k ≤ 16 → wq g p l e (headSpec wsL_isCutting ({ frames := 9, cells := 6, slots := 36, locals := 150 })).room s m ([.ref ((g.2.2 0 0)), .ref ((g.2.2 61 0)), qi (((a : Nat) : Int)), qi (((y : Nat) : Int)), qi (1)] : List Value).toArray below meth c (2) (12) (MQ below (lQ g (fun r σ' => r = 1 ∧ ∃ S', lW S' σ' ∧ S' 19 3 = S 19 3)) ([.ref ((g.2.2 0 0)), .ref ((g.2.2 61 0)), qi (((a : Nat) : Int)), qi (((y : Nat) : Int)), qi (1)] : List Value).toArray s 6 36 (am_FA (gL g))) (am_FA (gL g)) 13 99 [some (.ref ((g.2.2 0 0))), some (.ref ((g.2.2 61 0))), some (qi (((a : Nat) : Int))), some (qi (((y : Nat) : Int))), some (qi (1)), some (qi (((2 ^ (4 * a + y) : Nat) : Int))), some (qi (1)), some (qi (S 14 (32 + 4 * a + y) + S 14 (48 + 4 * y + a))), some (qi (am_sum (fun q => (((ub (ab_u S 18 (4 * a + y) 1) q).toNat : Nat) : Int)) k)), some (.long (lfl S (ab_n S))), none, some (qi (r57)), some (qi (((k : Nat) : Int)))] [] σ95 := by
          intro dk
          induction dk with
          | zero => intro k h1 h2; omega
          | succ dk ihk =>
            intro k h1k h2k
            refine wq_iload C rfl dL_isCutting_99 ?_
            refine wq_bipush C (n := 16) (by decide) dL_isCutting_101 ?_
            refine wq_icmp_ge C 125 (by omega) (by omega) (by decide) dL_isCutting_103 (fun hc103 => ?_) (fun hc103 => ?_)
            · skip
              obtain rfl : k = 16 := by omega
              rw [cuts_b hS2]
              rw [h18, if_neg (by omega)] at hr1
              refine wq_iload C rfl dL_isCutting_125 ?_
              refine wq_iload C rfl dL_isCutting_127 ?_
              refine wq_iload C rfl dL_isCutting_129 ?_
              refine wq_icmp_ne C 139 (by omega) (by omega) (by decide) dL_isCutting_131 (fun hc131 => ?_) (fun hc131 => ?_)
              · exfalso; omega
              · skip
                refine wq_bipush C (n := -63) (by decide) dL_isCutting_134 ?_
                refine wq_goto C 151 (by decide) dL_isCutting_136 ?_
                refine wq_icmp_ne C 240 (by omega) (by omega) (by decide) dL_isCutting_151 (fun hc151 => ?_) (fun hc151 => ?_)
                · skip
                  exfalso; omega
                · skip
                  refine wq_aload_n C rfl dL_isCutting_154 ?_
                  refine wq_sJ C (av := [.ref ((g.2.2 0 0))]) (index := 158) (w_flows l hl g hI σ95 (ab_u S 18 (4 * a + y) 1) (48 * S 19 3) hC2 hS2) (va_cwS 1 C.1.2.2.2.2 gL_isCutting_L_flows rfl rfl rfl (by decide +kernel) ⟨Nat.le_of_ble_eq_true rfl, Nat.le_of_ble_eq_true rfl⟩) rfl rfl (Nat.le_of_ble_eq_true rfl) dL_isCutting_155 ⟨(Nat.le_of_ble_eq_true rfl), (Nat.le_of_ble_eq_true rfl)⟩ (fun r155 σ155 hp155 => ?_)
                  obtain ⟨hsg155, rfl⟩ := hp155
                  rw [hsg155]
                  refine wq_lload C rfl dL_isCutting_158 ?_
                  rw [lfl_cut]
                  refine wq_lcmpE C dL_isCutting_160 ?_
                  refine wq_if_ne C 240 (by omega) (by decide) dL_isCutting_161 (fun hc161 => ?_) (fun hc161 => ?_)
                  · exfalso; omega
                  · skip
                    refine wq_aload_n C rfl dL_isCutting_164 ?_
                    refine wq_iload_n C rfl dL_isCutting_165 ?_
                    refine wq_iload_n C rfl dL_isCutting_166 ?_
                    refine wq_cI C (av := [.inl (((a : Nat) : Int)), .inl (((y : Nat) : Int))]) (index := 69) (z_X5_northQueue l g (lC_inj hI) σ95 (((a : Nat) : Int)) (((y : Nat) : Int)) (ab_u S 18 (4 * a + y) 1) (48 * S 19 3) hC2 hS2 (by omega)) (cwV 2 C.1.2.2.2.2 gL_isCutting_X5_northQueue rfl rfl rfl (by decide +kernel) ⟨Nat.le_of_ble_eq_true rfl, Nat.le_of_ble_eq_true rfl⟩) rfl rfl (Nat.le_of_ble_eq_true rfl) dL_isCutting_167 ⟨(Nat.le_of_ble_eq_true rfl), (Nat.le_of_ble_eq_true rfl)⟩ (fun r167 σ167 hp167 => ?_)
                    obtain ⟨hsg167, hr167⟩ := hp167
                    rw [hsg167, l_mix_s]
                    obtain rfl : r167 = S 14 (32 + 4 * a + y) := hr167.trans (hT 14 _ (by omega))
                    refine wq_aload_n C rfl dL_isCutting_170 ?_
                    refine wq_iload_n C rfl dL_isCutting_171 ?_
                    refine wq_iload_n C rfl dL_isCutting_172 ?_
                    refine wq_cI C (av := [.inl (((y : Nat) : Int)), .inl (((a : Nat) : Int))]) (index := 72) (z_X5_southQueue l g (lC_inj hI) σ95 (((y : Nat) : Int)) (((a : Nat) : Int)) (ab_u S 18 (4 * a + y) 1) (48 * S 19 3) hC2 hS2 (by omega)) (cwV 2 C.1.2.2.2.2 gL_isCutting_X5_southQueue rfl rfl rfl (by decide +kernel) ⟨Nat.le_of_ble_eq_true rfl, Nat.le_of_ble_eq_true rfl⟩) rfl rfl (Nat.le_of_ble_eq_true rfl) dL_isCutting_173 ⟨(Nat.le_of_ble_eq_true rfl), (Nat.le_of_ble_eq_true rfl)⟩ (fun r173 σ173 hp173 => ?_)
                    obtain ⟨hsg173, hr173⟩ := hp173
                    rw [hsg173, l_mix_s]
                    obtain rfl : r173 = S 14 (48 + 4 * y + a) := hr173.trans (hT 14 _ (by omega))
                    refine wq_iadd C dL_isCutting_176 ?_
                    refine wq_iload C rfl dL_isCutting_177 ?_
                    refine wq_icmp_ne C 240 (by omega) (by omega) (by decide) dL_isCutting_179 (fun hc179 => ?_) (fun hc179 => ?_)
                    · skip
                      exfalso; omega
                    · skip
                      refine wq_iload C rfl dL_isCutting_182 ?_
                      refine wq_if_eq C 214 (by omega) (by decide) dL_isCutting_184 (fun hc184 => ?_) (fun hc184 => ?_)
                      · exfalso; omega
                      · skip
                        refine wq_aload_n C rfl dL_isCutting_187 ?_
                        refine wq_iload_n C rfl dL_isCutting_188 ?_
                        refine wq_iload_n C rfl dL_isCutting_189 ?_
                        refine wq_sW C (av := [.ref ((g.2.2 0 0)), qi (((a : Nat) : Int)), qi (((y : Nat) : Int))]) (index := 174) (w_restore l hl g hI σ95 _ _ (by omega) (by omega) (ab_u S 18 (4 * a + y) 1) (48 * S 19 3) hC2 hS2) (vx_cwSW 3 C.1.2.2.2.2 gL_isCutting_L_restore rfl rfl rfl (by decide +kernel) ⟨Nat.le_of_ble_eq_true rfl, Nat.le_of_ble_eq_true rfl⟩) rfl rfl (Nat.le_of_ble_eq_true rfl) dL_isCutting_190 ⟨(Nat.le_of_ble_eq_true rfl), (Nat.le_of_ble_eq_true rfl)⟩ (fun r190 σ190 hp190 => ?_)
                        obtain ⟨⟨u2, hu2, hs2⟩, hr2⟩ := res_one (a := a) (y := y) (by omega) (by omega) hC2 (Or.inr hT18) hp190
                        rw [au_u] at hu2
                        have hCx : ab_C (ab_u S 18 (4 * a + y) 0) σ190 := by rw [hs2]; exact C_mix hu2
                        have hSx : ab_I (ab_u S 18 (4 * a + y) 0) (48 * S 19 3) := I_cut hS (by omega) _
                        have hX : ∀ g i, ¬ g = 18 → (ab_u S 18 (4 * a + y) 0) g i = S g i := fun g i z => by rw [ab_u_app, if_neg (fun y => z y.1)]
                        have hX18 : (ab_u S 18 (4 * a + y) 0) 18 (4 * a + y) = 0 := by rw [ab_u_app, if_pos ⟨rfl, rfl⟩]
                        rw [hT18, if_neg (by omega), au_u] at hr2
                        have hcu := cuts_u (ab_u S 18 (4 * a + y) 1) (q := (4 * a + y)) (by omega) 0
                        rw [au_u, hT18] at hcu
                        subst hr2
                        refine wq_iload C rfl dL_isCutting_193 ?_
                        refine wq_iconst C dL_isCutting_195 ?_
                        refine wq_isub C dL_isCutting_196 ?_
                        refine wq_icmp_ne C 240 (by omega) (by omega) (by decide) dL_isCutting_197 (fun hc197 => ?_) (fun hc197 => ?_)
                        · skip
                          exfalso; omega
                        · skip
                          refine wq_aload_n C rfl dL_isCutting_200 ?_
                          refine wq_iload_n C rfl dL_isCutting_201 ?_
                          refine wq_iload_n C rfl dL_isCutting_202 ?_
                          refine wq_sW C (av := [.ref ((g.2.2 0 0)), qi (((a : Nat) : Int)), qi (((y : Nat) : Int))]) (index := 172) (w_cut l hl g hI σ190 _ _ (by omega) (by omega) (ab_u S 18 (4 * a + y) 0) (48 * S 19 3) hCx hSx) (vx_cwSW 3 C.1.2.2.2.2 gL_isCutting_L_cut rfl rfl rfl (by decide +kernel) ⟨Nat.le_of_ble_eq_true rfl, Nat.le_of_ble_eq_true rfl⟩) rfl rfl (Nat.le_of_ble_eq_true rfl) dL_isCutting_203 ⟨(Nat.le_of_ble_eq_true rfl), (Nat.le_of_ble_eq_true rfl)⟩ (fun r203 σ203 hp203 => ?_)
                          obtain ⟨⟨u3, hu3, hs3⟩, hr3⟩ := cut_one (a := a) (y := y) (by omega) (by omega) hCx (Or.inl hX18) hp203
                          rw [au_u] at hu3
                          have hw3 : lW (ab_u S 18 (4 * a + y) 1) σ203 := by
                            refine lW_cut hw (u := u3) (by omega) hu3 (fun k hk => ?_) ?_ (fun i j hij => ?_) ?_
                            · rw [hs3]; unfold l_mix; rw [if_pos hk]
                            · rw [hs3, mix_hi u3 _ (by omega), hs2, mix_hi u2 _ (by omega), hσ95, up_lo _ (by omega), hs1]; exact mix_hi u σ (by omega)
                            · rw [hs3, mix_hi u3 _ (by omega), hs2, mix_hi u2 _ (by omega), hσ95, am_up_app, if_neg (fun z => hij z.2), hs1, mix_hi u σ (by omega)]
                            · rw [hs3, mix_hi u3 _ (by omega), hs2, mix_hi u2 _ (by omega)]; exact hm23
                          rw [hX18, if_pos rfl, hX 14 _ (by omega), hX 14 _ (by omega)] at hr3
                          subst hr3
                          refine wq_iload C rfl dL_isCutting_206 ?_
                          refine wq_icmp_ne C 240 (by omega) (by omega) (by decide) dL_isCutting_208 (fun hc208 => ?_) (fun hc208 => ?_)
                          · skip
                            exfalso; omega
                          · skip
                            refine wq_goto C 236 (by decide) dL_isCutting_211 ?_
                            refine wq_iconst C dL_isCutting_236 ?_
                            refine wq_goto C 241 (by decide) dL_isCutting_237 ?_
                            refine wq_zret C hr hlk (Nat.le_of_ble_eq_true rfl) (Nat.le_of_ble_eq_true rfl) (by omega) dL_isCutting_241 ?_
                            exact ⟨rfl, _, hw3, hT 19 3 (by omega)⟩
            · skip
              refine wq_iload C rfl dL_isCutting_106 ?_
              refine wq_aload_n C rfl dL_isCutting_108 ?_
              refine wq_iconst C dL_isCutting_109 ?_
              refine wq_iald C (k := 61) (n := 4) rfl (by decide) (by decide) (3) rfl (by omega) dL_isCutting_110 ?_
              rw [hm23]
              refine wq_iload C rfl dL_isCutting_111 ?_
              refine wq_ishr C (((lcm (ab_u S 18 (4 * a + y) 1) / 2 ^ k : Nat) : Int)) (l_shr (Nat.lt_trans (lcm_lt (ab_u S 18 (4 * a + y) 1)) (by decide)) (by omega)) dL_isCutting_113 ?_
              refine wq_iconst C dL_isCutting_114 ?_
              refine wq_iand C ((((ub (ab_u S 18 (4 * a + y) 1) k).toNat : Nat) : Int)) ((l_mask (lcm (ab_u S 18 (4 * a + y) 1) / 2 ^ k) 1).trans (congrArg (fun n : Nat => Int32.ofInt (n : Int)) (lm_bit (u := ub (ab_u S 18 (4 * a + y) 1)) (q := k) (by omega)))) dL_isCutting_115 ?_
              refine wq_iadd C dL_isCutting_116 ?_
              refine wq_istore C (by decide) (Nat.le_of_ble_eq_true rfl) rfl dL_isCutting_117 ?_
              refine wq_iinc C rfl (by decide) rfl dL_isCutting_119 ?_
              refine wq_goto C 99 (by decide) dL_isCutting_122 ?_
              have hag : (am_sum (fun q => (((ub (ab_u S 18 (4 * a + y) 1) q).toNat : Nat) : Int)) k) + ((((ub (ab_u S 18 (4 * a + y) 1) k).toNat : Nat) : Int)) = am_sum (fun q => (((ub (ab_u S 18 (4 * a + y) 1) q).toNat : Nat) : Int)) (k + 1) := rfl
              rw [hag]
              exact ihk (k + 1) (by omega) (by omega)
        exact hl99 (17) 0 (by omega) (by omega)

set_option maxRecDepth 100000 in
set_option maxHeartbeats 4000000 in
theorem w_isCutting0 (l : Launch) (hl : l.stackTraces = false) (g : am_g) (hI : am_inj (gL g)) (σ : am_M) (a y : Nat)  (S : ab_S) (hw : lW S σ) (ha : a < 4) (hy : y < 4) : Met l yL_isCutting wsL_isCutting ({ frames := 9, cells := 6, slots := 36, locals := 150 }) (lP g σ [.ref ((g.2.2 0 0)), .ref ((g.2.2 61 0)), qi (((a : Nat) : Int)), qi (((y : Nat) : Int)), qi (0)]) (lQ g (fun r σ' => r = 1 ∧ ∃ S', lW S' σ' ∧ S' 19 3 = S 19 3)) 6 36 (am_FA (gL g)) := by
  refine wq_start (cc := cL_isCutting) (nL := 13) (ret := (some .boolean)) (by decide) rfl hI rfl (fun v hv => by simp only [List.mem_cons, List.not_mem_nil, or_false] at hv; rcases hv with rfl | rfl | rfl | rfl | rfl <;> rfl) (Nat.le_of_ble_eq_true rfl) ?_
  intro p e s m below meth c C hr hlk
  change wq g p l e (headSpec wsL_isCutting ({ frames := 9, cells := 6, slots := 36, locals := 150 })).room s m ([.ref ((g.2.2 0 0)), .ref ((g.2.2 61 0)), qi (((a : Nat) : Int)), qi (((y : Nat) : Int)), qi (0)] : List Value).toArray below meth c (0) (0) (MQ below (lQ g (fun r σ' => r = 1 ∧ ∃ S', lW S' σ' ∧ S' 19 3 = S 19 3)) ([.ref ((g.2.2 0 0)), .ref ((g.2.2 61 0)), qi (((a : Nat) : Int)), qi (((y : Nat) : Int)), qi (0)] : List Value).toArray s 6 36 (am_FA (gL g))) (am_FA (gL g)) 13 0 [some (.ref ((g.2.2 0 0))), some (.ref ((g.2.2 61 0))), some (qi (((a : Nat) : Int))), some (qi (((y : Nat) : Int))), some (qi (0)), none, none, none, none, none, none, none, none] [] σ
  obtain ⟨hC, hS, hJ, hp, hcl, hfn, hm0, hm1, hm2, hm3⟩ := id hw
  have hn24 := hS.2.1.2.2.2.2
  have hn : ((ab_n S : Nat) : Int) = S 19 4 := Int.toNat_of_nonneg hn24.1
  have hc0 := hS.2.1.2.2.2.1
  have hwd := hS.2.1.2.2.1
  have hdl := hS.2.1.1
  have h01 := hS.2.2.2.2.2.2.1 (4 * a + y) (by omega)
  have q1 := hS.s4 (L := 32 + 4 * a + y) (by omega)
  have q2 := hS.s4 (L := 48 + 4 * y + a) (by omega)
  refine wq_iconst C dL_isCutting_0 ?_
  refine wq_iconst C dL_isCutting_1 ?_
  refine wq_iload_n C rfl dL_isCutting_2 ?_
  refine wq_imul C dL_isCutting_3 ?_
  refine wq_iload_n C rfl dL_isCutting_4 ?_
  refine wq_iadd C dL_isCutting_5 ?_
  refine wq_ishl C (((2 ^ (4 * a + y) : Nat) : Int)) (by rw [show (4 * ((a : Nat) : Int) + ((y : Nat) : Int)) = ((4 * a + y : Nat) : Int) by omega]; exact l_pow (by omega)) dL_isCutting_6 ?_
  refine wq_istore C (by decide) (Nat.le_of_ble_eq_true rfl) rfl dL_isCutting_7 ?_
  refine wq_aload_n C rfl dL_isCutting_9 ?_
  refine wq_iconst C dL_isCutting_10 ?_
  refine wq_iald C (k := 61) (n := 4) rfl (by decide) (by decide) (3) rfl (by omega) dL_isCutting_11 ?_
  rw [hm3]
  refine wq_iload C rfl dL_isCutting_12 ?_
  refine wq_iand C (((2 ^ (4 * a + y) * (ub S (4 * a + y)).toNat : Nat) : Int)) (lm_and (u := ub S) (by omega)) dL_isCutting_14 ?_
  obtain ⟨zb, hzb⟩ : ∃ zb : Int, zb = ((2 ^ (4 * a + y) * (ub S (4 * a + y)).toNat : Nat) : Int) := ⟨_, rfl⟩
  rw [← hzb]
  have hP := l_pr (q := (4 * a + y)) (by omega)
  have hP0 : 0 < 2 ^ (4 * a + y) := Nat.two_pow_pos _
  have hub : (zb = 0 ∧ S 18 (4 * a + y) = 0) ∨ (1 ≤ zb ∧ zb ≤ 32768 ∧ S 18 (4 * a + y) = 1) := by
    have hb := ub_n h01
    rw [hzb]
    cases hu : ub S (4 * a + y)
    · rw [hu] at hb; exact Or.inl ⟨by show ((2 ^ (4 * a + y) * 0 : Nat) : Int) = 0; rw [Nat.mul_zero]; rfl, hb.symm⟩
    · rw [hu] at hb; refine Or.inr ⟨?_, ?_, hb.symm⟩
      · show (1 : Int) ≤ ((2 ^ (4 * a + y) * 1 : Nat) : Int); rw [Nat.mul_one]; omega
      · show ((2 ^ (4 * a + y) * 1 : Nat) : Int) ≤ 32768; rw [Nat.mul_one]; omega
  refine wq_if_eq C 22 (by omega) (by decide) dL_isCutting_15 (fun hc15 => ?_) (fun hc15 => ?_)
  · skip
    have h18 : S 18 (4 * a + y) = 0 := by omega
    refine wq_iconst C dL_isCutting_22 ?_
    refine wq_istore C (by decide) (Nat.le_of_ble_eq_true rfl) rfl dL_isCutting_23 ?_
    refine wq_aload_n C rfl dL_isCutting_25 ?_
    refine wq_iload_n C rfl dL_isCutting_26 ?_
    refine wq_iload_n C rfl dL_isCutting_27 ?_
    refine wq_cI C (av := [.inl (((a : Nat) : Int)), .inl (((y : Nat) : Int))]) (index := 69) (z_X5_northQueue l g (lC_inj hI) σ (((a : Nat) : Int)) (((y : Nat) : Int)) S (48 * S 19 3) hC hS (by omega)) (cwV 2 C.1.2.2.2.2 gL_isCutting_X5_northQueue rfl rfl rfl (by decide +kernel) ⟨Nat.le_of_ble_eq_true rfl, Nat.le_of_ble_eq_true rfl⟩) rfl rfl (Nat.le_of_ble_eq_true rfl) dL_isCutting_28 ⟨(Nat.le_of_ble_eq_true rfl), (Nat.le_of_ble_eq_true rfl)⟩ (fun r28 σ28 hp28 => ?_)
    obtain ⟨hsg28, hr28⟩ := hp28
    rw [hsg28, l_mix_s]
    obtain rfl : r28 = S 14 (32 + 4 * a + y) := hr28.trans (by first | rfl | (congr 1; omega))
    refine wq_aload_n C rfl dL_isCutting_31 ?_
    refine wq_iload_n C rfl dL_isCutting_32 ?_
    refine wq_iload_n C rfl dL_isCutting_33 ?_
    refine wq_cI C (av := [.inl (((y : Nat) : Int)), .inl (((a : Nat) : Int))]) (index := 72) (z_X5_southQueue l g (lC_inj hI) σ (((y : Nat) : Int)) (((a : Nat) : Int)) S (48 * S 19 3) hC hS (by omega)) (cwV 2 C.1.2.2.2.2 gL_isCutting_X5_southQueue rfl rfl rfl (by decide +kernel) ⟨Nat.le_of_ble_eq_true rfl, Nat.le_of_ble_eq_true rfl⟩) rfl rfl (Nat.le_of_ble_eq_true rfl) dL_isCutting_34 ⟨(Nat.le_of_ble_eq_true rfl), (Nat.le_of_ble_eq_true rfl)⟩ (fun r34 σ34 hp34 => ?_)
    obtain ⟨hsg34, hr34⟩ := hp34
    rw [hsg34, l_mix_s]
    obtain rfl : r34 = S 14 (48 + 4 * y + a) := hr34.trans (by first | rfl | (congr 1; omega))
    refine wq_iadd C dL_isCutting_37 ?_
    refine wq_istore C (by decide) (Nat.le_of_ble_eq_true rfl) rfl dL_isCutting_38 ?_
    refine wq_iconst C dL_isCutting_40 ?_
    refine wq_istore C (by decide) (Nat.le_of_ble_eq_true rfl) rfl dL_isCutting_41 ?_
    refine wq_aload_n C rfl dL_isCutting_43 ?_
    refine wq_sJ C (av := [.ref ((g.2.2 0 0))]) (index := 158) (w_flows l hl g hI σ S (48 * S 19 3) hC hS) (va_cwS 1 C.1.2.2.2.2 gL_isCutting_L_flows rfl rfl rfl (by decide +kernel) ⟨Nat.le_of_ble_eq_true rfl, Nat.le_of_ble_eq_true rfl⟩) rfl rfl (Nat.le_of_ble_eq_true rfl) dL_isCutting_44 ⟨(Nat.le_of_ble_eq_true rfl), (Nat.le_of_ble_eq_true rfl)⟩ (fun r44 σ44 hp44 => ?_)
    obtain ⟨hsg44, rfl⟩ := hp44
    rw [hsg44]
    refine wq_lstore C (by decide) (Nat.le_of_ble_eq_true rfl) rfl dL_isCutting_47 ?_
    refine wq_iload C rfl dL_isCutting_49 ?_
    refine wq_if_eq C 63 (by omega) (by decide) dL_isCutting_51 (fun hc51 => ?_) (fun hc51 => ?_)
    · skip
      refine wq_aload_n C rfl dL_isCutting_63 ?_
      refine wq_iload_n C rfl dL_isCutting_64 ?_
      refine wq_iload_n C rfl dL_isCutting_65 ?_
      refine wq_sW C (av := [.ref ((g.2.2 0 0)), qi (((a : Nat) : Int)), qi (((y : Nat) : Int))]) (index := 174) (w_restore l hl g hI σ _ _ (by omega) (by omega) S (48 * S 19 3) hC hS) (vx_cwSW 3 C.1.2.2.2.2 gL_isCutting_L_restore rfl rfl rfl (by decide +kernel) ⟨Nat.le_of_ble_eq_true rfl, Nat.le_of_ble_eq_true rfl⟩) rfl rfl (Nat.le_of_ble_eq_true rfl) dL_isCutting_66 ⟨(Nat.le_of_ble_eq_true rfl), (Nat.le_of_ble_eq_true rfl)⟩ (fun r66 σ66 hp66 => ?_)
      obtain ⟨⟨u, hu, hs1⟩, hr1⟩ := res_one (a := a) (y := y) (by omega) (by omega) hC h01 hp66
      have hm3b : σ66 61 0 3 = ((lcm S : Nat) : Int) := by rw [hs1, mix_hi u σ (by omega)]; exact hm3
      have hcr0 := cuts_r (I_cut hS (Or.inl rfl : (0 : Int) = 0 ∨ (0 : Int) = 1) (4 * a + y))
      have hrr : -2147483648 ≤ r66 ∧ r66 < 2147483648 := by rw [hr1]; split <;> omega
      refine wq_istore C (by decide) (Nat.le_of_ble_eq_true rfl) rfl dL_isCutting_69 ?_
      refine wq_aload_n C rfl dL_isCutting_71 ?_
      refine wq_iconst C dL_isCutting_72 ?_
      refine wq_iload C rfl dL_isCutting_73 ?_
      refine wq_if_eq C 87 (by omega) (by decide) dL_isCutting_75 (fun hc75 => ?_) (fun hc75 => ?_)
      · skip
        refine wq_aload_n C rfl dL_isCutting_87 ?_
        refine wq_iconst C dL_isCutting_88 ?_
        refine wq_iald C (k := 61) (n := 4) rfl (by decide) (by decide) (3) rfl (by omega) dL_isCutting_89 ?_
        rw [hm3b]
        refine wq_iload C rfl dL_isCutting_90 ?_
        refine wq_iconst C dL_isCutting_92 ?_
        refine wq_ixor C (((4294967295 - 2 ^ (4 * a + y) : Nat) : Int)) (l_not0 ⟨(4 * a + y), by omega⟩) dL_isCutting_93 ?_
        refine wq_iand C (((lcm (ab_u S 18 (4 * a + y) 0) : Nat) : Int)) (by unfold lcm; rw [ub_u]; exact lm_clr (u := ub S) (by omega)) dL_isCutting_94 ?_
        refine wq_iast C (k := 61) (n := 4) rfl (by decide) (by decide) (3) rfl (by omega) dL_isCutting_95 ?_
        obtain ⟨σ95, hσ95⟩ : ∃ σ95, σ95 = am_up σ66 61 0 3 ((lcm (ab_u S 18 (4 * a + y) 0) : Nat) : Int) := ⟨_, rfl⟩
        rw [← hσ95]
        have hw2 : lW (ab_u S 18 (4 * a + y) 0) σ95 := by
          rw [hσ95, hs1]
          refine lW_cut hw (u := u) (by omega) hu (fun k hk => ?_) ?_ (fun i j hij => ?_) ?_
          · rw [up_lo _ (by omega)]; unfold l_mix; rw [if_pos hk]
          · rw [up_lo _ (by omega)]; exact mix_hi u σ (by omega)
          · rw [am_up_app, if_neg (fun z => hij z.2), mix_hi u σ (by omega)]
          · rw [am_up_app, if_pos ⟨rfl, rfl, rfl⟩]
        obtain ⟨hC2, hS2x, -, -, -, -, -, -, -, hm23⟩ := id hw2
        have hT : ∀ g i, ¬ g = 18 → (ab_u S 18 (4 * a + y) 0) g i = S g i := fun g i z => by rw [ab_u_app, if_neg (fun y => z y.1)]
        have hS2 : ab_I (ab_u S 18 (4 * a + y) 0) (48 * S 19 3) := I_cut hS (by omega) _
        have hT18 : (ab_u S 18 (4 * a + y) 0) 18 (4 * a + y) = 0 := by rw [ab_u_app, if_pos ⟨rfl, rfl⟩]
        have hcr := cuts_r hS2
        refine wq_iconst C dL_isCutting_96 ?_
        refine wq_istore C (by decide) (Nat.le_of_ble_eq_true rfl) rfl dL_isCutting_97 ?_
        have hl99 : ∀ (dk k : Nat), 17 ≤ k + dk → k ≤ 16 → wq g p l e (headSpec wsL_isCutting ({ frames := 9, cells := 6, slots := 36, locals := 150 })).room s m ([.ref ((g.2.2 0 0)), .ref ((g.2.2 61 0)), qi (((a : Nat) : Int)), qi (((y : Nat) : Int)), qi (0)] : List Value).toArray below meth c (2) (12) (MQ below (lQ g (fun r σ' => r = 1 ∧ ∃ S', lW S' σ' ∧ S' 19 3 = S 19 3)) ([.ref ((g.2.2 0 0)), .ref ((g.2.2 61 0)), qi (((a : Nat) : Int)), qi (((y : Nat) : Int)), qi (0)] : List Value).toArray s 6 36 (am_FA (gL g))) (am_FA (gL g)) 13 99 [some (.ref ((g.2.2 0 0))), some (.ref ((g.2.2 61 0))), some (qi (((a : Nat) : Int))), some (qi (((y : Nat) : Int))), some (qi (0)), some (qi (((2 ^ (4 * a + y) : Nat) : Int))), some (qi (0)), some (qi (S 14 (32 + 4 * a + y) + S 14 (48 + 4 * y + a))), some (qi (am_sum (fun q => (((ub (ab_u S 18 (4 * a + y) 0) q).toNat : Nat) : Int)) k)), some (.long (lfl S (ab_n S))), none, some (qi (r66)), some (qi (((k : Nat) : Int)))] [] σ95 := by
          intro dk
          induction dk with
          | zero => intro k h1 h2; omega
          | succ dk ihk =>
            intro k h1k h2k
            refine wq_iload C rfl dL_isCutting_99 ?_
            refine wq_bipush C (n := 16) (by decide) dL_isCutting_101 ?_
            refine wq_icmp_ge C 125 (by omega) (by omega) (by decide) dL_isCutting_103 (fun hc103 => ?_) (fun hc103 => ?_)
            · skip
              obtain rfl : k = 16 := by omega
              rw [cuts_b hS2]
              rw [h18, if_pos rfl] at hr1
              refine wq_iload C rfl dL_isCutting_125 ?_
              refine wq_iload C rfl dL_isCutting_127 ?_
              refine wq_iload C rfl dL_isCutting_129 ?_
              refine wq_icmp_ne C 139 (by omega) (by omega) (by decide) dL_isCutting_131 (fun hc131 => ?_) (fun hc131 => ?_)
              · exfalso; omega
              · skip
                refine wq_bipush C (n := -63) (by decide) dL_isCutting_134 ?_
                refine wq_goto C 151 (by decide) dL_isCutting_136 ?_
                refine wq_icmp_ne C 240 (by omega) (by omega) (by decide) dL_isCutting_151 (fun hc151 => ?_) (fun hc151 => ?_)
                · skip
                  exfalso; omega
                · skip
                  refine wq_aload_n C rfl dL_isCutting_154 ?_
                  refine wq_sJ C (av := [.ref ((g.2.2 0 0))]) (index := 158) (w_flows l hl g hI σ95 (ab_u S 18 (4 * a + y) 0) (48 * S 19 3) hC2 hS2) (va_cwS 1 C.1.2.2.2.2 gL_isCutting_L_flows rfl rfl rfl (by decide +kernel) ⟨Nat.le_of_ble_eq_true rfl, Nat.le_of_ble_eq_true rfl⟩) rfl rfl (Nat.le_of_ble_eq_true rfl) dL_isCutting_155 ⟨(Nat.le_of_ble_eq_true rfl), (Nat.le_of_ble_eq_true rfl)⟩ (fun r155 σ155 hp155 => ?_)
                  obtain ⟨hsg155, rfl⟩ := hp155
                  rw [hsg155]
                  refine wq_lload C rfl dL_isCutting_158 ?_
                  rw [lfl_cut]
                  refine wq_lcmpE C dL_isCutting_160 ?_
                  refine wq_if_ne C 240 (by omega) (by decide) dL_isCutting_161 (fun hc161 => ?_) (fun hc161 => ?_)
                  · exfalso; omega
                  · skip
                    refine wq_aload_n C rfl dL_isCutting_164 ?_
                    refine wq_iload_n C rfl dL_isCutting_165 ?_
                    refine wq_iload_n C rfl dL_isCutting_166 ?_
                    refine wq_cI C (av := [.inl (((a : Nat) : Int)), .inl (((y : Nat) : Int))]) (index := 69) (z_X5_northQueue l g (lC_inj hI) σ95 (((a : Nat) : Int)) (((y : Nat) : Int)) (ab_u S 18 (4 * a + y) 0) (48 * S 19 3) hC2 hS2 (by omega)) (cwV 2 C.1.2.2.2.2 gL_isCutting_X5_northQueue rfl rfl rfl (by decide +kernel) ⟨Nat.le_of_ble_eq_true rfl, Nat.le_of_ble_eq_true rfl⟩) rfl rfl (Nat.le_of_ble_eq_true rfl) dL_isCutting_167 ⟨(Nat.le_of_ble_eq_true rfl), (Nat.le_of_ble_eq_true rfl)⟩ (fun r167 σ167 hp167 => ?_)
                    obtain ⟨hsg167, hr167⟩ := hp167
                    rw [hsg167, l_mix_s]
                    obtain rfl : r167 = S 14 (32 + 4 * a + y) := hr167.trans (hT 14 _ (by omega))
                    refine wq_aload_n C rfl dL_isCutting_170 ?_
                    refine wq_iload_n C rfl dL_isCutting_171 ?_
                    refine wq_iload_n C rfl dL_isCutting_172 ?_
                    refine wq_cI C (av := [.inl (((y : Nat) : Int)), .inl (((a : Nat) : Int))]) (index := 72) (z_X5_southQueue l g (lC_inj hI) σ95 (((y : Nat) : Int)) (((a : Nat) : Int)) (ab_u S 18 (4 * a + y) 0) (48 * S 19 3) hC2 hS2 (by omega)) (cwV 2 C.1.2.2.2.2 gL_isCutting_X5_southQueue rfl rfl rfl (by decide +kernel) ⟨Nat.le_of_ble_eq_true rfl, Nat.le_of_ble_eq_true rfl⟩) rfl rfl (Nat.le_of_ble_eq_true rfl) dL_isCutting_173 ⟨(Nat.le_of_ble_eq_true rfl), (Nat.le_of_ble_eq_true rfl)⟩ (fun r173 σ173 hp173 => ?_)
                    obtain ⟨hsg173, hr173⟩ := hp173
                    rw [hsg173, l_mix_s]
                    obtain rfl : r173 = S 14 (48 + 4 * y + a) := hr173.trans (hT 14 _ (by omega))
                    refine wq_iadd C dL_isCutting_176 ?_
                    refine wq_iload C rfl dL_isCutting_177 ?_
                    refine wq_icmp_ne C 240 (by omega) (by omega) (by decide) dL_isCutting_179 (fun hc179 => ?_) (fun hc179 => ?_)
                    · skip
                      exfalso; omega
                    · skip
                      refine wq_iload C rfl dL_isCutting_182 ?_
                      refine wq_if_eq C 214 (by omega) (by decide) dL_isCutting_184 (fun hc184 => ?_) (fun hc184 => ?_)
                      · skip
                        refine wq_aload_n C rfl dL_isCutting_214 ?_
                        refine wq_iload_n C rfl dL_isCutting_215 ?_
                        refine wq_iload_n C rfl dL_isCutting_216 ?_
                        refine wq_sW C (av := [.ref ((g.2.2 0 0)), qi (((a : Nat) : Int)), qi (((y : Nat) : Int))]) (index := 172) (w_cut l hl g hI σ95 _ _ (by omega) (by omega) (ab_u S 18 (4 * a + y) 0) (48 * S 19 3) hC2 hS2) (vx_cwSW 3 C.1.2.2.2.2 gL_isCutting_L_cut rfl rfl rfl (by decide +kernel) ⟨Nat.le_of_ble_eq_true rfl, Nat.le_of_ble_eq_true rfl⟩) rfl rfl (Nat.le_of_ble_eq_true rfl) dL_isCutting_217 ⟨(Nat.le_of_ble_eq_true rfl), (Nat.le_of_ble_eq_true rfl)⟩ (fun r217 σ217 hp217 => ?_)
                        obtain ⟨⟨u2, hu2, hs2⟩, hr2⟩ := cut_one (a := a) (y := y) (by omega) (by omega) hC2 (Or.inl hT18) hp217
                        rw [au_u] at hu2
                        have hCx : ab_C (ab_u S 18 (4 * a + y) 1) σ217 := by rw [hs2]; exact C_mix hu2
                        have hSx : ab_I (ab_u S 18 (4 * a + y) 1) (48 * S 19 3) := I_cut hS (by omega) _
                        have hX : ∀ g i, ¬ g = 18 → (ab_u S 18 (4 * a + y) 1) g i = S g i := fun g i z => by rw [ab_u_app, if_neg (fun y => z y.1)]
                        have hX18 : (ab_u S 18 (4 * a + y) 1) 18 (4 * a + y) = 1 := by rw [ab_u_app, if_pos ⟨rfl, rfl⟩]
                        rw [hT18, if_pos rfl, hT 14 _ (by omega), hT 14 _ (by omega)] at hr2
                        subst hr2
                        refine wq_iload C rfl dL_isCutting_220 ?_
                        refine wq_icmp_ne C 240 (by omega) (by omega) (by decide) dL_isCutting_222 (fun hc222 => ?_) (fun hc222 => ?_)
                        · skip
                          exfalso; omega
                        · skip
                          refine wq_aload_n C rfl dL_isCutting_225 ?_
                          refine wq_iload_n C rfl dL_isCutting_226 ?_
                          refine wq_iload_n C rfl dL_isCutting_227 ?_
                          refine wq_sW C (av := [.ref ((g.2.2 0 0)), qi (((a : Nat) : Int)), qi (((y : Nat) : Int))]) (index := 174) (w_restore l hl g hI σ217 _ _ (by omega) (by omega) (ab_u S 18 (4 * a + y) 1) (48 * S 19 3) hCx hSx) (vx_cwSW 3 C.1.2.2.2.2 gL_isCutting_L_restore rfl rfl rfl (by decide +kernel) ⟨Nat.le_of_ble_eq_true rfl, Nat.le_of_ble_eq_true rfl⟩) rfl rfl (Nat.le_of_ble_eq_true rfl) dL_isCutting_228 ⟨(Nat.le_of_ble_eq_true rfl), (Nat.le_of_ble_eq_true rfl)⟩ (fun r228 σ228 hp228 => ?_)
                          obtain ⟨⟨u3, hu3, hs3⟩, hr3⟩ := res_one (a := a) (y := y) (by omega) (by omega) hCx (Or.inr hX18) hp228
                          rw [au_u] at hu3
                          have hw3 : lW (ab_u S 18 (4 * a + y) 0) σ228 := by
                            refine lW_cut hw (u := u3) (by omega) hu3 (fun k hk => ?_) ?_ (fun i j hij => ?_) ?_
                            · rw [hs3]; unfold l_mix; rw [if_pos hk]
                            · rw [hs3, mix_hi u3 _ (by omega), hs2, mix_hi u2 _ (by omega), hσ95, up_lo _ (by omega), hs1]; exact mix_hi u σ (by omega)
                            · rw [hs3, mix_hi u3 _ (by omega), hs2, mix_hi u2 _ (by omega), hσ95, am_up_app, if_neg (fun z => hij z.2), hs1, mix_hi u σ (by omega)]
                            · rw [hs3, mix_hi u3 _ (by omega), hs2, mix_hi u2 _ (by omega)]; exact hm23
                          rw [hX18, if_neg (by omega), au_u] at hr3
                          subst hr3
                          refine wq_iload C rfl dL_isCutting_231 ?_
                          refine wq_icmp_ne C 240 (by omega) (by omega) (by decide) dL_isCutting_233 (fun hc233 => ?_) (fun hc233 => ?_)
                          · skip
                            exfalso; omega
                          · skip
                            refine wq_iconst C dL_isCutting_236 ?_
                            refine wq_goto C 241 (by decide) dL_isCutting_237 ?_
                            refine wq_zret C hr hlk (Nat.le_of_ble_eq_true rfl) (Nat.le_of_ble_eq_true rfl) (by omega) dL_isCutting_241 ?_
                            exact ⟨rfl, _, hw3, hT 19 3 (by omega)⟩
                      · exfalso; omega
            · skip
              refine wq_iload C rfl dL_isCutting_106 ?_
              refine wq_aload_n C rfl dL_isCutting_108 ?_
              refine wq_iconst C dL_isCutting_109 ?_
              refine wq_iald C (k := 61) (n := 4) rfl (by decide) (by decide) (3) rfl (by omega) dL_isCutting_110 ?_
              rw [hm23]
              refine wq_iload C rfl dL_isCutting_111 ?_
              refine wq_ishr C (((lcm (ab_u S 18 (4 * a + y) 0) / 2 ^ k : Nat) : Int)) (l_shr (Nat.lt_trans (lcm_lt (ab_u S 18 (4 * a + y) 0)) (by decide)) (by omega)) dL_isCutting_113 ?_
              refine wq_iconst C dL_isCutting_114 ?_
              refine wq_iand C ((((ub (ab_u S 18 (4 * a + y) 0) k).toNat : Nat) : Int)) ((l_mask (lcm (ab_u S 18 (4 * a + y) 0) / 2 ^ k) 1).trans (congrArg (fun n : Nat => Int32.ofInt (n : Int)) (lm_bit (u := ub (ab_u S 18 (4 * a + y) 0)) (q := k) (by omega)))) dL_isCutting_115 ?_
              refine wq_iadd C dL_isCutting_116 ?_
              refine wq_istore C (by decide) (Nat.le_of_ble_eq_true rfl) rfl dL_isCutting_117 ?_
              refine wq_iinc C rfl (by decide) rfl dL_isCutting_119 ?_
              refine wq_goto C 99 (by decide) dL_isCutting_122 ?_
              have hag : (am_sum (fun q => (((ub (ab_u S 18 (4 * a + y) 0) q).toNat : Nat) : Int)) k) + ((((ub (ab_u S 18 (4 * a + y) 0) k).toNat : Nat) : Int)) = am_sum (fun q => (((ub (ab_u S 18 (4 * a + y) 0) q).toNat : Nat) : Int)) (k + 1) := rfl
              rw [hag]
              exact ihk (k + 1) (by omega) (by omega)
        exact hl99 (17) 0 (by omega) (by omega)
      · exfalso; omega
    · exfalso; omega
  · skip
    have h18 : S 18 (4 * a + y) = 1 := by omega
    refine wq_iconst C dL_isCutting_18 ?_
    refine wq_goto C 23 (by decide) dL_isCutting_19 ?_
    refine wq_istore C (by decide) (Nat.le_of_ble_eq_true rfl) rfl dL_isCutting_23 ?_
    refine wq_aload_n C rfl dL_isCutting_25 ?_
    refine wq_iload_n C rfl dL_isCutting_26 ?_
    refine wq_iload_n C rfl dL_isCutting_27 ?_
    refine wq_cI C (av := [.inl (((a : Nat) : Int)), .inl (((y : Nat) : Int))]) (index := 69) (z_X5_northQueue l g (lC_inj hI) σ (((a : Nat) : Int)) (((y : Nat) : Int)) S (48 * S 19 3) hC hS (by omega)) (cwV 2 C.1.2.2.2.2 gL_isCutting_X5_northQueue rfl rfl rfl (by decide +kernel) ⟨Nat.le_of_ble_eq_true rfl, Nat.le_of_ble_eq_true rfl⟩) rfl rfl (Nat.le_of_ble_eq_true rfl) dL_isCutting_28 ⟨(Nat.le_of_ble_eq_true rfl), (Nat.le_of_ble_eq_true rfl)⟩ (fun r28 σ28 hp28 => ?_)
    obtain ⟨hsg28, hr28⟩ := hp28
    rw [hsg28, l_mix_s]
    obtain rfl : r28 = S 14 (32 + 4 * a + y) := hr28.trans (by first | rfl | (congr 1; omega))
    refine wq_aload_n C rfl dL_isCutting_31 ?_
    refine wq_iload_n C rfl dL_isCutting_32 ?_
    refine wq_iload_n C rfl dL_isCutting_33 ?_
    refine wq_cI C (av := [.inl (((y : Nat) : Int)), .inl (((a : Nat) : Int))]) (index := 72) (z_X5_southQueue l g (lC_inj hI) σ (((y : Nat) : Int)) (((a : Nat) : Int)) S (48 * S 19 3) hC hS (by omega)) (cwV 2 C.1.2.2.2.2 gL_isCutting_X5_southQueue rfl rfl rfl (by decide +kernel) ⟨Nat.le_of_ble_eq_true rfl, Nat.le_of_ble_eq_true rfl⟩) rfl rfl (Nat.le_of_ble_eq_true rfl) dL_isCutting_34 ⟨(Nat.le_of_ble_eq_true rfl), (Nat.le_of_ble_eq_true rfl)⟩ (fun r34 σ34 hp34 => ?_)
    obtain ⟨hsg34, hr34⟩ := hp34
    rw [hsg34, l_mix_s]
    obtain rfl : r34 = S 14 (48 + 4 * y + a) := hr34.trans (by first | rfl | (congr 1; omega))
    refine wq_iadd C dL_isCutting_37 ?_
    refine wq_istore C (by decide) (Nat.le_of_ble_eq_true rfl) rfl dL_isCutting_38 ?_
    refine wq_iconst C dL_isCutting_40 ?_
    refine wq_istore C (by decide) (Nat.le_of_ble_eq_true rfl) rfl dL_isCutting_41 ?_
    refine wq_aload_n C rfl dL_isCutting_43 ?_
    refine wq_sJ C (av := [.ref ((g.2.2 0 0))]) (index := 158) (w_flows l hl g hI σ S (48 * S 19 3) hC hS) (va_cwS 1 C.1.2.2.2.2 gL_isCutting_L_flows rfl rfl rfl (by decide +kernel) ⟨Nat.le_of_ble_eq_true rfl, Nat.le_of_ble_eq_true rfl⟩) rfl rfl (Nat.le_of_ble_eq_true rfl) dL_isCutting_44 ⟨(Nat.le_of_ble_eq_true rfl), (Nat.le_of_ble_eq_true rfl)⟩ (fun r44 σ44 hp44 => ?_)
    obtain ⟨hsg44, rfl⟩ := hp44
    rw [hsg44]
    refine wq_lstore C (by decide) (Nat.le_of_ble_eq_true rfl) rfl dL_isCutting_47 ?_
    refine wq_iload C rfl dL_isCutting_49 ?_
    refine wq_if_eq C 63 (by omega) (by decide) dL_isCutting_51 (fun hc51 => ?_) (fun hc51 => ?_)
    · skip
      refine wq_aload_n C rfl dL_isCutting_63 ?_
      refine wq_iload_n C rfl dL_isCutting_64 ?_
      refine wq_iload_n C rfl dL_isCutting_65 ?_
      refine wq_sW C (av := [.ref ((g.2.2 0 0)), qi (((a : Nat) : Int)), qi (((y : Nat) : Int))]) (index := 174) (w_restore l hl g hI σ _ _ (by omega) (by omega) S (48 * S 19 3) hC hS) (vx_cwSW 3 C.1.2.2.2.2 gL_isCutting_L_restore rfl rfl rfl (by decide +kernel) ⟨Nat.le_of_ble_eq_true rfl, Nat.le_of_ble_eq_true rfl⟩) rfl rfl (Nat.le_of_ble_eq_true rfl) dL_isCutting_66 ⟨(Nat.le_of_ble_eq_true rfl), (Nat.le_of_ble_eq_true rfl)⟩ (fun r66 σ66 hp66 => ?_)
      obtain ⟨⟨u, hu, hs1⟩, hr1⟩ := res_one (a := a) (y := y) (by omega) (by omega) hC h01 hp66
      have hm3b : σ66 61 0 3 = ((lcm S : Nat) : Int) := by rw [hs1, mix_hi u σ (by omega)]; exact hm3
      have hcr0 := cuts_r (I_cut hS (Or.inl rfl : (0 : Int) = 0 ∨ (0 : Int) = 1) (4 * a + y))
      have hrr : -2147483648 ≤ r66 ∧ r66 < 2147483648 := by rw [hr1]; split <;> omega
      refine wq_istore C (by decide) (Nat.le_of_ble_eq_true rfl) rfl dL_isCutting_69 ?_
      refine wq_aload_n C rfl dL_isCutting_71 ?_
      refine wq_iconst C dL_isCutting_72 ?_
      refine wq_iload C rfl dL_isCutting_73 ?_
      refine wq_if_eq C 87 (by omega) (by decide) dL_isCutting_75 (fun hc75 => ?_) (fun hc75 => ?_)
      · skip
        refine wq_aload_n C rfl dL_isCutting_87 ?_
        refine wq_iconst C dL_isCutting_88 ?_
        refine wq_iald C (k := 61) (n := 4) rfl (by decide) (by decide) (3) rfl (by omega) dL_isCutting_89 ?_
        rw [hm3b]
        refine wq_iload C rfl dL_isCutting_90 ?_
        refine wq_iconst C dL_isCutting_92 ?_
        refine wq_ixor C (((4294967295 - 2 ^ (4 * a + y) : Nat) : Int)) (l_not0 ⟨(4 * a + y), by omega⟩) dL_isCutting_93 ?_
        refine wq_iand C (((lcm (ab_u S 18 (4 * a + y) 0) : Nat) : Int)) (by unfold lcm; rw [ub_u]; exact lm_clr (u := ub S) (by omega)) dL_isCutting_94 ?_
        refine wq_iast C (k := 61) (n := 4) rfl (by decide) (by decide) (3) rfl (by omega) dL_isCutting_95 ?_
        obtain ⟨σ95, hσ95⟩ : ∃ σ95, σ95 = am_up σ66 61 0 3 ((lcm (ab_u S 18 (4 * a + y) 0) : Nat) : Int) := ⟨_, rfl⟩
        rw [← hσ95]
        have hw2 : lW (ab_u S 18 (4 * a + y) 0) σ95 := by
          rw [hσ95, hs1]
          refine lW_cut hw (u := u) (by omega) hu (fun k hk => ?_) ?_ (fun i j hij => ?_) ?_
          · rw [up_lo _ (by omega)]; unfold l_mix; rw [if_pos hk]
          · rw [up_lo _ (by omega)]; exact mix_hi u σ (by omega)
          · rw [am_up_app, if_neg (fun z => hij z.2), mix_hi u σ (by omega)]
          · rw [am_up_app, if_pos ⟨rfl, rfl, rfl⟩]
        obtain ⟨hC2, hS2x, -, -, -, -, -, -, -, hm23⟩ := id hw2
        have hT : ∀ g i, ¬ g = 18 → (ab_u S 18 (4 * a + y) 0) g i = S g i := fun g i z => by rw [ab_u_app, if_neg (fun y => z y.1)]
        have hS2 : ab_I (ab_u S 18 (4 * a + y) 0) (48 * S 19 3) := I_cut hS (by omega) _
        have hT18 : (ab_u S 18 (4 * a + y) 0) 18 (4 * a + y) = 0 := by rw [ab_u_app, if_pos ⟨rfl, rfl⟩]
        have hcr := cuts_r hS2
        refine wq_iconst C dL_isCutting_96 ?_
        refine wq_istore C (by decide) (Nat.le_of_ble_eq_true rfl) rfl dL_isCutting_97 ?_
        have hl99 : ∀ (dk k : Nat), 17 ≤ k + dk → k ≤ 16 → wq g p l e (headSpec wsL_isCutting ({ frames := 9, cells := 6, slots := 36, locals := 150 })).room s m ([.ref ((g.2.2 0 0)), .ref ((g.2.2 61 0)), qi (((a : Nat) : Int)), qi (((y : Nat) : Int)), qi (0)] : List Value).toArray below meth c (2) (12) (MQ below (lQ g (fun r σ' => r = 1 ∧ ∃ S', lW S' σ' ∧ S' 19 3 = S 19 3)) ([.ref ((g.2.2 0 0)), .ref ((g.2.2 61 0)), qi (((a : Nat) : Int)), qi (((y : Nat) : Int)), qi (0)] : List Value).toArray s 6 36 (am_FA (gL g))) (am_FA (gL g)) 13 99 [some (.ref ((g.2.2 0 0))), some (.ref ((g.2.2 61 0))), some (qi (((a : Nat) : Int))), some (qi (((y : Nat) : Int))), some (qi (0)), some (qi (((2 ^ (4 * a + y) : Nat) : Int))), some (qi (1)), some (qi (S 14 (32 + 4 * a + y) + S 14 (48 + 4 * y + a))), some (qi (am_sum (fun q => (((ub (ab_u S 18 (4 * a + y) 0) q).toNat : Nat) : Int)) k)), some (.long (lfl S (ab_n S))), none, some (qi (r66)), some (qi (((k : Nat) : Int)))] [] σ95 := by
          intro dk
          induction dk with
          | zero => intro k h1 h2; omega
          | succ dk ihk =>
            intro k h1k h2k
            refine wq_iload C rfl dL_isCutting_99 ?_
            refine wq_bipush C (n := 16) (by decide) dL_isCutting_101 ?_
            refine wq_icmp_ge C 125 (by omega) (by omega) (by decide) dL_isCutting_103 (fun hc103 => ?_) (fun hc103 => ?_)
            · skip
              obtain rfl : k = 16 := by omega
              rw [cuts_b hS2]
              rw [h18, if_neg (by omega)] at hr1
              refine wq_iload C rfl dL_isCutting_125 ?_
              refine wq_iload C rfl dL_isCutting_127 ?_
              refine wq_iload C rfl dL_isCutting_129 ?_
              refine wq_icmp_ne C 139 (by omega) (by omega) (by decide) dL_isCutting_131 (fun hc131 => ?_) (fun hc131 => ?_)
              · skip
                refine wq_iload C rfl dL_isCutting_139 ?_
                refine wq_if_eq C 149 (by omega) (by decide) dL_isCutting_141 (fun hc141 => ?_) (fun hc141 => ?_)
                · skip
                  refine wq_iload C rfl dL_isCutting_149 ?_
                  refine wq_icmp_ne C 240 (by omega) (by omega) (by decide) dL_isCutting_151 (fun hc151 => ?_) (fun hc151 => ?_)
                  · skip
                    exfalso; omega
                  · skip
                    refine wq_aload_n C rfl dL_isCutting_154 ?_
                    refine wq_sJ C (av := [.ref ((g.2.2 0 0))]) (index := 158) (w_flows l hl g hI σ95 (ab_u S 18 (4 * a + y) 0) (48 * S 19 3) hC2 hS2) (va_cwS 1 C.1.2.2.2.2 gL_isCutting_L_flows rfl rfl rfl (by decide +kernel) ⟨Nat.le_of_ble_eq_true rfl, Nat.le_of_ble_eq_true rfl⟩) rfl rfl (Nat.le_of_ble_eq_true rfl) dL_isCutting_155 ⟨(Nat.le_of_ble_eq_true rfl), (Nat.le_of_ble_eq_true rfl)⟩ (fun r155 σ155 hp155 => ?_)
                    obtain ⟨hsg155, rfl⟩ := hp155
                    rw [hsg155]
                    refine wq_lload C rfl dL_isCutting_158 ?_
                    rw [lfl_cut]
                    refine wq_lcmpE C dL_isCutting_160 ?_
                    refine wq_if_ne C 240 (by omega) (by decide) dL_isCutting_161 (fun hc161 => ?_) (fun hc161 => ?_)
                    · exfalso; omega
                    · skip
                      refine wq_aload_n C rfl dL_isCutting_164 ?_
                      refine wq_iload_n C rfl dL_isCutting_165 ?_
                      refine wq_iload_n C rfl dL_isCutting_166 ?_
                      refine wq_cI C (av := [.inl (((a : Nat) : Int)), .inl (((y : Nat) : Int))]) (index := 69) (z_X5_northQueue l g (lC_inj hI) σ95 (((a : Nat) : Int)) (((y : Nat) : Int)) (ab_u S 18 (4 * a + y) 0) (48 * S 19 3) hC2 hS2 (by omega)) (cwV 2 C.1.2.2.2.2 gL_isCutting_X5_northQueue rfl rfl rfl (by decide +kernel) ⟨Nat.le_of_ble_eq_true rfl, Nat.le_of_ble_eq_true rfl⟩) rfl rfl (Nat.le_of_ble_eq_true rfl) dL_isCutting_167 ⟨(Nat.le_of_ble_eq_true rfl), (Nat.le_of_ble_eq_true rfl)⟩ (fun r167 σ167 hp167 => ?_)
                      obtain ⟨hsg167, hr167⟩ := hp167
                      rw [hsg167, l_mix_s]
                      obtain rfl : r167 = S 14 (32 + 4 * a + y) := hr167.trans (hT 14 _ (by omega))
                      refine wq_aload_n C rfl dL_isCutting_170 ?_
                      refine wq_iload_n C rfl dL_isCutting_171 ?_
                      refine wq_iload_n C rfl dL_isCutting_172 ?_
                      refine wq_cI C (av := [.inl (((y : Nat) : Int)), .inl (((a : Nat) : Int))]) (index := 72) (z_X5_southQueue l g (lC_inj hI) σ95 (((y : Nat) : Int)) (((a : Nat) : Int)) (ab_u S 18 (4 * a + y) 0) (48 * S 19 3) hC2 hS2 (by omega)) (cwV 2 C.1.2.2.2.2 gL_isCutting_X5_southQueue rfl rfl rfl (by decide +kernel) ⟨Nat.le_of_ble_eq_true rfl, Nat.le_of_ble_eq_true rfl⟩) rfl rfl (Nat.le_of_ble_eq_true rfl) dL_isCutting_173 ⟨(Nat.le_of_ble_eq_true rfl), (Nat.le_of_ble_eq_true rfl)⟩ (fun r173 σ173 hp173 => ?_)
                      obtain ⟨hsg173, hr173⟩ := hp173
                      rw [hsg173, l_mix_s]
                      obtain rfl : r173 = S 14 (48 + 4 * y + a) := hr173.trans (hT 14 _ (by omega))
                      refine wq_iadd C dL_isCutting_176 ?_
                      refine wq_iload C rfl dL_isCutting_177 ?_
                      refine wq_icmp_ne C 240 (by omega) (by omega) (by decide) dL_isCutting_179 (fun hc179 => ?_) (fun hc179 => ?_)
                      · skip
                        exfalso; omega
                      · skip
                        refine wq_iload C rfl dL_isCutting_182 ?_
                        refine wq_if_eq C 214 (by omega) (by decide) dL_isCutting_184 (fun hc184 => ?_) (fun hc184 => ?_)
                        · skip
                          refine wq_aload_n C rfl dL_isCutting_214 ?_
                          refine wq_iload_n C rfl dL_isCutting_215 ?_
                          refine wq_iload_n C rfl dL_isCutting_216 ?_
                          refine wq_sW C (av := [.ref ((g.2.2 0 0)), qi (((a : Nat) : Int)), qi (((y : Nat) : Int))]) (index := 172) (w_cut l hl g hI σ95 _ _ (by omega) (by omega) (ab_u S 18 (4 * a + y) 0) (48 * S 19 3) hC2 hS2) (vx_cwSW 3 C.1.2.2.2.2 gL_isCutting_L_cut rfl rfl rfl (by decide +kernel) ⟨Nat.le_of_ble_eq_true rfl, Nat.le_of_ble_eq_true rfl⟩) rfl rfl (Nat.le_of_ble_eq_true rfl) dL_isCutting_217 ⟨(Nat.le_of_ble_eq_true rfl), (Nat.le_of_ble_eq_true rfl)⟩ (fun r217 σ217 hp217 => ?_)
                          obtain ⟨⟨u2, hu2, hs2⟩, hr2⟩ := cut_one (a := a) (y := y) (by omega) (by omega) hC2 (Or.inl hT18) hp217
                          rw [au_u] at hu2
                          have hCx : ab_C (ab_u S 18 (4 * a + y) 1) σ217 := by rw [hs2]; exact C_mix hu2
                          have hSx : ab_I (ab_u S 18 (4 * a + y) 1) (48 * S 19 3) := I_cut hS (by omega) _
                          have hX : ∀ g i, ¬ g = 18 → (ab_u S 18 (4 * a + y) 1) g i = S g i := fun g i z => by rw [ab_u_app, if_neg (fun y => z y.1)]
                          have hX18 : (ab_u S 18 (4 * a + y) 1) 18 (4 * a + y) = 1 := by rw [ab_u_app, if_pos ⟨rfl, rfl⟩]
                          rw [hT18, if_pos rfl, hT 14 _ (by omega), hT 14 _ (by omega)] at hr2
                          subst hr2
                          refine wq_iload C rfl dL_isCutting_220 ?_
                          refine wq_icmp_ne C 240 (by omega) (by omega) (by decide) dL_isCutting_222 (fun hc222 => ?_) (fun hc222 => ?_)
                          · skip
                            exfalso; omega
                          · skip
                            refine wq_aload_n C rfl dL_isCutting_225 ?_
                            refine wq_iload_n C rfl dL_isCutting_226 ?_
                            refine wq_iload_n C rfl dL_isCutting_227 ?_
                            refine wq_sW C (av := [.ref ((g.2.2 0 0)), qi (((a : Nat) : Int)), qi (((y : Nat) : Int))]) (index := 174) (w_restore l hl g hI σ217 _ _ (by omega) (by omega) (ab_u S 18 (4 * a + y) 1) (48 * S 19 3) hCx hSx) (vx_cwSW 3 C.1.2.2.2.2 gL_isCutting_L_restore rfl rfl rfl (by decide +kernel) ⟨Nat.le_of_ble_eq_true rfl, Nat.le_of_ble_eq_true rfl⟩) rfl rfl (Nat.le_of_ble_eq_true rfl) dL_isCutting_228 ⟨(Nat.le_of_ble_eq_true rfl), (Nat.le_of_ble_eq_true rfl)⟩ (fun r228 σ228 hp228 => ?_)
                            obtain ⟨⟨u3, hu3, hs3⟩, hr3⟩ := res_one (a := a) (y := y) (by omega) (by omega) hCx (Or.inr hX18) hp228
                            rw [au_u] at hu3
                            have hw3 : lW (ab_u S 18 (4 * a + y) 0) σ228 := by
                              refine lW_cut hw (u := u3) (by omega) hu3 (fun k hk => ?_) ?_ (fun i j hij => ?_) ?_
                              · rw [hs3]; unfold l_mix; rw [if_pos hk]
                              · rw [hs3, mix_hi u3 _ (by omega), hs2, mix_hi u2 _ (by omega), hσ95, up_lo _ (by omega), hs1]; exact mix_hi u σ (by omega)
                              · rw [hs3, mix_hi u3 _ (by omega), hs2, mix_hi u2 _ (by omega), hσ95, am_up_app, if_neg (fun z => hij z.2), hs1, mix_hi u σ (by omega)]
                              · rw [hs3, mix_hi u3 _ (by omega), hs2, mix_hi u2 _ (by omega)]; exact hm23
                            rw [hX18, if_neg (by omega), au_u] at hr3
                            subst hr3
                            refine wq_iload C rfl dL_isCutting_231 ?_
                            refine wq_icmp_ne C 240 (by omega) (by omega) (by decide) dL_isCutting_233 (fun hc233 => ?_) (fun hc233 => ?_)
                            · skip
                              exfalso; omega
                            · skip
                              refine wq_iconst C dL_isCutting_236 ?_
                              refine wq_goto C 241 (by decide) dL_isCutting_237 ?_
                              refine wq_zret C hr hlk (Nat.le_of_ble_eq_true rfl) (Nat.le_of_ble_eq_true rfl) (by omega) dL_isCutting_241 ?_
                              exact ⟨rfl, _, hw3, hT 19 3 (by omega)⟩
                        · exfalso; omega
                · exfalso; omega
              · exfalso; omega
            · skip
              refine wq_iload C rfl dL_isCutting_106 ?_
              refine wq_aload_n C rfl dL_isCutting_108 ?_
              refine wq_iconst C dL_isCutting_109 ?_
              refine wq_iald C (k := 61) (n := 4) rfl (by decide) (by decide) (3) rfl (by omega) dL_isCutting_110 ?_
              rw [hm23]
              refine wq_iload C rfl dL_isCutting_111 ?_
              refine wq_ishr C (((lcm (ab_u S 18 (4 * a + y) 0) / 2 ^ k : Nat) : Int)) (l_shr (Nat.lt_trans (lcm_lt (ab_u S 18 (4 * a + y) 0)) (by decide)) (by omega)) dL_isCutting_113 ?_
              refine wq_iconst C dL_isCutting_114 ?_
              refine wq_iand C ((((ub (ab_u S 18 (4 * a + y) 0) k).toNat : Nat) : Int)) ((l_mask (lcm (ab_u S 18 (4 * a + y) 0) / 2 ^ k) 1).trans (congrArg (fun n : Nat => Int32.ofInt (n : Int)) (lm_bit (u := ub (ab_u S 18 (4 * a + y) 0)) (q := k) (by omega)))) dL_isCutting_115 ?_
              refine wq_iadd C dL_isCutting_116 ?_
              refine wq_istore C (by decide) (Nat.le_of_ble_eq_true rfl) rfl dL_isCutting_117 ?_
              refine wq_iinc C rfl (by decide) rfl dL_isCutting_119 ?_
              refine wq_goto C 99 (by decide) dL_isCutting_122 ?_
              have hag : (am_sum (fun q => (((ub (ab_u S 18 (4 * a + y) 0) q).toNat : Nat) : Int)) k) + ((((ub (ab_u S 18 (4 * a + y) 0) k).toNat : Nat) : Int)) = am_sum (fun q => (((ub (ab_u S 18 (4 * a + y) 0) q).toNat : Nat) : Int)) (k + 1) := rfl
              rw [hag]
              exact ihk (k + 1) (by omega) (by omega)
        exact hl99 (17) 0 (by omega) (by omega)
      · exfalso; omega
    · exfalso; omega
