/-! what is refused changes nothing -/
set_option maxRecDepth 100000 in
set_option maxHeartbeats 4000000 in
theorem w_isRefused (l : Launch) (hl : l.stackTraces = false) (g : am_g) (hI : am_inj (gL g)) (σ : am_M) (x : Int)  (S : ab_S) (hw : lW S σ) (hx0 : 0 ≤ x ∧ x < 2147483648) : Met l yL_isRefused wsL_isRefused ({ frames := 9, cells := 54, slots := 324, locals := 179 }) (lP g σ [.ref ((g.2.2 0 0)), qi (x)]) (lQ g (fun r σ' => σ' = σ ∧ r = 1)) 54 324 (am_FA (gL g)) := by
  refine wq_start (cc := cL_isRefused) (nL := 9) (ret := (some .boolean)) (by decide) rfl hI rfl (fun v hv => by simp only [List.mem_cons, List.not_mem_nil, or_false] at hv; rcases hv with rfl | rfl <;> rfl) (Nat.le_of_ble_eq_true rfl) ?_
  intro p e s m below meth c C hr hlk
  change wq g p l e (headSpec wsL_isRefused ({ frames := 9, cells := 54, slots := 324, locals := 179 })).room s m ([.ref ((g.2.2 0 0)), qi (x)] : List Value).toArray below meth c (0) (0) (MQ below (lQ g (fun r σ' => σ' = σ ∧ r = 1)) ([.ref ((g.2.2 0 0)), qi (x)] : List Value).toArray s 54 324 (am_FA (gL g))) (am_FA (gL g)) 9 0 [some (.ref ((g.2.2 0 0))), some (qi (x)), none, none, none, none, none, none, none] [] σ
  obtain ⟨hC, hS, hJ, hp, hcl, hfn, hm0, hm1, hm2, hm3⟩ := id hw
  have hn24 := hS.2.1.2.2.2.2
  have hn : ((ab_n S : Nat) : Int) = S 19 4 := Int.toNat_of_nonneg hn24.1
  have hc0 := hS.2.1.2.2.2.1
  have hwd := hS.2.1.2.2.1
  have hdl := hS.2.1.1
  refine wq_iload_n C rfl dL_isRefused_0 ?_
  refine wq_iconst C dL_isRefused_1 ?_
  refine wq_irem C (by omega) (by omega) dL_isRefused_2 ?_
  refine wq_if_ne C 10 (by omega) (by decide) dL_isRefused_3 (fun hc3 => ?_) (fun hc3 => ?_)
  · skip
    refine wq_iconst C dL_isRefused_10 ?_
    refine wq_istore_n C (by decide) (Nat.le_of_ble_eq_true rfl) rfl dL_isRefused_11 ?_
    refine wq_iload_n C rfl dL_isRefused_12 ?_
    refine wq_if_eq C 25 (by omega) (by decide) dL_isRefused_13 (fun hc13 => ?_) (fun hc13 => ?_)
    · skip
      refine wq_bipush C (n := 16) (by decide) dL_isRefused_25 ?_
      refine wq_iload_n C rfl dL_isRefused_27 ?_
      refine wq_bipush C (n := 30) (by decide) dL_isRefused_28 ?_
      refine wq_irem C (by omega) (by omega) dL_isRefused_30 ?_
      refine wq_iadd C dL_isRefused_31 ?_
      refine wq_istore_n C (by decide) (Nat.le_of_ble_eq_true rfl) rfl dL_isRefused_32 ?_
      refine wq_iload_n C rfl dL_isRefused_33 ?_
      refine wq_if_eq C 46 (by omega) (by decide) dL_isRefused_34 (fun hc34 => ?_) (fun hc34 => ?_)
      · skip
        refine wq_iconst C dL_isRefused_46 ?_
        refine wq_iload_n C rfl dL_isRefused_47 ?_
        refine wq_bipush C (n := 30) (by decide) dL_isRefused_48 ?_
        refine wq_irem C (by omega) (by omega) dL_isRefused_50 ?_
        refine wq_iadd C dL_isRefused_51 ?_
        refine wq_istore C (by decide) (Nat.le_of_ble_eq_true rfl) rfl dL_isRefused_52 ?_
        refine wq_aload_n C rfl dL_isRefused_54 ?_
        refine wq_sJ C (av := [.ref ((g.2.2 0 0))]) (index := 158) (w_flows l hl g hI σ S (48 * S 19 3) hC hS) (va_cwS 1 C.1.2.2.2.2 gL_isRefused_L_flows rfl rfl rfl (by decide +kernel) ⟨Nat.le_of_ble_eq_true rfl, Nat.le_of_ble_eq_true rfl⟩) rfl rfl (Nat.le_of_ble_eq_true rfl) dL_isRefused_55 ⟨(Nat.le_of_ble_eq_true rfl), (Nat.le_of_ble_eq_true rfl)⟩ (fun r55 σ55 hp55 => ?_)
        obtain ⟨hsg55, rfl⟩ := hp55
        rw [hsg55]
        refine wq_ldc2 C (index := 113) (v := 3) (by decide +kernel) dL_isRefused_58 ?_
        refine wq_aload_n C rfl dL_isRefused_61 ?_
        refine wq_sJ C (av := [.ref ((g.2.2 0 0))]) (index := 161) (w_links l hl g hI σ S (48 * S 19 3) hC hS) (va_cwS 1 C.1.2.2.2.2 gL_isRefused_L_links rfl rfl rfl (by decide +kernel) ⟨Nat.le_of_ble_eq_true rfl, Nat.le_of_ble_eq_true rfl⟩) rfl rfl (Nat.le_of_ble_eq_true rfl) dL_isRefused_62 ⟨(Nat.le_of_ble_eq_true rfl), (Nat.le_of_ble_eq_true rfl)⟩ (fun r62 σ62 hp62 => ?_)
        obtain ⟨hsg62, rfl⟩ := hp62
        rw [hsg62]
        refine wq_lmul C dL_isRefused_65 ?_
        refine wq_ladd C dL_isRefused_66 ?_
        refine wq_lstore C (by decide) (Nat.le_of_ble_eq_true rfl) rfl dL_isRefused_67 ?_
        refine wq_aload_n C rfl dL_isRefused_69 ?_
        refine wq_iload_n C rfl dL_isRefused_70 ?_
        refine wq_if_eq C 78 (by omega) (by decide) dL_isRefused_71 (fun hc71 => ?_) (fun hc71 => ?_)
        · skip
          refine wq_bipush C (n := 6) (by decide) dL_isRefused_78 ?_
          refine wq_iconst C dL_isRefused_80 ?_
          refine wq_iconst C dL_isRefused_81 ?_
          refine wq_sW C (av := [.ref ((g.2.2 0 0)), qi (6), qi (5), qi (5)]) (index := 164) (w_reset l hl g hI σ _ _ _ (by omega) (by omega) (by omega)) (vx_cwSW 4 C.1.2.2.2.2 gL_isRefused_L_reset rfl rfl rfl (by decide +kernel) ⟨Nat.le_of_ble_eq_true rfl, Nat.le_of_ble_eq_true rfl⟩) rfl rfl (Nat.le_of_ble_eq_true rfl) dL_isRefused_82 ⟨(Nat.le_of_ble_eq_true rfl), (Nat.le_of_ble_eq_true rfl)⟩ (fun r82 σ82 hp82 => ?_)
          obtain ⟨rfl, hsg82⟩ : r82 = -62 ∧ σ82 = σ := by
            rcases hp82 with ⟨-, hk, -⟩ | ⟨h1, -, h2⟩
            · exact absurd hk (by unfold ab_okR; omega)
            · exact ⟨h1, h2⟩
          rw [hsg82]
          refine wq_bipush C (n := -62) (by decide) dL_isRefused_85 ?_
          refine wq_icmp_ne C 325 (by omega) (by omega) (by decide) dL_isRefused_87 (fun hc87 => ?_) (fun hc87 => ?_)
          · exfalso; omega
          · skip
            refine wq_aload_n C rfl dL_isRefused_90 ?_
            refine wq_iconst C dL_isRefused_91 ?_
            refine wq_iload_n C rfl dL_isRefused_92 ?_
            refine wq_if_eq C 100 (by omega) (by decide) dL_isRefused_93 (fun hc93 => ?_) (fun hc93 => ?_)
            · skip
              refine wq_bipush C (n := 51) (by decide) dL_isRefused_100 ?_
              refine wq_iconst C dL_isRefused_102 ?_
              refine wq_sW C (av := [.ref ((g.2.2 0 0)), qi (0), qi (51), qi (5)]) (index := 164) (w_reset l hl g hI σ _ _ _ (by omega) (by omega) (by omega)) (vx_cwSW 4 C.1.2.2.2.2 gL_isRefused_L_reset rfl rfl rfl (by decide +kernel) ⟨Nat.le_of_ble_eq_true rfl, Nat.le_of_ble_eq_true rfl⟩) rfl rfl (Nat.le_of_ble_eq_true rfl) dL_isRefused_103 ⟨(Nat.le_of_ble_eq_true rfl), (Nat.le_of_ble_eq_true rfl)⟩ (fun r103 σ103 hp103 => ?_)
              obtain ⟨rfl, hsg103⟩ : r103 = -62 ∧ σ103 = σ := by
                rcases hp103 with ⟨-, hk, -⟩ | ⟨h1, -, h2⟩
                · exact absurd hk (by unfold ab_okR; omega)
                · exact ⟨h1, h2⟩
              rw [hsg103]
              refine wq_bipush C (n := -62) (by decide) dL_isRefused_106 ?_
              refine wq_icmp_ne C 325 (by omega) (by omega) (by decide) dL_isRefused_108 (fun hc108 => ?_) (fun hc108 => ?_)
              · exfalso; omega
              · skip
                refine wq_aload_n C rfl dL_isRefused_111 ?_
                refine wq_iconst C dL_isRefused_112 ?_
                refine wq_iconst C dL_isRefused_113 ?_
                refine wq_iload_n C rfl dL_isRefused_114 ?_
                refine wq_if_eq C 122 (by omega) (by decide) dL_isRefused_115 (fun hc115 => ?_) (fun hc115 => ?_)
                · skip
                  refine wq_bipush C (n := 17) (by decide) dL_isRefused_122 ?_
                  refine wq_sW C (av := [.ref ((g.2.2 0 0)), qi (0), qi (5), qi (17)]) (index := 164) (w_reset l hl g hI σ _ _ _ (by omega) (by omega) (by omega)) (vx_cwSW 4 C.1.2.2.2.2 gL_isRefused_L_reset rfl rfl rfl (by decide +kernel) ⟨Nat.le_of_ble_eq_true rfl, Nat.le_of_ble_eq_true rfl⟩) rfl rfl (Nat.le_of_ble_eq_true rfl) dL_isRefused_124 ⟨(Nat.le_of_ble_eq_true rfl), (Nat.le_of_ble_eq_true rfl)⟩ (fun r124 σ124 hp124 => ?_)
                  obtain ⟨rfl, hsg124⟩ : r124 = -62 ∧ σ124 = σ := by
                    rcases hp124 with ⟨-, hk, -⟩ | ⟨h1, -, h2⟩
                    · exact absurd hk (by unfold ab_okR; omega)
                    · exact ⟨h1, h2⟩
                  rw [hsg124]
                  refine wq_bipush C (n := -62) (by decide) dL_isRefused_127 ?_
                  refine wq_icmp_ne C 325 (by omega) (by omega) (by decide) dL_isRefused_129 (fun hc129 => ?_) (fun hc129 => ?_)
                  · exfalso; omega
                  · skip
                    refine wq_aload_n C rfl dL_isRefused_132 ?_
                    refine wq_iload_n C rfl dL_isRefused_133 ?_
                    refine wq_iconst C dL_isRefused_134 ?_
                    refine wq_iconst C dL_isRefused_135 ?_
                    refine wq_iconst C dL_isRefused_136 ?_
                    refine wq_sW C (av := [.ref ((g.2.2 0 0)), qi ((16) + ((x) % (30))), qi (1), qi (1), qi (0)]) (index := 166) (w_addFlow l hl g hI σ _ _ _ _ (by omega) (by omega) (by omega) (by omega) S (48 * S 19 3) hC hS) (vx_cwSW 5 C.1.2.2.2.2 gL_isRefused_L_addFlow rfl rfl rfl (by decide +kernel) ⟨Nat.le_of_ble_eq_true rfl, Nat.le_of_ble_eq_true rfl⟩) rfl rfl (Nat.le_of_ble_eq_true rfl) dL_isRefused_137 ⟨(Nat.le_of_ble_eq_true rfl), (Nat.le_of_ble_eq_true rfl)⟩ (fun r137 σ137 hp137 => ?_)
                    obtain ⟨rfl, hsg137⟩ : r137 = -62 ∧ σ137 = σ := by
                      rcases hp137 with ⟨-, hk, -⟩ | ⟨h1, -, h2⟩ | ⟨-, hk, -⟩
                      · exact absurd hk (by unfold ab_okA; omega)
                      · exact ⟨h1, h2⟩
                      · exact absurd hk (by unfold ab_okA; omega)
                    rw [hsg137]
                    refine wq_bipush C (n := -62) (by decide) dL_isRefused_140 ?_
                    refine wq_icmp_ne C 325 (by omega) (by omega) (by decide) dL_isRefused_142 (fun hc142 => ?_) (fun hc142 => ?_)
                    · exfalso; omega
                    · skip
                      refine wq_aload_n C rfl dL_isRefused_145 ?_
                      refine wq_iconst C dL_isRefused_146 ?_
                      refine wq_iload_n C rfl dL_isRefused_147 ?_
                      refine wq_iconst C dL_isRefused_148 ?_
                      refine wq_iconst C dL_isRefused_149 ?_
                      refine wq_sW C (av := [.ref ((g.2.2 0 0)), qi (1), qi ((16) + ((x) % (30))), qi (1), qi (0)]) (index := 166) (w_addFlow l hl g hI σ _ _ _ _ (by omega) (by omega) (by omega) (by omega) S (48 * S 19 3) hC hS) (vx_cwSW 5 C.1.2.2.2.2 gL_isRefused_L_addFlow rfl rfl rfl (by decide +kernel) ⟨Nat.le_of_ble_eq_true rfl, Nat.le_of_ble_eq_true rfl⟩) rfl rfl (Nat.le_of_ble_eq_true rfl) dL_isRefused_150 ⟨(Nat.le_of_ble_eq_true rfl), (Nat.le_of_ble_eq_true rfl)⟩ (fun r150 σ150 hp150 => ?_)
                      obtain ⟨rfl, hsg150⟩ : r150 = -62 ∧ σ150 = σ := by
                        rcases hp150 with ⟨-, hk, -⟩ | ⟨h1, -, h2⟩ | ⟨-, hk, -⟩
                        · exact absurd hk (by unfold ab_okA; omega)
                        · exact ⟨h1, h2⟩
                        · exact absurd hk (by unfold ab_okA; omega)
                      rw [hsg150]
                      refine wq_bipush C (n := -62) (by decide) dL_isRefused_153 ?_
                      refine wq_icmp_ne C 325 (by omega) (by omega) (by decide) dL_isRefused_155 (fun hc155 => ?_) (fun hc155 => ?_)
                      · exfalso; omega
                      · skip
                        refine wq_aload_n C rfl dL_isRefused_158 ?_
                        refine wq_iload_n C rfl dL_isRefused_159 ?_
                        refine wq_bipush C (n := 16) (by decide) dL_isRefused_160 ?_
                        refine wq_irem C (by omega) (by omega) dL_isRefused_162 ?_
                        refine wq_iload_n C rfl dL_isRefused_163 ?_
                        refine wq_bipush C (n := 16) (by decide) dL_isRefused_164 ?_
                        refine wq_irem C (by omega) (by omega) dL_isRefused_166 ?_
                        refine wq_iconst C dL_isRefused_167 ?_
                        refine wq_iconst C dL_isRefused_168 ?_
                        refine wq_sW C (av := [.ref ((g.2.2 0 0)), qi ((x) % (16)), qi ((x) % (16)), qi (1), qi (0)]) (index := 166) (w_addFlow l hl g hI σ _ _ _ _ (by omega) (by omega) (by omega) (by omega) S (48 * S 19 3) hC hS) (vx_cwSW 5 C.1.2.2.2.2 gL_isRefused_L_addFlow rfl rfl rfl (by decide +kernel) ⟨Nat.le_of_ble_eq_true rfl, Nat.le_of_ble_eq_true rfl⟩) rfl rfl (Nat.le_of_ble_eq_true rfl) dL_isRefused_169 ⟨(Nat.le_of_ble_eq_true rfl), (Nat.le_of_ble_eq_true rfl)⟩ (fun r169 σ169 hp169 => ?_)
                        obtain ⟨rfl, hsg169⟩ : r169 = -62 ∧ σ169 = σ := by
                          rcases hp169 with ⟨-, hk, -⟩ | ⟨h1, -, h2⟩ | ⟨-, hk, -⟩
                          · exact absurd hk (by unfold ab_okA; omega)
                          · exact ⟨h1, h2⟩
                          · exact absurd hk (by unfold ab_okA; omega)
                        rw [hsg169]
                        refine wq_bipush C (n := -62) (by decide) dL_isRefused_172 ?_
                        refine wq_icmp_ne C 325 (by omega) (by omega) (by decide) dL_isRefused_174 (fun hc174 => ?_) (fun hc174 => ?_)
                        · exfalso; omega
                        · skip
                          refine wq_aload_n C rfl dL_isRefused_177 ?_
                          refine wq_iconst C dL_isRefused_178 ?_
                          refine wq_iconst C dL_isRefused_179 ?_
                          refine wq_iload_n C rfl dL_isRefused_180 ?_
                          refine wq_if_eq C 188 (by omega) (by decide) dL_isRefused_181 (fun hc181 => ?_) (fun hc181 => ?_)
                          · skip
                            refine wq_bipush C (n := 101) (by decide) dL_isRefused_188 ?_
                            refine wq_iconst C dL_isRefused_190 ?_
                            refine wq_sW C (av := [.ref ((g.2.2 0 0)), qi (0), qi (1), qi (101), qi (0)]) (index := 166) (w_addFlow l hl g hI σ _ _ _ _ (by omega) (by omega) (by omega) (by omega) S (48 * S 19 3) hC hS) (vx_cwSW 5 C.1.2.2.2.2 gL_isRefused_L_addFlow rfl rfl rfl (by decide +kernel) ⟨Nat.le_of_ble_eq_true rfl, Nat.le_of_ble_eq_true rfl⟩) rfl rfl (Nat.le_of_ble_eq_true rfl) dL_isRefused_191 ⟨(Nat.le_of_ble_eq_true rfl), (Nat.le_of_ble_eq_true rfl)⟩ (fun r191 σ191 hp191 => ?_)
                            obtain ⟨rfl, hsg191⟩ : r191 = -62 ∧ σ191 = σ := by
                              rcases hp191 with ⟨-, hk, -⟩ | ⟨h1, -, h2⟩ | ⟨-, hk, -⟩
                              · exact absurd hk (by unfold ab_okA; omega)
                              · exact ⟨h1, h2⟩
                              · exact absurd hk (by unfold ab_okA; omega)
                            rw [hsg191]
                            refine wq_bipush C (n := -62) (by decide) dL_isRefused_194 ?_
                            refine wq_icmp_ne C 325 (by omega) (by omega) (by decide) dL_isRefused_196 (fun hc196 => ?_) (fun hc196 => ?_)
                            · exfalso; omega
                            · skip
                              refine wq_aload_n C rfl dL_isRefused_199 ?_
                              refine wq_iconst C dL_isRefused_200 ?_
                              refine wq_iconst C dL_isRefused_201 ?_
                              refine wq_iconst C dL_isRefused_202 ?_
                              refine wq_iload_n C rfl dL_isRefused_203 ?_
                              refine wq_if_eq C 211 (by omega) (by decide) dL_isRefused_204 (fun hc204 => ?_) (fun hc204 => ?_)
                              · skip
                                refine wq_bipush C (n := 101) (by decide) dL_isRefused_211 ?_
                                refine wq_sW C (av := [.ref ((g.2.2 0 0)), qi (0), qi (1), qi (1), qi (101)]) (index := 166) (w_addFlow l hl g hI σ _ _ _ _ (by omega) (by omega) (by omega) (by omega) S (48 * S 19 3) hC hS) (vx_cwSW 5 C.1.2.2.2.2 gL_isRefused_L_addFlow rfl rfl rfl (by decide +kernel) ⟨Nat.le_of_ble_eq_true rfl, Nat.le_of_ble_eq_true rfl⟩) rfl rfl (Nat.le_of_ble_eq_true rfl) dL_isRefused_213 ⟨(Nat.le_of_ble_eq_true rfl), (Nat.le_of_ble_eq_true rfl)⟩ (fun r213 σ213 hp213 => ?_)
                                obtain ⟨rfl, hsg213⟩ : r213 = -62 ∧ σ213 = σ := by
                                  rcases hp213 with ⟨-, hk, -⟩ | ⟨h1, -, h2⟩ | ⟨-, hk, -⟩
                                  · exact absurd hk (by unfold ab_okA; omega)
                                  · exact ⟨h1, h2⟩
                                  · exact absurd hk (by unfold ab_okA; omega)
                                rw [hsg213]
                                refine wq_bipush C (n := -62) (by decide) dL_isRefused_216 ?_
                                refine wq_icmp_ne C 325 (by omega) (by omega) (by decide) dL_isRefused_218 (fun hc218 => ?_) (fun hc218 => ?_)
                                · exfalso; omega
                                · skip
                                  refine wq_aload_n C rfl dL_isRefused_221 ?_
                                  refine wq_iload_n C rfl dL_isRefused_222 ?_
                                  refine wq_if_eq C 235 (by omega) (by decide) dL_isRefused_223 (fun hc223 => ?_) (fun hc223 => ?_)
                                  · skip
                                    refine wq_sipush C (n := 201) (by decide) dL_isRefused_235 ?_
                                    refine wq_iload_n C rfl dL_isRefused_238 ?_
                                    refine wq_bipush C (n := 30) (by decide) dL_isRefused_239 ?_
                                    refine wq_irem C (by omega) (by omega) dL_isRefused_241 ?_
                                    refine wq_iadd C dL_isRefused_242 ?_
                                    refine wq_sW C (av := [.ref ((g.2.2 0 0)), qi ((201) + ((x) % (30)))]) (index := 169) (w_pass l hl g hI σ _ (by omega) S (48 * S 19 3) hC hS (by omega)) (vx_cwSW 2 C.1.2.2.2.2 gL_isRefused_L_pass rfl rfl rfl (by decide +kernel) ⟨Nat.le_of_ble_eq_true rfl, Nat.le_of_ble_eq_true rfl⟩) rfl rfl (Nat.le_of_ble_eq_true rfl) dL_isRefused_243 ⟨(Nat.le_of_ble_eq_true rfl), (Nat.le_of_ble_eq_true rfl)⟩ (fun r243 σ243 hp243 => ?_)
                                    obtain ⟨rfl, hsg243⟩ : r243 = -62 ∧ σ243 = σ := by
                                      rcases hp243 with ⟨-, hk, -⟩ | ⟨h1, -, h2⟩ | ⟨-, hk, -⟩
                                      · exact absurd hk (by omega)
                                      · exact ⟨h1, h2⟩
                                      · exact absurd hk (by omega)
                                    rw [hsg243]
                                    refine wq_bipush C (n := -62) (by decide) dL_isRefused_246 ?_
                                    refine wq_icmp_ne C 325 (by omega) (by omega) (by decide) dL_isRefused_248 (fun hc248 => ?_) (fun hc248 => ?_)
                                    · exfalso; omega
                                    · skip
                                      refine wq_aload_n C rfl dL_isRefused_251 ?_
                                      refine wq_iload C rfl dL_isRefused_252 ?_
                                      refine wq_iconst C dL_isRefused_254 ?_
                                      refine wq_sW C (av := [.ref ((g.2.2 0 0)), qi ((4) + ((x) % (30))), qi (0)]) (index := 172) (w_cut l hl g hI σ _ _ (by omega) (by omega) S (48 * S 19 3) hC hS) (vx_cwSW 3 C.1.2.2.2.2 gL_isRefused_L_cut rfl rfl rfl (by decide +kernel) ⟨Nat.le_of_ble_eq_true rfl, Nat.le_of_ble_eq_true rfl⟩) rfl rfl (Nat.le_of_ble_eq_true rfl) dL_isRefused_255 ⟨(Nat.le_of_ble_eq_true rfl), (Nat.le_of_ble_eq_true rfl)⟩ (fun r255 σ255 hp255 => ?_)
                                      obtain ⟨rfl, hsg255⟩ : r255 = -62 ∧ σ255 = σ := by
                                        rcases hp255 with ⟨-, hk, -⟩ | ⟨h1, -, h2⟩ | ⟨-, hk, -⟩
                                        · exact absurd hk (by omega)
                                        · exact ⟨h1, h2⟩
                                        · exact absurd hk (by omega)
                                      rw [hsg255]
                                      refine wq_bipush C (n := -62) (by decide) dL_isRefused_258 ?_
                                      refine wq_icmp_ne C 325 (by omega) (by omega) (by decide) dL_isRefused_260 (fun hc260 => ?_) (fun hc260 => ?_)
                                      · exfalso; omega
                                      · skip
                                        refine wq_aload_n C rfl dL_isRefused_263 ?_
                                        refine wq_iconst C dL_isRefused_264 ?_
                                        refine wq_iload C rfl dL_isRefused_265 ?_
                                        refine wq_sW C (av := [.ref ((g.2.2 0 0)), qi (0), qi ((4) + ((x) % (30)))]) (index := 172) (w_cut l hl g hI σ _ _ (by omega) (by omega) S (48 * S 19 3) hC hS) (vx_cwSW 3 C.1.2.2.2.2 gL_isRefused_L_cut rfl rfl rfl (by decide +kernel) ⟨Nat.le_of_ble_eq_true rfl, Nat.le_of_ble_eq_true rfl⟩) rfl rfl (Nat.le_of_ble_eq_true rfl) dL_isRefused_267 ⟨(Nat.le_of_ble_eq_true rfl), (Nat.le_of_ble_eq_true rfl)⟩ (fun r267 σ267 hp267 => ?_)
                                        obtain ⟨rfl, hsg267⟩ : r267 = -62 ∧ σ267 = σ := by
                                          rcases hp267 with ⟨-, hk, -⟩ | ⟨h1, -, h2⟩ | ⟨-, hk, -⟩
                                          · exact absurd hk (by omega)
                                          · exact ⟨h1, h2⟩
                                          · exact absurd hk (by omega)
                                        rw [hsg267]
                                        refine wq_bipush C (n := -62) (by decide) dL_isRefused_270 ?_
                                        refine wq_icmp_ne C 325 (by omega) (by omega) (by decide) dL_isRefused_272 (fun hc272 => ?_) (fun hc272 => ?_)
                                        · exfalso; omega
                                        · skip
                                          refine wq_aload_n C rfl dL_isRefused_275 ?_
                                          refine wq_iload C rfl dL_isRefused_276 ?_
                                          refine wq_iconst C dL_isRefused_278 ?_
                                          refine wq_sW C (av := [.ref ((g.2.2 0 0)), qi ((4) + ((x) % (30))), qi (0)]) (index := 174) (w_restore l hl g hI σ _ _ (by omega) (by omega) S (48 * S 19 3) hC hS) (vx_cwSW 3 C.1.2.2.2.2 gL_isRefused_L_restore rfl rfl rfl (by decide +kernel) ⟨Nat.le_of_ble_eq_true rfl, Nat.le_of_ble_eq_true rfl⟩) rfl rfl (Nat.le_of_ble_eq_true rfl) dL_isRefused_279 ⟨(Nat.le_of_ble_eq_true rfl), (Nat.le_of_ble_eq_true rfl)⟩ (fun r279 σ279 hp279 => ?_)
                                          obtain ⟨rfl, hsg279⟩ : r279 = -62 ∧ σ279 = σ := by
                                            rcases hp279 with ⟨-, hk, -⟩ | ⟨h1, -, h2⟩ | ⟨-, hk, -⟩
                                            · exact absurd hk (by omega)
                                            · exact ⟨h1, h2⟩
                                            · exact absurd hk (by omega)
                                          rw [hsg279]
                                          refine wq_bipush C (n := -62) (by decide) dL_isRefused_282 ?_
                                          refine wq_icmp_ne C 325 (by omega) (by omega) (by decide) dL_isRefused_284 (fun hc284 => ?_) (fun hc284 => ?_)
                                          · exfalso; omega
                                          · skip
                                            refine wq_aload_n C rfl dL_isRefused_287 ?_
                                            refine wq_iconst C dL_isRefused_288 ?_
                                            refine wq_iload C rfl dL_isRefused_289 ?_
                                            refine wq_sW C (av := [.ref ((g.2.2 0 0)), qi (0), qi ((4) + ((x) % (30)))]) (index := 174) (w_restore l hl g hI σ _ _ (by omega) (by omega) S (48 * S 19 3) hC hS) (vx_cwSW 3 C.1.2.2.2.2 gL_isRefused_L_restore rfl rfl rfl (by decide +kernel) ⟨Nat.le_of_ble_eq_true rfl, Nat.le_of_ble_eq_true rfl⟩) rfl rfl (Nat.le_of_ble_eq_true rfl) dL_isRefused_291 ⟨(Nat.le_of_ble_eq_true rfl), (Nat.le_of_ble_eq_true rfl)⟩ (fun r291 σ291 hp291 => ?_)
                                            obtain ⟨rfl, hsg291⟩ : r291 = -62 ∧ σ291 = σ := by
                                              rcases hp291 with ⟨-, hk, -⟩ | ⟨h1, -, h2⟩ | ⟨-, hk, -⟩
                                              · exact absurd hk (by omega)
                                              · exact ⟨h1, h2⟩
                                              · exact absurd hk (by omega)
                                            rw [hsg291]
                                            refine wq_bipush C (n := -62) (by decide) dL_isRefused_294 ?_
                                            refine wq_icmp_ne C 325 (by omega) (by omega) (by decide) dL_isRefused_296 (fun hc296 => ?_) (fun hc296 => ?_)
                                            · exfalso; omega
                                            · skip
                                              have hj321 :  wq g p l e (headSpec wsL_isRefused ({ frames := 9, cells := 54, slots := 324, locals := 179 })).room s m ([.ref ((g.2.2 0 0)), qi (x)] : List Value).toArray below meth c (30) (180) (MQ below (lQ g (fun r σ' => σ' = σ ∧ r = 1)) ([.ref ((g.2.2 0 0)), qi (x)] : List Value).toArray s 54 324 (am_FA (gL g))) (am_FA (gL g)) 9 321 [some (.ref ((g.2.2 0 0))), some (qi (x)), some (qi (0)), some (qi ((16) + ((x) % (30)))), some (qi ((4) + ((x) % (30)))), some (.long ((lfl S (ab_n S)) + (((3 : Int64)) * (lli S 16)))), none, none, none] [] σ := by
                                                refine wq_iconst C dL_isRefused_321 ?_
                                                refine wq_goto C 326 (by decide) dL_isRefused_322 ?_
                                                refine wq_istore C (by decide) (Nat.le_of_ble_eq_true rfl) rfl dL_isRefused_326 ?_
                                                refine wq_iconst C dL_isRefused_328 ?_
                                                refine wq_istore C (by decide) (Nat.le_of_ble_eq_true rfl) rfl dL_isRefused_329 ?_
                                                have hl331 : ∀ (dw w : Nat), 9 ≤ w + dw → w ≤ 8 → wq g p l e (headSpec wsL_isRefused ({ frames := 9, cells := 54, slots := 324, locals := 179 })).room s m ([.ref ((g.2.2 0 0)), qi (x)] : List Value).toArray below meth c (30 + 3 * w) (180 + 18 * w) (MQ below (lQ g (fun r σ' => σ' = σ ∧ r = 1)) ([.ref ((g.2.2 0 0)), qi (x)] : List Value).toArray s 54 324 (am_FA (gL g))) (am_FA (gL g)) 9 331 [some (.ref ((g.2.2 0 0))), some (qi (x)), some (qi (0)), some (qi ((16) + ((x) % (30)))), some (qi ((4) + ((x) % (30)))), some (.long ((lfl S (ab_n S)) + (((3 : Int64)) * (lli S 16)))), none, some (qi (1)), some (qi (((w : Nat) : Int)))] [] σ := by
                                                  intro dw
                                                  induction dw with
                                                  | zero => intro w h1 h2; omega
                                                  | succ dw ihw =>
                                                    intro w h1w h2w
                                                    refine wq_iload C rfl dL_isRefused_331 ?_
                                                    refine wq_bipush C (n := 8) (by decide) dL_isRefused_333 ?_
                                                    refine wq_icmp_ge C 463 (by omega) (by omega) (by decide) dL_isRefused_335 (fun hc335 => ?_) (fun hc335 => ?_)
                                                    · skip
                                                      obtain rfl : w = 8 := by omega
                                                      refine wq_iload C rfl dL_isRefused_463 ?_
                                                      refine wq_if_eq C 491 (by omega) (by decide) dL_isRefused_465 (fun hc465 => ?_) (fun hc465 => ?_)
                                                      · exfalso; omega
                                                      · skip
                                                        refine wq_aload_n C rfl dL_isRefused_468 ?_
                                                        refine wq_sJ C (av := [.ref ((g.2.2 0 0))]) (index := 158) (w_flows l hl g hI σ S (48 * S 19 3) hC hS) (va_cwS 1 C.1.2.2.2.2 gL_isRefused_L_flows rfl rfl rfl (by decide +kernel) ⟨Nat.le_of_ble_eq_true rfl, Nat.le_of_ble_eq_true rfl⟩) rfl rfl (Nat.le_of_ble_eq_true rfl) dL_isRefused_469 ⟨(Nat.le_of_ble_eq_true rfl), (Nat.le_of_ble_eq_true rfl)⟩ (fun r469 σ469 hp469 => ?_)
                                                        obtain ⟨hsg469, rfl⟩ := hp469
                                                        rw [hsg469]
                                                        refine wq_ldc2 C (index := 113) (v := 3) (by decide +kernel) dL_isRefused_472 ?_
                                                        refine wq_aload_n C rfl dL_isRefused_475 ?_
                                                        refine wq_sJ C (av := [.ref ((g.2.2 0 0))]) (index := 161) (w_links l hl g hI σ S (48 * S 19 3) hC hS) (va_cwS 1 C.1.2.2.2.2 gL_isRefused_L_links rfl rfl rfl (by decide +kernel) ⟨Nat.le_of_ble_eq_true rfl, Nat.le_of_ble_eq_true rfl⟩) rfl rfl (Nat.le_of_ble_eq_true rfl) dL_isRefused_476 ⟨(Nat.le_of_ble_eq_true rfl), (Nat.le_of_ble_eq_true rfl)⟩ (fun r476 σ476 hp476 => ?_)
                                                        obtain ⟨hsg476, rfl⟩ := hp476
                                                        rw [hsg476]
                                                        refine wq_lmul C dL_isRefused_479 ?_
                                                        refine wq_ladd C dL_isRefused_480 ?_
                                                        refine wq_lload C rfl dL_isRefused_481 ?_
                                                        refine wq_lcmpE C dL_isRefused_483 ?_
                                                        refine wq_if_ne C 491 (by omega) (by decide) dL_isRefused_484 (fun hc484 => ?_) (fun hc484 => ?_)
                                                        · exfalso; omega
                                                        · skip
                                                          refine wq_iconst C dL_isRefused_487 ?_
                                                          refine wq_goto C 492 (by decide) dL_isRefused_488 ?_
                                                          refine wq_zret C hr hlk (Nat.le_of_ble_eq_true rfl) (Nat.le_of_ble_eq_true rfl) (by omega) dL_isRefused_492 ?_
                                                          exact ⟨rfl, rfl⟩
                                                    · skip
                                                      refine wq_iload C rfl dL_isRefused_338 ?_
                                                      refine wq_if_eq C 463 (by omega) (by decide) dL_isRefused_340 (fun hc340 => ?_) (fun hc340 => ?_)
                                                      · exfalso; omega
                                                      · skip
                                                        refine wq_iload C rfl dL_isRefused_343 ?_
                                                        refine wq_iconst C dL_isRefused_345 ?_
                                                        refine wq_icmp_ge C 370 (by omega) (by omega) (by decide) dL_isRefused_346 (fun hc346 => ?_) (fun hc346 => ?_)
                                                        · skip
                                                          refine wq_aload_n C rfl dL_isRefused_370 ?_
                                                          refine wq_iload C rfl dL_isRefused_371 ?_
                                                          refine wq_iload C rfl dL_isRefused_373 ?_
                                                          refine wq_iconst C dL_isRefused_375 ?_
                                                          refine wq_sW C (av := [.ref ((g.2.2 0 0)), qi (((w : Nat) : Int)), qi ((4) + ((x) % (30))), qi (1)]) (index := 151) (w_ask l hl g hI σ _ _ _ (by omega) (by omega) (by omega) S (48 * S 19 3) hC hS (by omega)) (vx_cwSW 4 C.1.2.2.2.2 gL_isRefused_L_ask rfl rfl rfl (by decide +kernel) ⟨Nat.le_of_ble_eq_true rfl, Nat.le_of_ble_eq_true rfl⟩) rfl rfl (Nat.le_of_ble_eq_true rfl) dL_isRefused_376 ⟨(by show 30 + 3 * w + 1 ≤ 54; omega), (by show 180 + 18 * w + 6 ≤ 324; omega)⟩ (fun r376 σ376 hp376 => ?_)
                                                          obtain ⟨hsg376, rfl⟩ := hp376
                                                          rw [hsg376]
                                                          refine wq_bipush C (n := -62) (by decide) dL_isRefused_379 ?_
                                                          refine wq_icmp_ne C 402 (by omega) (by omega) (by decide) dL_isRefused_381 (fun hc381 => ?_) (fun hc381 => ?_)
                                                          · exfalso; omega
                                                          · skip
                                                            refine wq_aload_n C rfl dL_isRefused_384 ?_
                                                            refine wq_iload C rfl dL_isRefused_385 ?_
                                                            refine wq_iconst C dL_isRefused_387 ?_
                                                            refine wq_iload C rfl dL_isRefused_388 ?_
                                                            refine wq_sW C (av := [.ref ((g.2.2 0 0)), qi (((w : Nat) : Int)), qi (1), qi ((4) + ((x) % (30)))]) (index := 151) (w_ask l hl g hI σ _ _ _ (by omega) (by omega) (by omega) S (48 * S 19 3) hC hS (by omega)) (vx_cwSW 4 C.1.2.2.2.2 gL_isRefused_L_ask rfl rfl rfl (by decide +kernel) ⟨Nat.le_of_ble_eq_true rfl, Nat.le_of_ble_eq_true rfl⟩) rfl rfl (Nat.le_of_ble_eq_true rfl) dL_isRefused_390 ⟨(by show 30 + 3 * w + 1 + 1 ≤ 54; omega), (by show 180 + 18 * w + 6 + 6 ≤ 324; omega)⟩ (fun r390 σ390 hp390 => ?_)
                                                            obtain ⟨hsg390, rfl⟩ := hp390
                                                            rw [hsg390]
                                                            refine wq_bipush C (n := -62) (by decide) dL_isRefused_393 ?_
                                                            refine wq_icmp_ne C 402 (by omega) (by omega) (by decide) dL_isRefused_395 (fun hc395 => ?_) (fun hc395 => ?_)
                                                            · exfalso; omega
                                                            · skip
                                                              refine wq_iconst C dL_isRefused_398 ?_
                                                              refine wq_goto C 403 (by decide) dL_isRefused_399 ?_
                                                              refine wq_istore C (by decide) (Nat.le_of_ble_eq_true rfl) rfl dL_isRefused_403 ?_
                                                              refine wq_iload C rfl dL_isRefused_405 ?_
                                                              refine wq_if_eq C 454 (by omega) (by decide) dL_isRefused_407 (fun hc407 => ?_) (fun hc407 => ?_)
                                                              · exfalso; omega
                                                              · skip
                                                                refine wq_iload C rfl dL_isRefused_410 ?_
                                                                refine wq_bipush C (n := 6) (by decide) dL_isRefused_412 ?_
                                                                refine wq_icmp_gt C 450 (by omega) (by omega) (by decide) dL_isRefused_414 (fun hc414 => ?_) (fun hc414 => ?_)
                                                                · skip
                                                                  refine wq_iconst C dL_isRefused_450 ?_
                                                                  refine wq_goto C 455 (by decide) dL_isRefused_451 ?_
                                                                  refine wq_istore C (by decide) (Nat.le_of_ble_eq_true rfl) rfl dL_isRefused_455 ?_
                                                                  refine wq_iinc C rfl (by decide) rfl dL_isRefused_457 ?_
                                                                  refine wq_goto C 331 (by decide) dL_isRefused_460 ?_
                                                                  refine wq_wide (c1 := 30 + 3 * (w + 1)) (s1 := 180 + 18 * (w + 1)) (by omega) (by omega) ?_
                                                                  exact ihw (w + 1) (by omega) (by omega)
                                                                · skip
                                                                  refine wq_aload_n C rfl dL_isRefused_417 ?_
                                                                  refine wq_iload C rfl dL_isRefused_418 ?_
                                                                  refine wq_iload_n C rfl dL_isRefused_420 ?_
                                                                  refine wq_if_eq C 433 (by omega) (by decide) dL_isRefused_421 (fun hc421 => ?_) (fun hc421 => ?_)
                                                                  · skip
                                                                    refine wq_aload_n C rfl dL_isRefused_433 ?_
                                                                    refine wq_cI C (av := []) (index := 92) (c_X5_flows l g (lC_inj hI) σ S (48 * S 19 3) hC hS) (cwV 0 C.1.2.2.2.2 gL_isRefused_X5_flows rfl rfl rfl (by decide +kernel) ⟨Nat.le_of_ble_eq_true rfl, Nat.le_of_ble_eq_true rfl⟩) rfl rfl (Nat.le_of_ble_eq_true rfl) dL_isRefused_434 ⟨(by show 30 + 3 * w + 1 + 1 + 0 ≤ 54; omega), (by show 180 + 18 * w + 6 + 6 + 0 ≤ 324; omega)⟩ (fun r434 σ434 hp434 => ?_)
                                                                    obtain ⟨hsg434, hr434⟩ := hp434
                                                                    rw [hsg434, l_mix_s]
                                                                    obtain rfl : r434 = S 19 4 := hr434.trans (by first | rfl | (congr 1; omega))
                                                                    refine wq_iload_n C rfl dL_isRefused_437 ?_
                                                                    refine wq_bipush C (n := 30) (by decide) dL_isRefused_438 ?_
                                                                    refine wq_irem C (by omega) (by omega) dL_isRefused_440 ?_
                                                                    refine wq_iadd C dL_isRefused_441 ?_
                                                                    refine wq_sW C (av := [.ref ((g.2.2 0 0)), qi (((w : Nat) : Int)), qi ((S 19 4) + ((x) % (30)))]) (index := 137) (w_of l hl g hI σ _ _ (by omega) (by omega) S (48 * S 19 3) hC hS (by omega)) (vx_cwSW 3 C.1.2.2.2.2 gL_isRefused_L_of rfl rfl rfl (by decide +kernel) ⟨Nat.le_of_ble_eq_true rfl, Nat.le_of_ble_eq_true rfl⟩) rfl rfl (Nat.le_of_ble_eq_true rfl) dL_isRefused_442 ⟨(by show 30 + 3 * w + 1 + 1 + 1 ≤ 54; omega), (by show 180 + 18 * w + 6 + 6 + 6 ≤ 324; omega)⟩ (fun r442 σ442 hp442 => ?_)
                                                                    obtain ⟨hsg442, rfl⟩ := hp442
                                                                    rw [hsg442]
                                                                    refine wq_bipush C (n := -61) (by decide) dL_isRefused_445 ?_
                                                                    refine wq_icmp_ne C 454 (by omega) (by omega) (by decide) dL_isRefused_447 (fun hc447 => ?_) (fun hc447 => ?_)
                                                                    · exfalso; omega
                                                                    · skip
                                                                      refine wq_iconst C dL_isRefused_450 ?_
                                                                      refine wq_goto C 455 (by decide) dL_isRefused_451 ?_
                                                                      refine wq_istore C (by decide) (Nat.le_of_ble_eq_true rfl) rfl dL_isRefused_455 ?_
                                                                      refine wq_iinc C rfl (by decide) rfl dL_isRefused_457 ?_
                                                                      refine wq_goto C 331 (by decide) dL_isRefused_460 ?_
                                                                      refine wq_wide (c1 := 30 + 3 * (w + 1)) (s1 := 180 + 18 * (w + 1)) (by omega) (by omega) ?_
                                                                      exact ihw (w + 1) (by omega) (by omega)
                                                                  · exfalso; omega
                                                        · skip
                                                          refine wq_aload_n C rfl dL_isRefused_349 ?_
                                                          refine wq_iload C rfl dL_isRefused_350 ?_
                                                          refine wq_iload_n C rfl dL_isRefused_352 ?_
                                                          refine wq_iconst C dL_isRefused_353 ?_
                                                          refine wq_sW C (av := [.ref ((g.2.2 0 0)), qi (((w : Nat) : Int)), qi ((16) + ((x) % (30))), qi (0)]) (index := 151) (w_ask l hl g hI σ _ _ _ (by omega) (by omega) (by omega) S (48 * S 19 3) hC hS (by omega)) (vx_cwSW 4 C.1.2.2.2.2 gL_isRefused_L_ask rfl rfl rfl (by decide +kernel) ⟨Nat.le_of_ble_eq_true rfl, Nat.le_of_ble_eq_true rfl⟩) rfl rfl (Nat.le_of_ble_eq_true rfl) dL_isRefused_354 ⟨(by show 30 + 3 * w + 1 ≤ 54; omega), (by show 180 + 18 * w + 6 ≤ 324; omega)⟩ (fun r354 σ354 hp354 => ?_)
                                                          obtain ⟨hsg354, rfl⟩ := hp354
                                                          rw [hsg354]
                                                          refine wq_bipush C (n := -62) (by decide) dL_isRefused_357 ?_
                                                          refine wq_icmp_ne C 366 (by omega) (by omega) (by decide) dL_isRefused_359 (fun hc359 => ?_) (fun hc359 => ?_)
                                                          · exfalso; omega
                                                          · skip
                                                            refine wq_iconst C dL_isRefused_362 ?_
                                                            refine wq_goto C 403 (by decide) dL_isRefused_363 ?_
                                                            refine wq_istore C (by decide) (Nat.le_of_ble_eq_true rfl) rfl dL_isRefused_403 ?_
                                                            refine wq_iload C rfl dL_isRefused_405 ?_
                                                            refine wq_if_eq C 454 (by omega) (by decide) dL_isRefused_407 (fun hc407 => ?_) (fun hc407 => ?_)
                                                            · exfalso; omega
                                                            · skip
                                                              refine wq_iload C rfl dL_isRefused_410 ?_
                                                              refine wq_bipush C (n := 6) (by decide) dL_isRefused_412 ?_
                                                              refine wq_icmp_gt C 450 (by omega) (by omega) (by decide) dL_isRefused_414 (fun hc414 => ?_) (fun hc414 => ?_)
                                                              · skip
                                                                refine wq_iconst C dL_isRefused_450 ?_
                                                                refine wq_goto C 455 (by decide) dL_isRefused_451 ?_
                                                                refine wq_istore C (by decide) (Nat.le_of_ble_eq_true rfl) rfl dL_isRefused_455 ?_
                                                                refine wq_iinc C rfl (by decide) rfl dL_isRefused_457 ?_
                                                                refine wq_goto C 331 (by decide) dL_isRefused_460 ?_
                                                                refine wq_wide (c1 := 30 + 3 * (w + 1)) (s1 := 180 + 18 * (w + 1)) (by omega) (by omega) ?_
                                                                exact ihw (w + 1) (by omega) (by omega)
                                                              · skip
                                                                refine wq_aload_n C rfl dL_isRefused_417 ?_
                                                                refine wq_iload C rfl dL_isRefused_418 ?_
                                                                refine wq_iload_n C rfl dL_isRefused_420 ?_
                                                                refine wq_if_eq C 433 (by omega) (by decide) dL_isRefused_421 (fun hc421 => ?_) (fun hc421 => ?_)
                                                                · skip
                                                                  refine wq_aload_n C rfl dL_isRefused_433 ?_
                                                                  refine wq_cI C (av := []) (index := 92) (c_X5_flows l g (lC_inj hI) σ S (48 * S 19 3) hC hS) (cwV 0 C.1.2.2.2.2 gL_isRefused_X5_flows rfl rfl rfl (by decide +kernel) ⟨Nat.le_of_ble_eq_true rfl, Nat.le_of_ble_eq_true rfl⟩) rfl rfl (Nat.le_of_ble_eq_true rfl) dL_isRefused_434 ⟨(by show 30 + 3 * w + 1 + 0 ≤ 54; omega), (by show 180 + 18 * w + 6 + 0 ≤ 324; omega)⟩ (fun r434 σ434 hp434 => ?_)
                                                                  obtain ⟨hsg434, hr434⟩ := hp434
                                                                  rw [hsg434, l_mix_s]
                                                                  obtain rfl : r434 = S 19 4 := hr434.trans (by first | rfl | (congr 1; omega))
                                                                  refine wq_iload_n C rfl dL_isRefused_437 ?_
                                                                  refine wq_bipush C (n := 30) (by decide) dL_isRefused_438 ?_
                                                                  refine wq_irem C (by omega) (by omega) dL_isRefused_440 ?_
                                                                  refine wq_iadd C dL_isRefused_441 ?_
                                                                  refine wq_sW C (av := [.ref ((g.2.2 0 0)), qi (((w : Nat) : Int)), qi ((S 19 4) + ((x) % (30)))]) (index := 137) (w_of l hl g hI σ _ _ (by omega) (by omega) S (48 * S 19 3) hC hS (by omega)) (vx_cwSW 3 C.1.2.2.2.2 gL_isRefused_L_of rfl rfl rfl (by decide +kernel) ⟨Nat.le_of_ble_eq_true rfl, Nat.le_of_ble_eq_true rfl⟩) rfl rfl (Nat.le_of_ble_eq_true rfl) dL_isRefused_442 ⟨(by show 30 + 3 * w + 1 + 1 ≤ 54; omega), (by show 180 + 18 * w + 6 + 6 ≤ 324; omega)⟩ (fun r442 σ442 hp442 => ?_)
                                                                  obtain ⟨hsg442, rfl⟩ := hp442
                                                                  rw [hsg442]
                                                                  refine wq_bipush C (n := -61) (by decide) dL_isRefused_445 ?_
                                                                  refine wq_icmp_ne C 454 (by omega) (by omega) (by decide) dL_isRefused_447 (fun hc447 => ?_) (fun hc447 => ?_)
                                                                  · exfalso; omega
                                                                  · skip
                                                                    refine wq_iconst C dL_isRefused_450 ?_
                                                                    refine wq_goto C 455 (by decide) dL_isRefused_451 ?_
                                                                    refine wq_istore C (by decide) (Nat.le_of_ble_eq_true rfl) rfl dL_isRefused_455 ?_
                                                                    refine wq_iinc C rfl (by decide) rfl dL_isRefused_457 ?_
                                                                    refine wq_goto C 331 (by decide) dL_isRefused_460 ?_
                                                                    refine wq_wide (c1 := 30 + 3 * (w + 1)) (s1 := 180 + 18 * (w + 1)) (by omega) (by omega) ?_
                                                                    exact ihw (w + 1) (by omega) (by omega)
                                                                · exfalso; omega
                                                exact hl331 (9) 0 (by omega) (by omega)
                                              refine wq_aload_n C rfl dL_isRefused_299 ?_
                                              refine wq_cI C (av := []) (index := 92) (c_X5_flows l g (lC_inj hI) σ S (48 * S 19 3) hC hS) (cwV 0 C.1.2.2.2.2 gL_isRefused_X5_flows rfl rfl rfl (by decide +kernel) ⟨Nat.le_of_ble_eq_true rfl, Nat.le_of_ble_eq_true rfl⟩) rfl rfl (Nat.le_of_ble_eq_true rfl) dL_isRefused_300 ⟨(Nat.le_of_ble_eq_true rfl), (Nat.le_of_ble_eq_true rfl)⟩ (fun r300 σ300 hp300 => ?_)
                                              obtain ⟨hsg300, hr300⟩ := hp300
                                              rw [hsg300, l_mix_s]
                                              obtain rfl : r300 = S 19 4 := hr300.trans (by first | rfl | (congr 1; omega))
                                              refine wq_bipush C (n := 24) (by decide) dL_isRefused_303 ?_
                                              refine wq_icmp_lt C 321 (by omega) (by omega) (by decide) dL_isRefused_305 (fun hc305 => ?_) (fun hc305 => ?_)
                                              · skip
                                                refine wq_wide (c1 := 30) (s1 := 180) (by decide) (by decide) ?_
                                                exact hj321
                                              · skip
                                                refine wq_aload_n C rfl dL_isRefused_308 ?_
                                                refine wq_iconst C dL_isRefused_309 ?_
                                                refine wq_iconst C dL_isRefused_310 ?_
                                                refine wq_iconst C dL_isRefused_311 ?_
                                                refine wq_iconst C dL_isRefused_312 ?_
                                                refine wq_sW C (av := [.ref ((g.2.2 0 0)), qi (0), qi (1), qi (1), qi (0)]) (index := 166) (w_addFlow l hl g hI σ _ _ _ _ (by omega) (by omega) (by omega) (by omega) S (48 * S 19 3) hC hS) (vx_cwSW 5 C.1.2.2.2.2 gL_isRefused_L_addFlow rfl rfl rfl (by decide +kernel) ⟨Nat.le_of_ble_eq_true rfl, Nat.le_of_ble_eq_true rfl⟩) rfl rfl (Nat.le_of_ble_eq_true rfl) dL_isRefused_313 ⟨(Nat.le_of_ble_eq_true rfl), (Nat.le_of_ble_eq_true rfl)⟩ (fun r313 σ313 hp313 => ?_)
                                                obtain ⟨rfl, hsg313⟩ : r313 = -63 ∧ σ313 = σ := by
                                                  rcases hp313 with ⟨-, -, hk, -⟩ | ⟨-, hk, -⟩ | ⟨h1, -, -, h2⟩
                                                  · exact absurd hk (by omega)
                                                  · exact absurd (show ab_okA 0 1 1 0 by unfold ab_okA; omega) hk
                                                  · exact ⟨h1, h2⟩
                                                rw [hsg313]
                                                refine wq_bipush C (n := -63) (by decide) dL_isRefused_316 ?_
                                                refine wq_icmp_ne C 325 (by omega) (by omega) (by decide) dL_isRefused_318 (fun hc318 => ?_) (fun hc318 => ?_)
                                                · exfalso; omega
                                                · skip
                                                  refine wq_wide (c1 := 30) (s1 := 180) (by decide) (by decide) ?_
                                                  exact hj321
                                  · exfalso; omega
                              · exfalso; omega
                          · exfalso; omega
                · exfalso; omega
            · exfalso; omega
        · exfalso; omega
      · exfalso; omega
    · exfalso; omega
  · skip
    refine wq_iconst C dL_isRefused_6 ?_
    refine wq_goto C 11 (by decide) dL_isRefused_7 ?_
    refine wq_istore_n C (by decide) (Nat.le_of_ble_eq_true rfl) rfl dL_isRefused_11 ?_
    refine wq_iload_n C rfl dL_isRefused_12 ?_
    refine wq_if_eq C 25 (by omega) (by decide) dL_isRefused_13 (fun hc13 => ?_) (fun hc13 => ?_)
    · exfalso; omega
    · skip
      refine wq_iconst C dL_isRefused_16 ?_
      refine wq_iload_n C rfl dL_isRefused_17 ?_
      refine wq_bipush C (n := 30) (by decide) dL_isRefused_18 ?_
      refine wq_irem C (by omega) (by omega) dL_isRefused_20 ?_
      refine wq_isub C dL_isRefused_21 ?_
      refine wq_goto C 32 (by decide) dL_isRefused_22 ?_
      refine wq_istore_n C (by decide) (Nat.le_of_ble_eq_true rfl) rfl dL_isRefused_32 ?_
      refine wq_iload_n C rfl dL_isRefused_33 ?_
      refine wq_if_eq C 46 (by omega) (by decide) dL_isRefused_34 (fun hc34 => ?_) (fun hc34 => ?_)
      · exfalso; omega
      · skip
        refine wq_iconst C dL_isRefused_37 ?_
        refine wq_iload_n C rfl dL_isRefused_38 ?_
        refine wq_bipush C (n := 30) (by decide) dL_isRefused_39 ?_
        refine wq_irem C (by omega) (by omega) dL_isRefused_41 ?_
        refine wq_isub C dL_isRefused_42 ?_
        refine wq_goto C 52 (by decide) dL_isRefused_43 ?_
        refine wq_istore C (by decide) (Nat.le_of_ble_eq_true rfl) rfl dL_isRefused_52 ?_
        refine wq_aload_n C rfl dL_isRefused_54 ?_
        refine wq_sJ C (av := [.ref ((g.2.2 0 0))]) (index := 158) (w_flows l hl g hI σ S (48 * S 19 3) hC hS) (va_cwS 1 C.1.2.2.2.2 gL_isRefused_L_flows rfl rfl rfl (by decide +kernel) ⟨Nat.le_of_ble_eq_true rfl, Nat.le_of_ble_eq_true rfl⟩) rfl rfl (Nat.le_of_ble_eq_true rfl) dL_isRefused_55 ⟨(Nat.le_of_ble_eq_true rfl), (Nat.le_of_ble_eq_true rfl)⟩ (fun r55 σ55 hp55 => ?_)
        obtain ⟨hsg55, rfl⟩ := hp55
        rw [hsg55]
        refine wq_ldc2 C (index := 113) (v := 3) (by decide +kernel) dL_isRefused_58 ?_
        refine wq_aload_n C rfl dL_isRefused_61 ?_
        refine wq_sJ C (av := [.ref ((g.2.2 0 0))]) (index := 161) (w_links l hl g hI σ S (48 * S 19 3) hC hS) (va_cwS 1 C.1.2.2.2.2 gL_isRefused_L_links rfl rfl rfl (by decide +kernel) ⟨Nat.le_of_ble_eq_true rfl, Nat.le_of_ble_eq_true rfl⟩) rfl rfl (Nat.le_of_ble_eq_true rfl) dL_isRefused_62 ⟨(Nat.le_of_ble_eq_true rfl), (Nat.le_of_ble_eq_true rfl)⟩ (fun r62 σ62 hp62 => ?_)
        obtain ⟨hsg62, rfl⟩ := hp62
        rw [hsg62]
        refine wq_lmul C dL_isRefused_65 ?_
        refine wq_ladd C dL_isRefused_66 ?_
        refine wq_lstore C (by decide) (Nat.le_of_ble_eq_true rfl) rfl dL_isRefused_67 ?_
        refine wq_aload_n C rfl dL_isRefused_69 ?_
        refine wq_iload_n C rfl dL_isRefused_70 ?_
        refine wq_if_eq C 78 (by omega) (by decide) dL_isRefused_71 (fun hc71 => ?_) (fun hc71 => ?_)
        · exfalso; omega
        · skip
          refine wq_iconst C dL_isRefused_74 ?_
          refine wq_goto C 80 (by decide) dL_isRefused_75 ?_
          refine wq_iconst C dL_isRefused_80 ?_
          refine wq_iconst C dL_isRefused_81 ?_
          refine wq_sW C (av := [.ref ((g.2.2 0 0)), qi (-1), qi (5), qi (5)]) (index := 164) (w_reset l hl g hI σ _ _ _ (by omega) (by omega) (by omega)) (vx_cwSW 4 C.1.2.2.2.2 gL_isRefused_L_reset rfl rfl rfl (by decide +kernel) ⟨Nat.le_of_ble_eq_true rfl, Nat.le_of_ble_eq_true rfl⟩) rfl rfl (Nat.le_of_ble_eq_true rfl) dL_isRefused_82 ⟨(Nat.le_of_ble_eq_true rfl), (Nat.le_of_ble_eq_true rfl)⟩ (fun r82 σ82 hp82 => ?_)
          obtain ⟨rfl, hsg82⟩ : r82 = -62 ∧ σ82 = σ := by
            rcases hp82 with ⟨-, hk, -⟩ | ⟨h1, -, h2⟩
            · exact absurd hk (by unfold ab_okR; omega)
            · exact ⟨h1, h2⟩
          rw [hsg82]
          refine wq_bipush C (n := -62) (by decide) dL_isRefused_85 ?_
          refine wq_icmp_ne C 325 (by omega) (by omega) (by decide) dL_isRefused_87 (fun hc87 => ?_) (fun hc87 => ?_)
          · exfalso; omega
          · skip
            refine wq_aload_n C rfl dL_isRefused_90 ?_
            refine wq_iconst C dL_isRefused_91 ?_
            refine wq_iload_n C rfl dL_isRefused_92 ?_
            refine wq_if_eq C 100 (by omega) (by decide) dL_isRefused_93 (fun hc93 => ?_) (fun hc93 => ?_)
            · exfalso; omega
            · skip
              refine wq_iconst C dL_isRefused_96 ?_
              refine wq_goto C 102 (by decide) dL_isRefused_97 ?_
              refine wq_iconst C dL_isRefused_102 ?_
              refine wq_sW C (av := [.ref ((g.2.2 0 0)), qi (0), qi (0), qi (5)]) (index := 164) (w_reset l hl g hI σ _ _ _ (by omega) (by omega) (by omega)) (vx_cwSW 4 C.1.2.2.2.2 gL_isRefused_L_reset rfl rfl rfl (by decide +kernel) ⟨Nat.le_of_ble_eq_true rfl, Nat.le_of_ble_eq_true rfl⟩) rfl rfl (Nat.le_of_ble_eq_true rfl) dL_isRefused_103 ⟨(Nat.le_of_ble_eq_true rfl), (Nat.le_of_ble_eq_true rfl)⟩ (fun r103 σ103 hp103 => ?_)
              obtain ⟨rfl, hsg103⟩ : r103 = -62 ∧ σ103 = σ := by
                rcases hp103 with ⟨-, hk, -⟩ | ⟨h1, -, h2⟩
                · exact absurd hk (by unfold ab_okR; omega)
                · exact ⟨h1, h2⟩
              rw [hsg103]
              refine wq_bipush C (n := -62) (by decide) dL_isRefused_106 ?_
              refine wq_icmp_ne C 325 (by omega) (by omega) (by decide) dL_isRefused_108 (fun hc108 => ?_) (fun hc108 => ?_)
              · exfalso; omega
              · skip
                refine wq_aload_n C rfl dL_isRefused_111 ?_
                refine wq_iconst C dL_isRefused_112 ?_
                refine wq_iconst C dL_isRefused_113 ?_
                refine wq_iload_n C rfl dL_isRefused_114 ?_
                refine wq_if_eq C 122 (by omega) (by decide) dL_isRefused_115 (fun hc115 => ?_) (fun hc115 => ?_)
                · exfalso; omega
                · skip
                  refine wq_iconst C dL_isRefused_118 ?_
                  refine wq_goto C 124 (by decide) dL_isRefused_119 ?_
                  refine wq_sW C (av := [.ref ((g.2.2 0 0)), qi (0), qi (5), qi (0)]) (index := 164) (w_reset l hl g hI σ _ _ _ (by omega) (by omega) (by omega)) (vx_cwSW 4 C.1.2.2.2.2 gL_isRefused_L_reset rfl rfl rfl (by decide +kernel) ⟨Nat.le_of_ble_eq_true rfl, Nat.le_of_ble_eq_true rfl⟩) rfl rfl (Nat.le_of_ble_eq_true rfl) dL_isRefused_124 ⟨(Nat.le_of_ble_eq_true rfl), (Nat.le_of_ble_eq_true rfl)⟩ (fun r124 σ124 hp124 => ?_)
                  obtain ⟨rfl, hsg124⟩ : r124 = -62 ∧ σ124 = σ := by
                    rcases hp124 with ⟨-, hk, -⟩ | ⟨h1, -, h2⟩
                    · exact absurd hk (by unfold ab_okR; omega)
                    · exact ⟨h1, h2⟩
                  rw [hsg124]
                  refine wq_bipush C (n := -62) (by decide) dL_isRefused_127 ?_
                  refine wq_icmp_ne C 325 (by omega) (by omega) (by decide) dL_isRefused_129 (fun hc129 => ?_) (fun hc129 => ?_)
                  · exfalso; omega
                  · skip
                    refine wq_aload_n C rfl dL_isRefused_132 ?_
                    refine wq_iload_n C rfl dL_isRefused_133 ?_
                    refine wq_iconst C dL_isRefused_134 ?_
                    refine wq_iconst C dL_isRefused_135 ?_
                    refine wq_iconst C dL_isRefused_136 ?_
                    refine wq_sW C (av := [.ref ((g.2.2 0 0)), qi ((-1) - ((x) % (30))), qi (1), qi (1), qi (0)]) (index := 166) (w_addFlow l hl g hI σ _ _ _ _ (by omega) (by omega) (by omega) (by omega) S (48 * S 19 3) hC hS) (vx_cwSW 5 C.1.2.2.2.2 gL_isRefused_L_addFlow rfl rfl rfl (by decide +kernel) ⟨Nat.le_of_ble_eq_true rfl, Nat.le_of_ble_eq_true rfl⟩) rfl rfl (Nat.le_of_ble_eq_true rfl) dL_isRefused_137 ⟨(Nat.le_of_ble_eq_true rfl), (Nat.le_of_ble_eq_true rfl)⟩ (fun r137 σ137 hp137 => ?_)
                    obtain ⟨rfl, hsg137⟩ : r137 = -62 ∧ σ137 = σ := by
                      rcases hp137 with ⟨-, hk, -⟩ | ⟨h1, -, h2⟩ | ⟨-, hk, -⟩
                      · exact absurd hk (by unfold ab_okA; omega)
                      · exact ⟨h1, h2⟩
                      · exact absurd hk (by unfold ab_okA; omega)
                    rw [hsg137]
                    refine wq_bipush C (n := -62) (by decide) dL_isRefused_140 ?_
                    refine wq_icmp_ne C 325 (by omega) (by omega) (by decide) dL_isRefused_142 (fun hc142 => ?_) (fun hc142 => ?_)
                    · exfalso; omega
                    · skip
                      refine wq_aload_n C rfl dL_isRefused_145 ?_
                      refine wq_iconst C dL_isRefused_146 ?_
                      refine wq_iload_n C rfl dL_isRefused_147 ?_
                      refine wq_iconst C dL_isRefused_148 ?_
                      refine wq_iconst C dL_isRefused_149 ?_
                      refine wq_sW C (av := [.ref ((g.2.2 0 0)), qi (1), qi ((-1) - ((x) % (30))), qi (1), qi (0)]) (index := 166) (w_addFlow l hl g hI σ _ _ _ _ (by omega) (by omega) (by omega) (by omega) S (48 * S 19 3) hC hS) (vx_cwSW 5 C.1.2.2.2.2 gL_isRefused_L_addFlow rfl rfl rfl (by decide +kernel) ⟨Nat.le_of_ble_eq_true rfl, Nat.le_of_ble_eq_true rfl⟩) rfl rfl (Nat.le_of_ble_eq_true rfl) dL_isRefused_150 ⟨(Nat.le_of_ble_eq_true rfl), (Nat.le_of_ble_eq_true rfl)⟩ (fun r150 σ150 hp150 => ?_)
                      obtain ⟨rfl, hsg150⟩ : r150 = -62 ∧ σ150 = σ := by
                        rcases hp150 with ⟨-, hk, -⟩ | ⟨h1, -, h2⟩ | ⟨-, hk, -⟩
                        · exact absurd hk (by unfold ab_okA; omega)
                        · exact ⟨h1, h2⟩
                        · exact absurd hk (by unfold ab_okA; omega)
                      rw [hsg150]
                      refine wq_bipush C (n := -62) (by decide) dL_isRefused_153 ?_
                      refine wq_icmp_ne C 325 (by omega) (by omega) (by decide) dL_isRefused_155 (fun hc155 => ?_) (fun hc155 => ?_)
                      · exfalso; omega
                      · skip
                        refine wq_aload_n C rfl dL_isRefused_158 ?_
                        refine wq_iload_n C rfl dL_isRefused_159 ?_
                        refine wq_bipush C (n := 16) (by decide) dL_isRefused_160 ?_
                        refine wq_irem C (by omega) (by omega) dL_isRefused_162 ?_
                        refine wq_iload_n C rfl dL_isRefused_163 ?_
                        refine wq_bipush C (n := 16) (by decide) dL_isRefused_164 ?_
                        refine wq_irem C (by omega) (by omega) dL_isRefused_166 ?_
                        refine wq_iconst C dL_isRefused_167 ?_
                        refine wq_iconst C dL_isRefused_168 ?_
                        refine wq_sW C (av := [.ref ((g.2.2 0 0)), qi ((x) % (16)), qi ((x) % (16)), qi (1), qi (0)]) (index := 166) (w_addFlow l hl g hI σ _ _ _ _ (by omega) (by omega) (by omega) (by omega) S (48 * S 19 3) hC hS) (vx_cwSW 5 C.1.2.2.2.2 gL_isRefused_L_addFlow rfl rfl rfl (by decide +kernel) ⟨Nat.le_of_ble_eq_true rfl, Nat.le_of_ble_eq_true rfl⟩) rfl rfl (Nat.le_of_ble_eq_true rfl) dL_isRefused_169 ⟨(Nat.le_of_ble_eq_true rfl), (Nat.le_of_ble_eq_true rfl)⟩ (fun r169 σ169 hp169 => ?_)
                        obtain ⟨rfl, hsg169⟩ : r169 = -62 ∧ σ169 = σ := by
                          rcases hp169 with ⟨-, hk, -⟩ | ⟨h1, -, h2⟩ | ⟨-, hk, -⟩
                          · exact absurd hk (by unfold ab_okA; omega)
                          · exact ⟨h1, h2⟩
                          · exact absurd hk (by unfold ab_okA; omega)
                        rw [hsg169]
                        refine wq_bipush C (n := -62) (by decide) dL_isRefused_172 ?_
                        refine wq_icmp_ne C 325 (by omega) (by omega) (by decide) dL_isRefused_174 (fun hc174 => ?_) (fun hc174 => ?_)
                        · exfalso; omega
                        · skip
                          refine wq_aload_n C rfl dL_isRefused_177 ?_
                          refine wq_iconst C dL_isRefused_178 ?_
                          refine wq_iconst C dL_isRefused_179 ?_
                          refine wq_iload_n C rfl dL_isRefused_180 ?_
                          refine wq_if_eq C 188 (by omega) (by decide) dL_isRefused_181 (fun hc181 => ?_) (fun hc181 => ?_)
                          · exfalso; omega
                          · skip
                            refine wq_iconst C dL_isRefused_184 ?_
                            refine wq_goto C 190 (by decide) dL_isRefused_185 ?_
                            refine wq_iconst C dL_isRefused_190 ?_
                            refine wq_sW C (av := [.ref ((g.2.2 0 0)), qi (0), qi (1), qi (0), qi (0)]) (index := 166) (w_addFlow l hl g hI σ _ _ _ _ (by omega) (by omega) (by omega) (by omega) S (48 * S 19 3) hC hS) (vx_cwSW 5 C.1.2.2.2.2 gL_isRefused_L_addFlow rfl rfl rfl (by decide +kernel) ⟨Nat.le_of_ble_eq_true rfl, Nat.le_of_ble_eq_true rfl⟩) rfl rfl (Nat.le_of_ble_eq_true rfl) dL_isRefused_191 ⟨(Nat.le_of_ble_eq_true rfl), (Nat.le_of_ble_eq_true rfl)⟩ (fun r191 σ191 hp191 => ?_)
                            obtain ⟨rfl, hsg191⟩ : r191 = -62 ∧ σ191 = σ := by
                              rcases hp191 with ⟨-, hk, -⟩ | ⟨h1, -, h2⟩ | ⟨-, hk, -⟩
                              · exact absurd hk (by unfold ab_okA; omega)
                              · exact ⟨h1, h2⟩
                              · exact absurd hk (by unfold ab_okA; omega)
                            rw [hsg191]
                            refine wq_bipush C (n := -62) (by decide) dL_isRefused_194 ?_
                            refine wq_icmp_ne C 325 (by omega) (by omega) (by decide) dL_isRefused_196 (fun hc196 => ?_) (fun hc196 => ?_)
                            · exfalso; omega
                            · skip
                              refine wq_aload_n C rfl dL_isRefused_199 ?_
                              refine wq_iconst C dL_isRefused_200 ?_
                              refine wq_iconst C dL_isRefused_201 ?_
                              refine wq_iconst C dL_isRefused_202 ?_
                              refine wq_iload_n C rfl dL_isRefused_203 ?_
                              refine wq_if_eq C 211 (by omega) (by decide) dL_isRefused_204 (fun hc204 => ?_) (fun hc204 => ?_)
                              · exfalso; omega
                              · skip
                                refine wq_iconst C dL_isRefused_207 ?_
                                refine wq_goto C 213 (by decide) dL_isRefused_208 ?_
                                refine wq_sW C (av := [.ref ((g.2.2 0 0)), qi (0), qi (1), qi (1), qi (-1)]) (index := 166) (w_addFlow l hl g hI σ _ _ _ _ (by omega) (by omega) (by omega) (by omega) S (48 * S 19 3) hC hS) (vx_cwSW 5 C.1.2.2.2.2 gL_isRefused_L_addFlow rfl rfl rfl (by decide +kernel) ⟨Nat.le_of_ble_eq_true rfl, Nat.le_of_ble_eq_true rfl⟩) rfl rfl (Nat.le_of_ble_eq_true rfl) dL_isRefused_213 ⟨(Nat.le_of_ble_eq_true rfl), (Nat.le_of_ble_eq_true rfl)⟩ (fun r213 σ213 hp213 => ?_)
                                obtain ⟨rfl, hsg213⟩ : r213 = -62 ∧ σ213 = σ := by
                                  rcases hp213 with ⟨-, hk, -⟩ | ⟨h1, -, h2⟩ | ⟨-, hk, -⟩
                                  · exact absurd hk (by unfold ab_okA; omega)
                                  · exact ⟨h1, h2⟩
                                  · exact absurd hk (by unfold ab_okA; omega)
                                rw [hsg213]
                                refine wq_bipush C (n := -62) (by decide) dL_isRefused_216 ?_
                                refine wq_icmp_ne C 325 (by omega) (by omega) (by decide) dL_isRefused_218 (fun hc218 => ?_) (fun hc218 => ?_)
                                · exfalso; omega
                                · skip
                                  refine wq_aload_n C rfl dL_isRefused_221 ?_
                                  refine wq_iload_n C rfl dL_isRefused_222 ?_
                                  refine wq_if_eq C 235 (by omega) (by decide) dL_isRefused_223 (fun hc223 => ?_) (fun hc223 => ?_)
                                  · exfalso; omega
                                  · skip
                                    refine wq_iconst C dL_isRefused_226 ?_
                                    refine wq_iload_n C rfl dL_isRefused_227 ?_
                                    refine wq_bipush C (n := 30) (by decide) dL_isRefused_228 ?_
                                    refine wq_irem C (by omega) (by omega) dL_isRefused_230 ?_
                                    refine wq_isub C dL_isRefused_231 ?_
                                    refine wq_goto C 243 (by decide) dL_isRefused_232 ?_
                                    refine wq_sW C (av := [.ref ((g.2.2 0 0)), qi ((0) - ((x) % (30)))]) (index := 169) (w_pass l hl g hI σ _ (by omega) S (48 * S 19 3) hC hS (by omega)) (vx_cwSW 2 C.1.2.2.2.2 gL_isRefused_L_pass rfl rfl rfl (by decide +kernel) ⟨Nat.le_of_ble_eq_true rfl, Nat.le_of_ble_eq_true rfl⟩) rfl rfl (Nat.le_of_ble_eq_true rfl) dL_isRefused_243 ⟨(Nat.le_of_ble_eq_true rfl), (Nat.le_of_ble_eq_true rfl)⟩ (fun r243 σ243 hp243 => ?_)
                                    obtain ⟨rfl, hsg243⟩ : r243 = -62 ∧ σ243 = σ := by
                                      rcases hp243 with ⟨-, hk, -⟩ | ⟨h1, -, h2⟩ | ⟨-, hk, -⟩
                                      · exact absurd hk (by omega)
                                      · exact ⟨h1, h2⟩
                                      · exact absurd hk (by omega)
                                    rw [hsg243]
                                    refine wq_bipush C (n := -62) (by decide) dL_isRefused_246 ?_
                                    refine wq_icmp_ne C 325 (by omega) (by omega) (by decide) dL_isRefused_248 (fun hc248 => ?_) (fun hc248 => ?_)
                                    · exfalso; omega
                                    · skip
                                      refine wq_aload_n C rfl dL_isRefused_251 ?_
                                      refine wq_iload C rfl dL_isRefused_252 ?_
                                      refine wq_iconst C dL_isRefused_254 ?_
                                      refine wq_sW C (av := [.ref ((g.2.2 0 0)), qi ((-1) - ((x) % (30))), qi (0)]) (index := 172) (w_cut l hl g hI σ _ _ (by omega) (by omega) S (48 * S 19 3) hC hS) (vx_cwSW 3 C.1.2.2.2.2 gL_isRefused_L_cut rfl rfl rfl (by decide +kernel) ⟨Nat.le_of_ble_eq_true rfl, Nat.le_of_ble_eq_true rfl⟩) rfl rfl (Nat.le_of_ble_eq_true rfl) dL_isRefused_255 ⟨(Nat.le_of_ble_eq_true rfl), (Nat.le_of_ble_eq_true rfl)⟩ (fun r255 σ255 hp255 => ?_)
                                      obtain ⟨rfl, hsg255⟩ : r255 = -62 ∧ σ255 = σ := by
                                        rcases hp255 with ⟨-, hk, -⟩ | ⟨h1, -, h2⟩ | ⟨-, hk, -⟩
                                        · exact absurd hk (by omega)
                                        · exact ⟨h1, h2⟩
                                        · exact absurd hk (by omega)
                                      rw [hsg255]
                                      refine wq_bipush C (n := -62) (by decide) dL_isRefused_258 ?_
                                      refine wq_icmp_ne C 325 (by omega) (by omega) (by decide) dL_isRefused_260 (fun hc260 => ?_) (fun hc260 => ?_)
                                      · exfalso; omega
                                      · skip
                                        refine wq_aload_n C rfl dL_isRefused_263 ?_
                                        refine wq_iconst C dL_isRefused_264 ?_
                                        refine wq_iload C rfl dL_isRefused_265 ?_
                                        refine wq_sW C (av := [.ref ((g.2.2 0 0)), qi (0), qi ((-1) - ((x) % (30)))]) (index := 172) (w_cut l hl g hI σ _ _ (by omega) (by omega) S (48 * S 19 3) hC hS) (vx_cwSW 3 C.1.2.2.2.2 gL_isRefused_L_cut rfl rfl rfl (by decide +kernel) ⟨Nat.le_of_ble_eq_true rfl, Nat.le_of_ble_eq_true rfl⟩) rfl rfl (Nat.le_of_ble_eq_true rfl) dL_isRefused_267 ⟨(Nat.le_of_ble_eq_true rfl), (Nat.le_of_ble_eq_true rfl)⟩ (fun r267 σ267 hp267 => ?_)
                                        obtain ⟨rfl, hsg267⟩ : r267 = -62 ∧ σ267 = σ := by
                                          rcases hp267 with ⟨-, hk, -⟩ | ⟨h1, -, h2⟩ | ⟨-, hk, -⟩
                                          · exact absurd hk (by omega)
                                          · exact ⟨h1, h2⟩
                                          · exact absurd hk (by omega)
                                        rw [hsg267]
                                        refine wq_bipush C (n := -62) (by decide) dL_isRefused_270 ?_
                                        refine wq_icmp_ne C 325 (by omega) (by omega) (by decide) dL_isRefused_272 (fun hc272 => ?_) (fun hc272 => ?_)
                                        · exfalso; omega
                                        · skip
                                          refine wq_aload_n C rfl dL_isRefused_275 ?_
                                          refine wq_iload C rfl dL_isRefused_276 ?_
                                          refine wq_iconst C dL_isRefused_278 ?_
                                          refine wq_sW C (av := [.ref ((g.2.2 0 0)), qi ((-1) - ((x) % (30))), qi (0)]) (index := 174) (w_restore l hl g hI σ _ _ (by omega) (by omega) S (48 * S 19 3) hC hS) (vx_cwSW 3 C.1.2.2.2.2 gL_isRefused_L_restore rfl rfl rfl (by decide +kernel) ⟨Nat.le_of_ble_eq_true rfl, Nat.le_of_ble_eq_true rfl⟩) rfl rfl (Nat.le_of_ble_eq_true rfl) dL_isRefused_279 ⟨(Nat.le_of_ble_eq_true rfl), (Nat.le_of_ble_eq_true rfl)⟩ (fun r279 σ279 hp279 => ?_)
                                          obtain ⟨rfl, hsg279⟩ : r279 = -62 ∧ σ279 = σ := by
                                            rcases hp279 with ⟨-, hk, -⟩ | ⟨h1, -, h2⟩ | ⟨-, hk, -⟩
                                            · exact absurd hk (by omega)
                                            · exact ⟨h1, h2⟩
                                            · exact absurd hk (by omega)
                                          rw [hsg279]
                                          refine wq_bipush C (n := -62) (by decide) dL_isRefused_282 ?_
                                          refine wq_icmp_ne C 325 (by omega) (by omega) (by decide) dL_isRefused_284 (fun hc284 => ?_) (fun hc284 => ?_)
                                          · exfalso; omega
                                          · skip
                                            refine wq_aload_n C rfl dL_isRefused_287 ?_
                                            refine wq_iconst C dL_isRefused_288 ?_
                                            refine wq_iload C rfl dL_isRefused_289 ?_
                                            refine wq_sW C (av := [.ref ((g.2.2 0 0)), qi (0), qi ((-1) - ((x) % (30)))]) (index := 174) (w_restore l hl g hI σ _ _ (by omega) (by omega) S (48 * S 19 3) hC hS) (vx_cwSW 3 C.1.2.2.2.2 gL_isRefused_L_restore rfl rfl rfl (by decide +kernel) ⟨Nat.le_of_ble_eq_true rfl, Nat.le_of_ble_eq_true rfl⟩) rfl rfl (Nat.le_of_ble_eq_true rfl) dL_isRefused_291 ⟨(Nat.le_of_ble_eq_true rfl), (Nat.le_of_ble_eq_true rfl)⟩ (fun r291 σ291 hp291 => ?_)
                                            obtain ⟨rfl, hsg291⟩ : r291 = -62 ∧ σ291 = σ := by
                                              rcases hp291 with ⟨-, hk, -⟩ | ⟨h1, -, h2⟩ | ⟨-, hk, -⟩
                                              · exact absurd hk (by omega)
                                              · exact ⟨h1, h2⟩
                                              · exact absurd hk (by omega)
                                            rw [hsg291]
                                            refine wq_bipush C (n := -62) (by decide) dL_isRefused_294 ?_
                                            refine wq_icmp_ne C 325 (by omega) (by omega) (by decide) dL_isRefused_296 (fun hc296 => ?_) (fun hc296 => ?_)
                                            · exfalso; omega
                                            · skip
                                              have hj321 :  wq g p l e (headSpec wsL_isRefused ({ frames := 9, cells := 54, slots := 324, locals := 179 })).room s m ([.ref ((g.2.2 0 0)), qi (x)] : List Value).toArray below meth c (30) (180) (MQ below (lQ g (fun r σ' => σ' = σ ∧ r = 1)) ([.ref ((g.2.2 0 0)), qi (x)] : List Value).toArray s 54 324 (am_FA (gL g))) (am_FA (gL g)) 9 321 [some (.ref ((g.2.2 0 0))), some (qi (x)), some (qi (1)), some (qi ((-1) - ((x) % (30)))), some (qi ((-1) - ((x) % (30)))), some (.long ((lfl S (ab_n S)) + (((3 : Int64)) * (lli S 16)))), none, none, none] [] σ := by
                                                refine wq_iconst C dL_isRefused_321 ?_
                                                refine wq_goto C 326 (by decide) dL_isRefused_322 ?_
                                                refine wq_istore C (by decide) (Nat.le_of_ble_eq_true rfl) rfl dL_isRefused_326 ?_
                                                refine wq_iconst C dL_isRefused_328 ?_
                                                refine wq_istore C (by decide) (Nat.le_of_ble_eq_true rfl) rfl dL_isRefused_329 ?_
                                                have hl331 : ∀ (dw w : Nat), 9 ≤ w + dw → w ≤ 8 → wq g p l e (headSpec wsL_isRefused ({ frames := 9, cells := 54, slots := 324, locals := 179 })).room s m ([.ref ((g.2.2 0 0)), qi (x)] : List Value).toArray below meth c (30 + 3 * w) (180 + 18 * w) (MQ below (lQ g (fun r σ' => σ' = σ ∧ r = 1)) ([.ref ((g.2.2 0 0)), qi (x)] : List Value).toArray s 54 324 (am_FA (gL g))) (am_FA (gL g)) 9 331 [some (.ref ((g.2.2 0 0))), some (qi (x)), some (qi (1)), some (qi ((-1) - ((x) % (30)))), some (qi ((-1) - ((x) % (30)))), some (.long ((lfl S (ab_n S)) + (((3 : Int64)) * (lli S 16)))), none, some (qi (1)), some (qi (((w : Nat) : Int)))] [] σ := by
                                                  intro dw
                                                  induction dw with
                                                  | zero => intro w h1 h2; omega
                                                  | succ dw ihw =>
                                                    intro w h1w h2w
                                                    refine wq_iload C rfl dL_isRefused_331 ?_
                                                    refine wq_bipush C (n := 8) (by decide) dL_isRefused_333 ?_
                                                    refine wq_icmp_ge C 463 (by omega) (by omega) (by decide) dL_isRefused_335 (fun hc335 => ?_) (fun hc335 => ?_)
                                                    · skip
                                                      obtain rfl : w = 8 := by omega
                                                      refine wq_iload C rfl dL_isRefused_463 ?_
                                                      refine wq_if_eq C 491 (by omega) (by decide) dL_isRefused_465 (fun hc465 => ?_) (fun hc465 => ?_)
                                                      · exfalso; omega
                                                      · skip
                                                        refine wq_aload_n C rfl dL_isRefused_468 ?_
                                                        refine wq_sJ C (av := [.ref ((g.2.2 0 0))]) (index := 158) (w_flows l hl g hI σ S (48 * S 19 3) hC hS) (va_cwS 1 C.1.2.2.2.2 gL_isRefused_L_flows rfl rfl rfl (by decide +kernel) ⟨Nat.le_of_ble_eq_true rfl, Nat.le_of_ble_eq_true rfl⟩) rfl rfl (Nat.le_of_ble_eq_true rfl) dL_isRefused_469 ⟨(Nat.le_of_ble_eq_true rfl), (Nat.le_of_ble_eq_true rfl)⟩ (fun r469 σ469 hp469 => ?_)
                                                        obtain ⟨hsg469, rfl⟩ := hp469
                                                        rw [hsg469]
                                                        refine wq_ldc2 C (index := 113) (v := 3) (by decide +kernel) dL_isRefused_472 ?_
                                                        refine wq_aload_n C rfl dL_isRefused_475 ?_
                                                        refine wq_sJ C (av := [.ref ((g.2.2 0 0))]) (index := 161) (w_links l hl g hI σ S (48 * S 19 3) hC hS) (va_cwS 1 C.1.2.2.2.2 gL_isRefused_L_links rfl rfl rfl (by decide +kernel) ⟨Nat.le_of_ble_eq_true rfl, Nat.le_of_ble_eq_true rfl⟩) rfl rfl (Nat.le_of_ble_eq_true rfl) dL_isRefused_476 ⟨(Nat.le_of_ble_eq_true rfl), (Nat.le_of_ble_eq_true rfl)⟩ (fun r476 σ476 hp476 => ?_)
                                                        obtain ⟨hsg476, rfl⟩ := hp476
                                                        rw [hsg476]
                                                        refine wq_lmul C dL_isRefused_479 ?_
                                                        refine wq_ladd C dL_isRefused_480 ?_
                                                        refine wq_lload C rfl dL_isRefused_481 ?_
                                                        refine wq_lcmpE C dL_isRefused_483 ?_
                                                        refine wq_if_ne C 491 (by omega) (by decide) dL_isRefused_484 (fun hc484 => ?_) (fun hc484 => ?_)
                                                        · exfalso; omega
                                                        · skip
                                                          refine wq_iconst C dL_isRefused_487 ?_
                                                          refine wq_goto C 492 (by decide) dL_isRefused_488 ?_
                                                          refine wq_zret C hr hlk (Nat.le_of_ble_eq_true rfl) (Nat.le_of_ble_eq_true rfl) (by omega) dL_isRefused_492 ?_
                                                          exact ⟨rfl, rfl⟩
                                                    · skip
                                                      refine wq_iload C rfl dL_isRefused_338 ?_
                                                      refine wq_if_eq C 463 (by omega) (by decide) dL_isRefused_340 (fun hc340 => ?_) (fun hc340 => ?_)
                                                      · exfalso; omega
                                                      · skip
                                                        refine wq_iload C rfl dL_isRefused_343 ?_
                                                        refine wq_iconst C dL_isRefused_345 ?_
                                                        refine wq_icmp_ge C 370 (by omega) (by omega) (by decide) dL_isRefused_346 (fun hc346 => ?_) (fun hc346 => ?_)
                                                        · skip
                                                          refine wq_aload_n C rfl dL_isRefused_370 ?_
                                                          refine wq_iload C rfl dL_isRefused_371 ?_
                                                          refine wq_iload C rfl dL_isRefused_373 ?_
                                                          refine wq_iconst C dL_isRefused_375 ?_
                                                          refine wq_sW C (av := [.ref ((g.2.2 0 0)), qi (((w : Nat) : Int)), qi ((-1) - ((x) % (30))), qi (1)]) (index := 151) (w_ask l hl g hI σ _ _ _ (by omega) (by omega) (by omega) S (48 * S 19 3) hC hS (by omega)) (vx_cwSW 4 C.1.2.2.2.2 gL_isRefused_L_ask rfl rfl rfl (by decide +kernel) ⟨Nat.le_of_ble_eq_true rfl, Nat.le_of_ble_eq_true rfl⟩) rfl rfl (Nat.le_of_ble_eq_true rfl) dL_isRefused_376 ⟨(by show 30 + 3 * w + 1 ≤ 54; omega), (by show 180 + 18 * w + 6 ≤ 324; omega)⟩ (fun r376 σ376 hp376 => ?_)
                                                          obtain ⟨hsg376, rfl⟩ := hp376
                                                          rw [hsg376]
                                                          refine wq_bipush C (n := -62) (by decide) dL_isRefused_379 ?_
                                                          refine wq_icmp_ne C 402 (by omega) (by omega) (by decide) dL_isRefused_381 (fun hc381 => ?_) (fun hc381 => ?_)
                                                          · exfalso; omega
                                                          · skip
                                                            refine wq_aload_n C rfl dL_isRefused_384 ?_
                                                            refine wq_iload C rfl dL_isRefused_385 ?_
                                                            refine wq_iconst C dL_isRefused_387 ?_
                                                            refine wq_iload C rfl dL_isRefused_388 ?_
                                                            refine wq_sW C (av := [.ref ((g.2.2 0 0)), qi (((w : Nat) : Int)), qi (1), qi ((-1) - ((x) % (30)))]) (index := 151) (w_ask l hl g hI σ _ _ _ (by omega) (by omega) (by omega) S (48 * S 19 3) hC hS (by omega)) (vx_cwSW 4 C.1.2.2.2.2 gL_isRefused_L_ask rfl rfl rfl (by decide +kernel) ⟨Nat.le_of_ble_eq_true rfl, Nat.le_of_ble_eq_true rfl⟩) rfl rfl (Nat.le_of_ble_eq_true rfl) dL_isRefused_390 ⟨(by show 30 + 3 * w + 1 + 1 ≤ 54; omega), (by show 180 + 18 * w + 6 + 6 ≤ 324; omega)⟩ (fun r390 σ390 hp390 => ?_)
                                                            obtain ⟨hsg390, rfl⟩ := hp390
                                                            rw [hsg390]
                                                            refine wq_bipush C (n := -62) (by decide) dL_isRefused_393 ?_
                                                            refine wq_icmp_ne C 402 (by omega) (by omega) (by decide) dL_isRefused_395 (fun hc395 => ?_) (fun hc395 => ?_)
                                                            · exfalso; omega
                                                            · skip
                                                              refine wq_iconst C dL_isRefused_398 ?_
                                                              refine wq_goto C 403 (by decide) dL_isRefused_399 ?_
                                                              refine wq_istore C (by decide) (Nat.le_of_ble_eq_true rfl) rfl dL_isRefused_403 ?_
                                                              refine wq_iload C rfl dL_isRefused_405 ?_
                                                              refine wq_if_eq C 454 (by omega) (by decide) dL_isRefused_407 (fun hc407 => ?_) (fun hc407 => ?_)
                                                              · exfalso; omega
                                                              · skip
                                                                refine wq_iload C rfl dL_isRefused_410 ?_
                                                                refine wq_bipush C (n := 6) (by decide) dL_isRefused_412 ?_
                                                                refine wq_icmp_gt C 450 (by omega) (by omega) (by decide) dL_isRefused_414 (fun hc414 => ?_) (fun hc414 => ?_)
                                                                · skip
                                                                  refine wq_iconst C dL_isRefused_450 ?_
                                                                  refine wq_goto C 455 (by decide) dL_isRefused_451 ?_
                                                                  refine wq_istore C (by decide) (Nat.le_of_ble_eq_true rfl) rfl dL_isRefused_455 ?_
                                                                  refine wq_iinc C rfl (by decide) rfl dL_isRefused_457 ?_
                                                                  refine wq_goto C 331 (by decide) dL_isRefused_460 ?_
                                                                  refine wq_wide (c1 := 30 + 3 * (w + 1)) (s1 := 180 + 18 * (w + 1)) (by omega) (by omega) ?_
                                                                  exact ihw (w + 1) (by omega) (by omega)
                                                                · skip
                                                                  refine wq_aload_n C rfl dL_isRefused_417 ?_
                                                                  refine wq_iload C rfl dL_isRefused_418 ?_
                                                                  refine wq_iload_n C rfl dL_isRefused_420 ?_
                                                                  refine wq_if_eq C 433 (by omega) (by decide) dL_isRefused_421 (fun hc421 => ?_) (fun hc421 => ?_)
                                                                  · exfalso; omega
                                                                  · skip
                                                                    refine wq_iconst C dL_isRefused_424 ?_
                                                                    refine wq_iload_n C rfl dL_isRefused_425 ?_
                                                                    refine wq_bipush C (n := 30) (by decide) dL_isRefused_426 ?_
                                                                    refine wq_irem C (by omega) (by omega) dL_isRefused_428 ?_
                                                                    refine wq_isub C dL_isRefused_429 ?_
                                                                    refine wq_goto C 442 (by decide) dL_isRefused_430 ?_
                                                                    refine wq_sW C (av := [.ref ((g.2.2 0 0)), qi (((w : Nat) : Int)), qi ((-1) - ((x) % (30)))]) (index := 137) (w_of l hl g hI σ _ _ (by omega) (by omega) S (48 * S 19 3) hC hS (by omega)) (vx_cwSW 3 C.1.2.2.2.2 gL_isRefused_L_of rfl rfl rfl (by decide +kernel) ⟨Nat.le_of_ble_eq_true rfl, Nat.le_of_ble_eq_true rfl⟩) rfl rfl (Nat.le_of_ble_eq_true rfl) dL_isRefused_442 ⟨(by show 30 + 3 * w + 1 + 1 + 1 ≤ 54; omega), (by show 180 + 18 * w + 6 + 6 + 6 ≤ 324; omega)⟩ (fun r442 σ442 hp442 => ?_)
                                                                    obtain ⟨hsg442, rfl⟩ := hp442
                                                                    rw [hsg442]
                                                                    refine wq_bipush C (n := -61) (by decide) dL_isRefused_445 ?_
                                                                    refine wq_icmp_ne C 454 (by omega) (by omega) (by decide) dL_isRefused_447 (fun hc447 => ?_) (fun hc447 => ?_)
                                                                    · exfalso; omega
                                                                    · skip
                                                                      refine wq_iconst C dL_isRefused_450 ?_
                                                                      refine wq_goto C 455 (by decide) dL_isRefused_451 ?_
                                                                      refine wq_istore C (by decide) (Nat.le_of_ble_eq_true rfl) rfl dL_isRefused_455 ?_
                                                                      refine wq_iinc C rfl (by decide) rfl dL_isRefused_457 ?_
                                                                      refine wq_goto C 331 (by decide) dL_isRefused_460 ?_
                                                                      refine wq_wide (c1 := 30 + 3 * (w + 1)) (s1 := 180 + 18 * (w + 1)) (by omega) (by omega) ?_
                                                                      exact ihw (w + 1) (by omega) (by omega)
                                                        · skip
                                                          refine wq_aload_n C rfl dL_isRefused_349 ?_
                                                          refine wq_iload C rfl dL_isRefused_350 ?_
                                                          refine wq_iload_n C rfl dL_isRefused_352 ?_
                                                          refine wq_iconst C dL_isRefused_353 ?_
                                                          refine wq_sW C (av := [.ref ((g.2.2 0 0)), qi (((w : Nat) : Int)), qi ((-1) - ((x) % (30))), qi (0)]) (index := 151) (w_ask l hl g hI σ _ _ _ (by omega) (by omega) (by omega) S (48 * S 19 3) hC hS (by omega)) (vx_cwSW 4 C.1.2.2.2.2 gL_isRefused_L_ask rfl rfl rfl (by decide +kernel) ⟨Nat.le_of_ble_eq_true rfl, Nat.le_of_ble_eq_true rfl⟩) rfl rfl (Nat.le_of_ble_eq_true rfl) dL_isRefused_354 ⟨(by show 30 + 3 * w + 1 ≤ 54; omega), (by show 180 + 18 * w + 6 ≤ 324; omega)⟩ (fun r354 σ354 hp354 => ?_)
                                                          obtain ⟨hsg354, rfl⟩ := hp354
                                                          rw [hsg354]
                                                          refine wq_bipush C (n := -62) (by decide) dL_isRefused_357 ?_
                                                          refine wq_icmp_ne C 366 (by omega) (by omega) (by decide) dL_isRefused_359 (fun hc359 => ?_) (fun hc359 => ?_)
                                                          · exfalso; omega
                                                          · skip
                                                            refine wq_iconst C dL_isRefused_362 ?_
                                                            refine wq_goto C 403 (by decide) dL_isRefused_363 ?_
                                                            refine wq_istore C (by decide) (Nat.le_of_ble_eq_true rfl) rfl dL_isRefused_403 ?_
                                                            refine wq_iload C rfl dL_isRefused_405 ?_
                                                            refine wq_if_eq C 454 (by omega) (by decide) dL_isRefused_407 (fun hc407 => ?_) (fun hc407 => ?_)
                                                            · exfalso; omega
                                                            · skip
                                                              refine wq_iload C rfl dL_isRefused_410 ?_
                                                              refine wq_bipush C (n := 6) (by decide) dL_isRefused_412 ?_
                                                              refine wq_icmp_gt C 450 (by omega) (by omega) (by decide) dL_isRefused_414 (fun hc414 => ?_) (fun hc414 => ?_)
                                                              · skip
                                                                refine wq_iconst C dL_isRefused_450 ?_
                                                                refine wq_goto C 455 (by decide) dL_isRefused_451 ?_
                                                                refine wq_istore C (by decide) (Nat.le_of_ble_eq_true rfl) rfl dL_isRefused_455 ?_
                                                                refine wq_iinc C rfl (by decide) rfl dL_isRefused_457 ?_
                                                                refine wq_goto C 331 (by decide) dL_isRefused_460 ?_
                                                                refine wq_wide (c1 := 30 + 3 * (w + 1)) (s1 := 180 + 18 * (w + 1)) (by omega) (by omega) ?_
                                                                exact ihw (w + 1) (by omega) (by omega)
                                                              · skip
                                                                refine wq_aload_n C rfl dL_isRefused_417 ?_
                                                                refine wq_iload C rfl dL_isRefused_418 ?_
                                                                refine wq_iload_n C rfl dL_isRefused_420 ?_
                                                                refine wq_if_eq C 433 (by omega) (by decide) dL_isRefused_421 (fun hc421 => ?_) (fun hc421 => ?_)
                                                                · exfalso; omega
                                                                · skip
                                                                  refine wq_iconst C dL_isRefused_424 ?_
                                                                  refine wq_iload_n C rfl dL_isRefused_425 ?_
                                                                  refine wq_bipush C (n := 30) (by decide) dL_isRefused_426 ?_
                                                                  refine wq_irem C (by omega) (by omega) dL_isRefused_428 ?_
                                                                  refine wq_isub C dL_isRefused_429 ?_
                                                                  refine wq_goto C 442 (by decide) dL_isRefused_430 ?_
                                                                  refine wq_sW C (av := [.ref ((g.2.2 0 0)), qi (((w : Nat) : Int)), qi ((-1) - ((x) % (30)))]) (index := 137) (w_of l hl g hI σ _ _ (by omega) (by omega) S (48 * S 19 3) hC hS (by omega)) (vx_cwSW 3 C.1.2.2.2.2 gL_isRefused_L_of rfl rfl rfl (by decide +kernel) ⟨Nat.le_of_ble_eq_true rfl, Nat.le_of_ble_eq_true rfl⟩) rfl rfl (Nat.le_of_ble_eq_true rfl) dL_isRefused_442 ⟨(by show 30 + 3 * w + 1 + 1 ≤ 54; omega), (by show 180 + 18 * w + 6 + 6 ≤ 324; omega)⟩ (fun r442 σ442 hp442 => ?_)
                                                                  obtain ⟨hsg442, rfl⟩ := hp442
                                                                  rw [hsg442]
                                                                  refine wq_bipush C (n := -61) (by decide) dL_isRefused_445 ?_
                                                                  refine wq_icmp_ne C 454 (by omega) (by omega) (by decide) dL_isRefused_447 (fun hc447 => ?_) (fun hc447 => ?_)
                                                                  · exfalso; omega
                                                                  · skip
                                                                    refine wq_iconst C dL_isRefused_450 ?_
                                                                    refine wq_goto C 455 (by decide) dL_isRefused_451 ?_
                                                                    refine wq_istore C (by decide) (Nat.le_of_ble_eq_true rfl) rfl dL_isRefused_455 ?_
                                                                    refine wq_iinc C rfl (by decide) rfl dL_isRefused_457 ?_
                                                                    refine wq_goto C 331 (by decide) dL_isRefused_460 ?_
                                                                    refine wq_wide (c1 := 30 + 3 * (w + 1)) (s1 := 180 + 18 * (w + 1)) (by omega) (by omega) ?_
                                                                    exact ihw (w + 1) (by omega) (by omega)
                                                exact hl331 (9) 0 (by omega) (by omega)
                                              refine wq_aload_n C rfl dL_isRefused_299 ?_
                                              refine wq_cI C (av := []) (index := 92) (c_X5_flows l g (lC_inj hI) σ S (48 * S 19 3) hC hS) (cwV 0 C.1.2.2.2.2 gL_isRefused_X5_flows rfl rfl rfl (by decide +kernel) ⟨Nat.le_of_ble_eq_true rfl, Nat.le_of_ble_eq_true rfl⟩) rfl rfl (Nat.le_of_ble_eq_true rfl) dL_isRefused_300 ⟨(Nat.le_of_ble_eq_true rfl), (Nat.le_of_ble_eq_true rfl)⟩ (fun r300 σ300 hp300 => ?_)
                                              obtain ⟨hsg300, hr300⟩ := hp300
                                              rw [hsg300, l_mix_s]
                                              obtain rfl : r300 = S 19 4 := hr300.trans (by first | rfl | (congr 1; omega))
                                              refine wq_bipush C (n := 24) (by decide) dL_isRefused_303 ?_
                                              refine wq_icmp_lt C 321 (by omega) (by omega) (by decide) dL_isRefused_305 (fun hc305 => ?_) (fun hc305 => ?_)
                                              · skip
                                                refine wq_wide (c1 := 30) (s1 := 180) (by decide) (by decide) ?_
                                                exact hj321
                                              · skip
                                                refine wq_aload_n C rfl dL_isRefused_308 ?_
                                                refine wq_iconst C dL_isRefused_309 ?_
                                                refine wq_iconst C dL_isRefused_310 ?_
                                                refine wq_iconst C dL_isRefused_311 ?_
                                                refine wq_iconst C dL_isRefused_312 ?_
                                                refine wq_sW C (av := [.ref ((g.2.2 0 0)), qi (0), qi (1), qi (1), qi (0)]) (index := 166) (w_addFlow l hl g hI σ _ _ _ _ (by omega) (by omega) (by omega) (by omega) S (48 * S 19 3) hC hS) (vx_cwSW 5 C.1.2.2.2.2 gL_isRefused_L_addFlow rfl rfl rfl (by decide +kernel) ⟨Nat.le_of_ble_eq_true rfl, Nat.le_of_ble_eq_true rfl⟩) rfl rfl (Nat.le_of_ble_eq_true rfl) dL_isRefused_313 ⟨(Nat.le_of_ble_eq_true rfl), (Nat.le_of_ble_eq_true rfl)⟩ (fun r313 σ313 hp313 => ?_)
                                                obtain ⟨rfl, hsg313⟩ : r313 = -63 ∧ σ313 = σ := by
                                                  rcases hp313 with ⟨-, -, hk, -⟩ | ⟨-, hk, -⟩ | ⟨h1, -, -, h2⟩
                                                  · exact absurd hk (by omega)
                                                  · exact absurd (show ab_okA 0 1 1 0 by unfold ab_okA; omega) hk
                                                  · exact ⟨h1, h2⟩
                                                rw [hsg313]
                                                refine wq_bipush C (n := -63) (by decide) dL_isRefused_316 ?_
                                                refine wq_icmp_ne C 325 (by omega) (by omega) (by decide) dL_isRefused_318 (fun hc318 => ?_) (fun hc318 => ?_)
                                                · exfalso; omega
                                                · skip
                                                  refine wq_wide (c1 := 30) (s1 := 180) (by decide) (by decide) ?_
                                                  exact hj321
