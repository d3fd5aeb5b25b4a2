/-! FabricsimModel: linksPick, maySend, hostsPick -/
theorem in_c_X6_linksPick_X6 : ∀ w ∈ u_ws RX6 TX6 36, w ∈ wsX6_linksPick := by decide +kernel
set_option maxRecDepth 100000 in
set_option maxHeartbeats 4000000 in
/-- linksPick -/
theorem c_X6_linksPick (l : Launch) (g : am_g) (hI : am_inj (gR g)) (σ : am_M) (S : ab_S) (b : Int) (hR : ab_R S σ) (hS : ab_I S b) : Met l yX6_linksPick wsX6_linksPick ({ frames := 2, cells := 0, slots := 0, locals := 46 }) (am_P (gR g) σ [.inr (20, 0)]) (am_QV (gR g) (fun σ' => ab_R (ab_LP S 64) σ' ∧ PKR S 64 σ')) 0 0 (am_FA (gR g)) := by
  refine wk_start (cc := cX6_linksPick) (nL := 6) (ret := none) (own := RX6) (by decide) rfl hI rfl (Nat.le_of_ble_eq_true rfl) ?_
  intro p e s m below meth c C hr hlk
  change wk _ p l e _ s m _ below meth c 0 0 _ _ _ _ 0 [some (.inr (20, 0)), none, none, none, none, none] [] σ
  refine wk_bipush C (n := 16) (by decide) dX6_linksPick_0 ?_
  refine wk_istore_n C (by decide) (Nat.le_of_ble_eq_true rfl) dX6_linksPick_2 ?_
  have hl3 : ∀ (d L : Nat) (σ1 : am_M), 65 ≤ L + d → 16 ≤ L → L ≤ 64 → ab_R (ab_LP S L) σ1 ∧ PKR S L σ1 → wk (gR g) p l e (headSpec wsX6_linksPick ({ frames := 2, cells := 0, slots := 0, locals := 46 })).room s m ([.inr (20, 0)].map (am_tv (gR g))).toArray below meth c 0 0 (MQ below (am_QV (gR g) (fun σ' => ab_R (ab_LP S 64) σ' ∧ PKR S 64 σ')) ([.inr (20, 0)].map (am_tv (gR g))).toArray s 0 0 (am_FA (gR g))) (am_FA (gR g)) s.heap 6 3 [some (.inr (20, 0)), some (.inl ((L : Nat) : Int)), none, none, none, none] [] σ1 := by
    intro d
    induction d with
    | zero => intro L σ1 h1 h16 h2 h3; omega
    | succ d ih =>
      intro L σ1 h1 h16 h2 h3
      refine wk_iload_n C rfl dX6_linksPick_3 ?_
      refine wk_bipush C (n := 64) (by decide) dX6_linksPick_4 ?_
      refine wk_icmp_ge C 184 (by omega) (by omega) (by decide) dX6_linksPick_6 (fun hc6 => ?_) (fun hc6 => ?_)
      · skip
        refine wk_vret C hr hlk dX6_linksPick_184 ?_
        have h4 : L = 64 := by omega
        subst h4
        exact h3
      · skip
        have hm48 := ab_m48 L
        have hmd : ab_m L = if 48 ≤ L then 4 else 8 := rfl
        have hRv : ab_Rv S σ1 := Rv_Z h3.1
        have hRq : ab_Rq S σ1 := Rq_cg h3.1 (fun i => LP_o (by omega) i) (fun i => LP_o (by omega) i) (fun i => LP_o (by omega) i)
        have h38 := (h3.1.2.2.2.1 L (by omega)).2.1
        have h40 := (h3.1.2.2.2.1 L (by omega)).2.2
        rw [LP_L.1] at h38
        rw [LP_L.2] at h40
        have hl := hS.2.2.2.1 L (by omega)
        have hs4 := hS.s4 (L := L) (by omega)
        have hj21 : ∀ mm : Int, mm = ((ab_m L : Nat) : Int) → wk (gR g) p l e (headSpec wsX6_linksPick ({ frames := 2, cells := 0, slots := 0, locals := 46 })).room s m ([.inr (20, 0)].map (am_tv (gR g))).toArray below meth c 0 0 (MQ below (am_QV (gR g) (fun σ' => ab_R (ab_LP S 64) σ' ∧ PKR S 64 σ')) ([.inr (20, 0)].map (am_tv (gR g))).toArray s 0 0 (am_FA (gR g))) (am_FA (gR g)) s.heap 6 21 [some (.inr (20, 0)), some (.inl ((L : Nat) : Int)), none, none, none, none] [.inl (mm)] σ1 := by
          intro mm hmm
          subst hmm
          refine wk_istore_n C (by decide) (Nat.le_of_ble_eq_true rfl) dX6_linksPick_21 ?_
          refine wk_iconst C dX6_linksPick_22 ?_
          refine wk_istore_n C (by decide) (Nat.le_of_ble_eq_true rfl) dX6_linksPick_23 ?_
          refine wk_iload_n C rfl dX6_linksPick_24 ?_
          refine wk_istore C (by decide) (Nat.le_of_ble_eq_true rfl) dX6_linksPick_25 ?_
          have hl27 : ∀ (d2 k : Nat), k < d2 → k ≤ ab_m L → wk (gR g) p l e (headSpec wsX6_linksPick ({ frames := 2, cells := 0, slots := 0, locals := 46 })).room s m ([.inr (20, 0)].map (am_tv (gR g))).toArray below meth c 0 0 (MQ below (am_QV (gR g) (fun σ' => ab_R (ab_LP S 64) σ' ∧ PKR S 64 σ')) ([.inr (20, 0)].map (am_tv (gR g))).toArray s 0 0 (am_FA (gR g))) (am_FA (gR g)) s.heap 6 27 [some (.inr (20, 0)), some (.inl ((L : Nat) : Int)), some (.inl (((ab_m L) : Nat) : Int)), some (.inl (ab_fdn S L k)), some (.inl ((k : Nat) : Int)), none] [] σ1 := by
            intro d2
            induction d2 with
            | zero => intro k g1 g2; omega
            | succ d2 ih2 =>
              intro k g1 g2
              refine wk_iload C rfl dX6_linksPick_27 ?_
              refine wk_if_le C 89 (by omega) (by decide) dX6_linksPick_29 (fun hc29 => ?_) (fun hc29 => ?_)
              · skip
                have hk0 : k = 0 := by omega
                subst hk0
                have hfr := fdn_rng S L 0
                have hj116 : ∀ v : Int, (v = 0 ∧ ab_pick S L = -1) ∨ (v = 1 ∧ ¬ ab_pick S L = -1 ∧ ab_pick S L = ab_fdn S L 0) → wk (gR g) p l e (headSpec wsX6_linksPick ({ frames := 2, cells := 0, slots := 0, locals := 46 })).room s m ([.inr (20, 0)].map (am_tv (gR g))).toArray below meth c 0 0 (MQ below (am_QV (gR g) (fun σ' => ab_R (ab_LP S 64) σ' ∧ PKR S 64 σ')) ([.inr (20, 0)].map (am_tv (gR g))).toArray s 0 0 (am_FA (gR g))) (am_FA (gR g)) s.heap 6 116 [some (.inr (20, 0)), some (.inl ((L : Nat) : Int)), some (.inl (((ab_m L) : Nat) : Int)), some (.inl (ab_fdn S L 0)), none, none] [.inl (v)] σ1 := by
                  intro v hv
                  refine wk_istore C (by decide) (Nat.le_of_ble_eq_true rfl) dX6_linksPick_116 ?_
                  have hj137 : ∀ w : Int, w = rpk S L → wk (gR g) p l e (headSpec wsX6_linksPick ({ frames := 2, cells := 0, slots := 0, locals := 46 })).room s m ([.inr (20, 0)].map (am_tv (gR g))).toArray below meth c 0 0 (MQ below (am_QV (gR g) (fun σ' => ab_R (ab_LP S 64) σ' ∧ PKR S 64 σ')) ([.inr (20, 0)].map (am_tv (gR g))).toArray s 0 0 (am_FA (gR g))) (am_FA (gR g)) s.heap 6 137 [some (.inr (20, 0)), some (.inl ((L : Nat) : Int)), some (.inl (((ab_m L) : Nat) : Int)), some (.inl (ab_fdn S L 0)), some (.inl (v)), none] [.inl (w), .inl ((L : Nat) : Int), .inr (41, 0)] σ1 := by
                    intro w hw
                    subst hw
                    refine wk_iast C (k := 41) rfl (show 0 < (1:Nat) by decide) (Nat.le_of_ble_eq_true rfl) (L) (by omega) (show _ < (64:Nat) by omega) dX6_linksPick_137 ?_
                    have hj158 : ∀ x : Int, x = (if ab_pick S L = -1 then S 15 L else ab_pick S L) → wk (gR g) p l e (headSpec wsX6_linksPick ({ frames := 2, cells := 0, slots := 0, locals := 46 })).room s m ([.inr (20, 0)].map (am_tv (gR g))).toArray below meth c 0 0 (MQ below (am_QV (gR g) (fun σ' => ab_R (ab_LP S 64) σ' ∧ PKR S 64 σ')) ([.inr (20, 0)].map (am_tv (gR g))).toArray s 0 0 (am_FA (gR g))) (am_FA (gR g)) s.heap 6 158 [some (.inr (20, 0)), some (.inl ((L : Nat) : Int)), some (.inl (((ab_m L) : Nat) : Int)), some (.inl (ab_fdn S L 0)), some (.inl (v)), none] [.inl (x), .inl ((L : Nat) : Int), .inr (40, 0)] (am_up σ1 41 0 L (rpk S L)) := by
                      intro x hx5
                      refine wk_iast C (k := 40) rfl (show 0 < (1:Nat) by decide) (Nat.le_of_ble_eq_true rfl) (L) (by omega) (show _ < (64:Nat) by omega) dX6_linksPick_158 ?_
                      refine wk_aload_n C rfl dX6_linksPick_159 ?_
                      refine wk_getr C (k := 20) (ci := 6) (j := 18) (T := TX6) rfl (show 0 < (1:Nat) by decide) rfl in_c_X6_linksPick_X6 (by decide) (by decide +kernel) rfl dX6_linksPick_160 ?_
                      refine wk_iload_n C rfl dX6_linksPick_163 ?_
                      refine wk_dup2 C dX6_linksPick_164 ?_
                      refine wk_iald C (k := 38) rfl (show 0 < (1:Nat) by decide) (Nat.le_of_ble_eq_true rfl) (L) (by omega) (show _ < (64:Nat) by omega) dX6_linksPick_165 ?_
                      rw [am_up_app, if_neg (by omega), am_up_app, if_neg (by omega), h38]
                      refine wk_iload C rfl dX6_linksPick_166 ?_
                      refine wk_if_eq C 175 (by omega) (by decide) dX6_linksPick_168 (fun hc168 => ?_) (fun hc168 => ?_)
                      · skip
                        have hy5 : S 13 L - 0 = if ab_pick S L = -1 then S 13 L else S 13 L - 1 := by rw [if_pos (by omega)]; omega
                        refine wk_iconst C dX6_linksPick_175 ?_
                        refine wk_isub C dX6_linksPick_176 ?_
                        refine wk_iast C (k := 38) rfl (show 0 < (1:Nat) by decide) (Nat.le_of_ble_eq_true rfl) (L) (by omega) (show _ < (64:Nat) by omega) dX6_linksPick_177 ?_
                        refine wk_iinc C rfl (by decide) dX6_linksPick_178 ?_
                        refine wk_goto C 3 (by decide) dX6_linksPick_181 ?_
                        refine wk_le ?_ (ih (L + 1) _ (by omega) (by omega) (by omega) (LP_next h16 h3.1 h3.2 hx5 hy5))
                        repeat (first | exact le_0 | refine le_s ?_ | refine le_n ?_)
                      · skip
                        have hy5 : S 13 L - 1 = if ab_pick S L = -1 then S 13 L else S 13 L - 1 := by rw [if_neg (by omega)]
                        refine wk_iconst C dX6_linksPick_171 ?_
                        refine wk_goto C 176 (by decide) dX6_linksPick_172 ?_
                        refine wk_isub C dX6_linksPick_176 ?_
                        refine wk_iast C (k := 38) rfl (show 0 < (1:Nat) by decide) (Nat.le_of_ble_eq_true rfl) (L) (by omega) (show _ < (64:Nat) by omega) dX6_linksPick_177 ?_
                        refine wk_iinc C rfl (by decide) dX6_linksPick_178 ?_
                        refine wk_goto C 3 (by decide) dX6_linksPick_181 ?_
                        refine wk_le ?_ (ih (L + 1) _ (by omega) (by omega) (by omega) (LP_next h16 h3.1 h3.2 hx5 hy5))
                        repeat (first | exact le_0 | refine le_s ?_ | refine le_n ?_)
                    refine wk_aload_n C rfl dX6_linksPick_138 ?_
                    refine wk_getr C (k := 20) (ci := 6) (j := 20) (T := TX6) rfl (show 0 < (1:Nat) by decide) rfl in_c_X6_linksPick_X6 (by decide) (by decide +kernel) rfl dX6_linksPick_139 ?_
                    refine wk_iload_n C rfl dX6_linksPick_142 ?_
                    refine wk_iload C rfl dX6_linksPick_143 ?_
                    refine wk_if_eq C 152 (by omega) (by decide) dX6_linksPick_145 (fun hc145 => ?_) (fun hc145 => ?_)
                    · skip
                      have hx158 : S 15 L = if ab_pick S L = -1 then S 15 L else ab_pick S L := by rw [if_pos (by omega)]
                      refine wk_aload_n C rfl dX6_linksPick_152 ?_
                      refine wk_getr C (k := 20) (ci := 6) (j := 20) (T := TX6) rfl (show 0 < (1:Nat) by decide) rfl in_c_X6_linksPick_X6 (by decide) (by decide +kernel) rfl dX6_linksPick_153 ?_
                      refine wk_iload_n C rfl dX6_linksPick_156 ?_
                      refine wk_iald C (k := 40) rfl (show 0 < (1:Nat) by decide) (Nat.le_of_ble_eq_true rfl) (L) (by omega) (show _ < (64:Nat) by omega) dX6_linksPick_157 ?_
                      rw [am_up_app, if_neg (by omega), h40]
                      exact hj158 _ hx158
                    · skip
                      have hx158 : ab_fdn S L 0 = if ab_pick S L = -1 then S 15 L else ab_pick S L := by rw [if_neg (by omega)]; omega
                      refine wk_iload_n C rfl dX6_linksPick_148 ?_
                      refine wk_goto C 158 (by decide) dX6_linksPick_149 ?_
                      exact hj158 _ hx158
                  refine wk_aload_n C rfl dX6_linksPick_118 ?_
                  refine wk_getr C (k := 20) (ci := 6) (j := 21) (T := TX6) rfl (show 0 < (1:Nat) by decide) rfl in_c_X6_linksPick_X6 (by decide) (by decide +kernel) rfl dX6_linksPick_119 ?_
                  refine wk_iload_n C rfl dX6_linksPick_122 ?_
                  refine wk_iload C rfl dX6_linksPick_123 ?_
                  refine wk_if_eq C 136 (by omega) (by decide) dX6_linksPick_125 (fun hc125 => ?_) (fun hc125 => ?_)
                  · skip
                    have hpk : ab_pick S L = -1 := by omega
                    have hw137 : (-1 : Int) = rpk S L := by rw [rpk, if_pos hpk]
                    refine wk_iconst C dX6_linksPick_136 ?_
                    exact hj137 _ hw137
                  · skip
                    have hpn : ¬ ab_pick S L = -1 := by omega
                    have hpf := pk_fact hS (by omega : L < 64) hpn
                    rw [show ab_fdn S L 0 = (((ab_pick S L).toNat : Nat) : Int) by omega]
                    have hw137 : ((ab_qat L (ab_pick S L).toNat : Nat) : Int) = rpk S L := by rw [rpk, if_neg hpn]
                    refine wk_iload_n C rfl dX6_linksPick_128 ?_
                    refine wk_iload_n C rfl dX6_linksPick_129 ?_
                    refine wk_ofI C (wk_runS (index := 168) (st := [_, _]) C (c_X6_queueAt l g hI _ L (ab_pick S L).toNat ⟨h16, by omega⟩ hpf.2.2.2.1) (cwS 2 C.2.2.2.2.1 gX6_linksPick_X6_queueAt rfl rfl rfl (by decide +kernel) ⟨Nat.le_of_ble_eq_true rfl, Nat.le_of_ble_eq_true rfl⟩) rfl rfl (Nat.le_of_ble_eq_true rfl) dX6_linksPick_130 ⟨Nat.zero_le _, Nat.zero_le _⟩) (fun r130 σ130 hp130 => ?_)
                    obtain ⟨hsg130, rfl⟩ := hp130
                    rw [hsg130]
                    rw [show (((ab_pick S L).toNat : Nat) : Int) = ab_fdn S L 0 by omega]
                    refine wk_goto C 137 (by decide) dX6_linksPick_133 ?_
                    exact hj137 _ hw137
                refine wk_iload_n C rfl dX6_linksPick_89 ?_
                refine wk_iconst C dX6_linksPick_90 ?_
                refine wk_icmp_eq C 115 (by omega) (by omega) (by decide) dX6_linksPick_91 (fun hc91 => ?_) (fun hc91 => ?_)
                · skip
                  have hpk : ab_pick S L = -1 := by rw [pick_fdn]; split <;> omega
                  refine wk_iconst C dX6_linksPick_115 ?_
                  refine wk_le ?_ (hj116 _ (by first | exact Or.inl ⟨rfl, hpk⟩ | exact Or.inr ⟨rfl, hpn, hpe⟩))
                  repeat (first | exact le_0 | refine le_s ?_ | refine le_n ?_)
                · skip
                  refine wk_aload_n C rfl dX6_linksPick_94 ?_
                  refine wk_getr C (k := 20) (ci := 6) (j := 18) (T := TX6) rfl (show 0 < (1:Nat) by decide) rfl in_c_X6_linksPick_X6 (by decide) (by decide +kernel) rfl dX6_linksPick_95 ?_
                  refine wk_iload_n C rfl dX6_linksPick_98 ?_
                  refine wk_iald C (k := 38) rfl (show 0 < (1:Nat) by decide) (Nat.le_of_ble_eq_true rfl) (L) (by omega) (show _ < (64:Nat) by omega) dX6_linksPick_99 ?_
                  rw [h38]
                  refine wk_if_le C 115 (by omega) (by decide) dX6_linksPick_100 (fun hc100 => ?_) (fun hc100 => ?_)
                  · skip
                    have hpk : ab_pick S L = -1 := by rw [pick_fdn, if_neg (fun z => by have := z.1; omega)]
                    refine wk_iconst C dX6_linksPick_115 ?_
                    refine wk_le ?_ (hj116 _ (by first | exact Or.inl ⟨rfl, hpk⟩ | exact Or.inr ⟨rfl, hpn, hpe⟩))
                    repeat (first | exact le_0 | refine le_s ?_ | refine le_n ?_)
                  · skip
                    refine wk_aload_n C rfl dX6_linksPick_103 ?_
                    refine wk_iload_n C rfl dX6_linksPick_104 ?_
                    refine wk_ofI C (wk_runV (index := 159) (ci := 6) (st := []) C (c_X6_isShut l g hI _ L (by omega) S b hRv hS) (cwV 1 C.2.2.2.2.1 gX6_linksPick_X6_isShut rfl rfl rfl (by decide +kernel) ⟨Nat.le_of_ble_eq_true rfl, Nat.le_of_ble_eq_true rfl⟩) rfl (show 0 < (1:Nat) by decide) rfl rfl rfl (Nat.le_of_ble_eq_true rfl) dX6_linksPick_105 ⟨Nat.zero_le _, Nat.zero_le _⟩) (fun r105 σ105 hp105 => ?_)
                    obtain ⟨hsg105, rfl⟩ := hp105
                    rw [hsg105]
                    have h1r := ab_1r (ab_shut S L)
                    refine wk_if_ne C 115 (by omega) (by decide) dX6_linksPick_108 (fun hc108 => ?_) (fun hc108 => ?_)
                    · skip
                      have hpk : ab_pick S L = -1 := by
                        rw [pick_fdn, if_neg]
                        rintro ⟨-, z⟩
                        rw [z, ab_1f] at hc108; omega
                      refine wk_iconst C dX6_linksPick_115 ?_
                      refine wk_le ?_ (hj116 _ (by first | exact Or.inl ⟨rfl, hpk⟩ | exact Or.inr ⟨rfl, hpn, hpe⟩))
                      repeat (first | exact le_0 | refine le_s ?_ | refine le_n ?_)
                    · skip
                      have hsh : ab_shut S L = false := by
                        cases hz : ab_shut S L
                        · rfl
                        · rw [hz, ab_1t] at hc108; omega
                      have hpe : ab_pick S L = ab_fdn S L 0 := by rw [pick_fdn, if_pos ⟨hc100, hsh⟩]
                      have hpn : ¬ ab_pick S L = -1 := by omega
                      refine wk_iconst C dX6_linksPick_111 ?_
                      refine wk_goto C 116 (by decide) dX6_linksPick_112 ?_
                      refine wk_le ?_ (hj116 _ (by first | exact Or.inl ⟨rfl, hpk⟩ | exact Or.inr ⟨rfl, hpn, hpe⟩))
                      repeat (first | exact le_0 | refine le_s ?_ | refine le_n ?_)
              · skip
                obtain ⟨j, rfl⟩ : ∃ j, k = j + 1 := ⟨k - 1, by omega⟩
                have hpm := plc_mod S L (j + 1)
                have hst := fdn_step S (L := L) (k := j) (by omega)
                have hqa := qat_lt h16 (by omega : L < 64) hpm.2
                have hj60 : ∀ pl : Int, pl = ((ab_plc S L (j + 1) : Nat) : Int) → wk (gR g) p l e (headSpec wsX6_linksPick ({ frames := 2, cells := 0, slots := 0, locals := 46 })).room s m ([.inr (20, 0)].map (am_tv (gR g))).toArray below meth c 0 0 (MQ below (am_QV (gR g) (fun σ' => ab_R (ab_LP S 64) σ' ∧ PKR S 64 σ')) ([.inr (20, 0)].map (am_tv (gR g))).toArray s 0 0 (am_FA (gR g))) (am_FA (gR g)) s.heap 6 60 [some (.inr (20, 0)), some (.inl ((L : Nat) : Int)), some (.inl (((ab_m L) : Nat) : Int)), some (.inl (ab_fdn S L (j + 1))), some (.inl (((j + 1) : Nat) : Int)), none] [.inl (pl)] σ1 := by
                  intro pl hpl
                  subst hpl
                  refine wk_istore C (by decide) (Nat.le_of_ble_eq_true rfl) dX6_linksPick_60 ?_
                  have hj82 : ∀ v : Int, v = ab_fdn S L j → wk (gR g) p l e (headSpec wsX6_linksPick ({ frames := 2, cells := 0, slots := 0, locals := 46 })).room s m ([.inr (20, 0)].map (am_tv (gR g))).toArray below meth c 0 0 (MQ below (am_QV (gR g) (fun σ' => ab_R (ab_LP S 64) σ' ∧ PKR S 64 σ')) ([.inr (20, 0)].map (am_tv (gR g))).toArray s 0 0 (am_FA (gR g))) (am_FA (gR g)) s.heap 6 82 [some (.inr (20, 0)), some (.inl ((L : Nat) : Int)), some (.inl (((ab_m L) : Nat) : Int)), some (.inl (ab_fdn S L (j + 1))), some (.inl (((j + 1) : Nat) : Int)), none] [.inl (v)] σ1 := by
                    intro v hv
                    subst hv
                    refine wk_istore_n C (by decide) (Nat.le_of_ble_eq_true rfl) dX6_linksPick_82 ?_
                    refine wk_iinc C rfl (by decide) dX6_linksPick_83 ?_
                    refine wk_goto C 27 (by decide) dX6_linksPick_86 ?_
                    rw [show ((j + 1 : Nat) : Int) + -1 = ((j : Nat) : Int) by omega]
                    refine wk_le ?_ (ih2 j (by omega) (by omega))
                    repeat (first | exact le_0 | refine le_s ?_ | refine le_n ?_)
                  refine wk_aload_n C rfl dX6_linksPick_62 ?_
                  refine wk_iload_n C rfl dX6_linksPick_63 ?_
                  refine wk_iload C rfl dX6_linksPick_64 ?_
                  refine wk_ofI C (wk_runS (index := 168) (st := [_]) C (c_X6_queueAt l g hI _ L (ab_plc S L (j + 1)) ⟨h16, by omega⟩ hpm.2) (cwS 2 C.2.2.2.2.1 gX6_linksPick_X6_queueAt rfl rfl rfl (by decide +kernel) ⟨Nat.le_of_ble_eq_true rfl, Nat.le_of_ble_eq_true rfl⟩) rfl rfl (Nat.le_of_ble_eq_true rfl) dX6_linksPick_66 ⟨Nat.zero_le _, Nat.zero_le _⟩) (fun r66 σ66 hp66 => ?_)
                  obtain ⟨hsg66, rfl⟩ := hp66
                  rw [hsg66]
                  have hwr := ab_w_rng hS hqa.1
                  refine wk_ofI C (wk_runV (index := 156) (ci := 6) (st := []) C (c_X6_wanted l g hI _ (ab_qat L (ab_plc S L (j + 1))) hqa.1 S b hRv hS hRq) (cwV 1 C.2.2.2.2.1 gX6_linksPick_X6_wanted rfl rfl rfl (by decide +kernel) ⟨Nat.le_of_ble_eq_true rfl, Nat.le_of_ble_eq_true rfl⟩) rfl (show 0 < (1:Nat) by decide) rfl rfl rfl (Nat.le_of_ble_eq_true rfl) dX6_linksPick_69 ⟨Nat.zero_le _, Nat.zero_le _⟩) (fun r69 σ69 hp69 => ?_)
                  obtain ⟨hsg69, rfl⟩ := hp69
                  rw [hsg69]
                  refine wk_iload_n C rfl dX6_linksPick_72 ?_
                  refine wk_icmp_ne C 81 (by omega) (by omega) (by decide) dX6_linksPick_73 (fun hc73 => ?_) (fun hc73 => ?_)
                  · skip
                    have hv82 := hst.2 hc73
                    refine wk_iload_n C rfl dX6_linksPick_81 ?_
                    refine wk_le ?_ (hj82 _ hv82)
                    repeat (first | exact le_0 | refine le_s ?_ | refine le_n ?_)
                  · skip
                    have hv82 := hst.1 hc73
                    refine wk_iload C rfl dX6_linksPick_76 ?_
                    refine wk_goto C 82 (by decide) dX6_linksPick_78 ?_
                    refine wk_le ?_ (hj82 _ hv82)
                    repeat (first | exact le_0 | refine le_s ?_ | refine le_n ?_)
                refine wk_aload_n C rfl dX6_linksPick_32 ?_
                refine wk_getr C (k := 20) (ci := 6) (j := 20) (T := TX6) rfl (show 0 < (1:Nat) by decide) rfl in_c_X6_linksPick_X6 (by decide) (by decide +kernel) rfl dX6_linksPick_33 ?_
                refine wk_iload_n C rfl dX6_linksPick_36 ?_
                refine wk_iald C (k := 40) rfl (show 0 < (1:Nat) by decide) (Nat.le_of_ble_eq_true rfl) (L) (by omega) (show _ < (64:Nat) by omega) dX6_linksPick_37 ?_
                rw [h40]
                refine wk_iconst C dX6_linksPick_38 ?_
                refine wk_icmp_ne C 49 (by omega) (by omega) (by decide) dX6_linksPick_39 (fun hc39 => ?_) (fun hc39 => ?_)
                · skip
                  refine wk_aload_n C rfl dX6_linksPick_49 ?_
                  refine wk_getr C (k := 20) (ci := 6) (j := 20) (T := TX6) rfl (show 0 < (1:Nat) by decide) rfl in_c_X6_linksPick_X6 (by decide) (by decide +kernel) rfl dX6_linksPick_50 ?_
                  refine wk_iload_n C rfl dX6_linksPick_53 ?_
                  refine wk_iald C (k := 40) rfl (show 0 < (1:Nat) by decide) (Nat.le_of_ble_eq_true rfl) (L) (by omega) (show _ < (64:Nat) by omega) dX6_linksPick_54 ?_
                  rw [h40]
                  refine wk_iload C rfl dX6_linksPick_55 ?_
                  refine wk_iadd C dX6_linksPick_57 ?_
                  refine wk_iload_n C rfl dX6_linksPick_58 ?_
                  refine wk_irem C (by omega) (by omega) dX6_linksPick_59 ?_
                  exact hj60 _ (by first | exact (plc_first hc39 (by omega)).symm | exact hpm.1.symm)
                · skip
                  refine wk_iload C rfl dX6_linksPick_42 ?_
                  refine wk_iconst C dX6_linksPick_44 ?_
                  refine wk_isub C dX6_linksPick_45 ?_
                  refine wk_goto C 60 (by decide) dX6_linksPick_46 ?_
                  exact hj60 _ (by first | exact (plc_first hc39 (by omega)).symm | exact hpm.1.symm)
          have hlp := hl27 (ab_m L + 1) (ab_m L) (by omega) (by omega)
          rw [fdn_m] at hlp
          refine wk_le ?_ hlp
          repeat (first | exact le_0 | refine le_s ?_ | refine le_n ?_)
        refine wk_iload_n C rfl dX6_linksPick_9 ?_
        refine wk_bipush C (n := 48) (by decide) dX6_linksPick_10 ?_
        refine wk_icmp_lt C 19 (by omega) (by omega) (by decide) dX6_linksPick_12 (fun hc12 => ?_) (fun hc12 => ?_)
        · skip
          rw [if_neg (by omega)] at hmd
          refine wk_bipush C (n := 8) (by decide) dX6_linksPick_19 ?_
          exact hj21 _ (by omega)
        · skip
          rw [if_pos (by omega)] at hmd
          refine wk_iconst C dX6_linksPick_15 ?_
          refine wk_goto C 21 (by decide) dX6_linksPick_16 ?_
          exact hj21 _ (by omega)
  refine wk_le ?_ (hl3 65 16 σ (by omega) (by omega) (by omega) ⟨R_ext (LP_16 S) hR, fun i z1 z2 => by omega⟩)
  repeat (first | exact le_0 | refine le_s ?_ | refine le_n ?_)

theorem in_c_X6_maySend_X6 : ∀ w ∈ u_ws RX6 TX6 36, w ∈ wsX6_maySend := by decide +kernel
set_option maxRecDepth 100000 in
set_option maxHeartbeats 4000000 in
/-- maySend -/
theorem c_X6_maySend (l : Launch) (g : am_g) (hI : am_inj (gR g)) (σ : am_M) (f h : Nat) (hh : h < 16) (op : Nat → Int) (S : ab_S) (b : Int) (hv : ab_Rv S σ) (hS : ab_I S b) (hf : (f : Int) < S 19 4) (hfl : σ 28 0 f = S 3 f ∧ σ 29 0 f = S 4 f ∧ σ 31 0 f = S 6 f ∧ σ 27 0 f = S 2 f) (hck : σ 20 0 3 = S 19 3 ∧ σ 20 0 2 = S 19 2) (hop : ∀ t : Nat, t < 16 → σ 50 0 t = op t ∧ -200000000 ≤ op t ∧ op t ≤ 200000000) : Met l yX6_maySend wsX6_maySend ({ frames := 2, cells := 0, slots := 0, locals := 47 }) (am_P (gR g) σ [.inr (20, 0), .inl ((f : Nat) : Int), .inl ((h : Nat) : Int)]) (am_QI (gR g) (fun r σ' => σ' = σ ∧ r = ab_1 (ab_may S op f h))) 0 0 (am_FA (gR g)) := by
  refine wk_start (cc := cX6_maySend) (nL := 5) (ret := (some .boolean)) (own := RX6) (by decide) rfl hI rfl (Nat.le_of_ble_eq_true rfl) ?_
  intro p e s m below meth c C hr hlk
  change wk _ p l e _ s m _ below meth c 0 0 _ _ _ _ 0 [some (.inr (20, 0)), some (.inl ((f : Nat) : Int)), some (.inl ((h : Nat) : Int)), none, none] [] σ
  have hif := hS.2.2.1 f hf
  unfold ab_If at hif
  obtain ⟨i0, i1, i2, i3, i4, i5, i6, i7, i8, i9, i10, i11, i12, i13, i14⟩ := hif
  have hn24 := hS.2.1.2.2.2.2
  have hf24 : f < 24 := by omega
  have hcf0 : σ 25 0 f = S 0 f := (hv.2 f hf).1
  have hcf1 : σ 26 0 f = S 1 f := (hv.2 f hf).2
  have hla : ((ab_la S f : Nat) : Int) = S 0 f / 4 := Int.toNat_of_nonneg (by omega)
  have hlb : ((ab_lb S f : Nat) : Int) = S 1 f / 4 := Int.toNat_of_nonneg (by omega)
  have hb1 := hS.1
  have hc19 := hS.2.1
  have hme : ab_may S op f h = ((decide (S 0 f = ((h : Nat) : Int)) && decide (S 3 f ≤ S 19 3) && decide (S 4 f - S 6 f < S 2 f)) && (!ab_far S f || decide (¬ ab_many S (ab_la S f) (ab_lb S f) = 0)) && decide (op (S 1 f).toNat < S 19 2)) := rfl
  have hj50 : ∀ v : Int, v = ab_1 (decide (S 0 f = ((h : Nat) : Int)) && decide (S 3 f ≤ S 19 3) && decide (S 4 f - S 6 f < S 2 f)) → wk (gR g) p l e (headSpec wsX6_maySend ({ frames := 2, cells := 0, slots := 0, locals := 47 })).room s m ([.inr (20, 0), .inl ((f : Nat) : Int), .inl ((h : Nat) : Int)].map (am_tv (gR g))).toArray below meth c 0 0 (MQ below (am_QI (gR g) (fun r σ' => σ' = σ ∧ r = ab_1 (ab_may S op f h))) ([.inr (20, 0), .inl ((f : Nat) : Int), .inl ((h : Nat) : Int)].map (am_tv (gR g))).toArray s 0 0 (am_FA (gR g))) (am_FA (gR g)) s.heap 5 50 [some (.inr (20, 0)), some (.inl ((f : Nat) : Int)), some (.inl ((h : Nat) : Int)), none, none] [.inl (v)] σ := by
    intro v hv5
    refine wk_istore_n C (by decide) (Nat.le_of_ble_eq_true rfl) dX6_maySend_50 ?_
    have hj87 : ∀ w : Int, w = ab_1 (!ab_far S f || decide (¬ ab_many S (ab_la S f) (ab_lb S f) = 0)) → wk (gR g) p l e (headSpec wsX6_maySend ({ frames := 2, cells := 0, slots := 0, locals := 47 })).room s m ([.inr (20, 0), .inl ((f : Nat) : Int), .inl ((h : Nat) : Int)].map (am_tv (gR g))).toArray below meth c 0 0 (MQ below (am_QI (gR g) (fun r σ' => σ' = σ ∧ r = ab_1 (ab_may S op f h))) ([.inr (20, 0), .inl ((f : Nat) : Int), .inl ((h : Nat) : Int)].map (am_tv (gR g))).toArray s 0 0 (am_FA (gR g))) (am_FA (gR g)) s.heap 5 87 [some (.inr (20, 0)), some (.inl ((f : Nat) : Int)), some (.inl ((h : Nat) : Int)), some (.inl (v)), none] [.inl (w)] σ := by
      intro w hw5
      have hbA := ab_1r (decide (S 0 f = ((h : Nat) : Int)) && decide (S 3 f ≤ S 19 3) && decide (S 4 f - S 6 f < S 2 f))
      have hbB := ab_1r (!ab_far S f || decide (¬ ab_many S (ab_la S f) (ab_lb S f) = 0))
      have hop1 := hop (S 1 f).toNat (by omega)
      refine wk_istore C (by decide) (Nat.le_of_ble_eq_true rfl) dX6_maySend_87 ?_
      refine wk_iload_n C rfl dX6_maySend_89 ?_
      refine wk_if_eq C 120 (by omega) (by decide) dX6_maySend_90 (fun hc90 => ?_) (fun hc90 => ?_)
      · skip
        have hm : ab_may S op f h = false := by
          rw [hme]
          cases hz : (decide (S 0 f = ((h : Nat) : Int)) && decide (S 3 f ≤ S 19 3) && decide (S 4 f - S 6 f < S 2 f))
          · rfl
          · rw [hz, ab_1t] at hv5; omega
        refine wk_iconst C dX6_maySend_120 ?_
        refine wk_zret C hr hlk (by omega) dX6_maySend_121 ?_
        exact ⟨rfl, by rw [hm]; rfl⟩
      · skip
        have hA1 : (decide (S 0 f = ((h : Nat) : Int)) && decide (S 3 f ≤ S 19 3) && decide (S 4 f - S 6 f < S 2 f)) = true := by
          cases hz : (decide (S 0 f = ((h : Nat) : Int)) && decide (S 3 f ≤ S 19 3) && decide (S 4 f - S 6 f < S 2 f))
          · rw [hz, ab_1f] at hv5; omega
          · rfl
        refine wk_iload C rfl dX6_maySend_93 ?_
        refine wk_if_eq C 120 (by omega) (by decide) dX6_maySend_95 (fun hc95 => ?_) (fun hc95 => ?_)
        · skip
          have hm : ab_may S op f h = false := by
            rw [hme]
            cases hz : (!ab_far S f || decide (¬ ab_many S (ab_la S f) (ab_lb S f) = 0))
            · rw [Bool.and_false]; rfl
            · rw [hz, ab_1t] at hw5; omega
          refine wk_iconst C dX6_maySend_120 ?_
          refine wk_zret C hr hlk (by omega) dX6_maySend_121 ?_
          exact ⟨rfl, by rw [hm]; rfl⟩
        · skip
          have hB1 : (!ab_far S f || decide (¬ ab_many S (ab_la S f) (ab_lb S f) = 0)) = true := by
            cases hz : (!ab_far S f || decide (¬ ab_many S (ab_la S f) (ab_lb S f) = 0))
            · rw [hz, ab_1f] at hw5; omega
            · rfl
          refine wk_aload_n C rfl dX6_maySend_98 ?_
          refine wk_getr C (k := 20) (ci := 6) (j := 30) (T := TX6) rfl (show 0 < (1:Nat) by decide) rfl in_c_X6_maySend_X6 (by decide) (by decide +kernel) rfl dX6_maySend_99 ?_
          refine wk_aload_n C rfl dX6_maySend_102 ?_
          refine wk_getr C (k := 20) (ci := 6) (j := 6) (T := TX6) rfl (show 0 < (1:Nat) by decide) rfl in_c_X6_maySend_X6 (by decide) (by decide +kernel) rfl dX6_maySend_103 ?_
          refine wk_iload_n C rfl dX6_maySend_106 ?_
          refine wk_iald C (k := 26) rfl (show 0 < (1:Nat) by decide) (Nat.le_of_ble_eq_true rfl) (f) (by omega) (show _ < (24:Nat) by omega) dX6_maySend_107 ?_
          rw [hcf1]
          refine wk_iald C (k := 50) rfl (show 0 < (1:Nat) by decide) (Nat.le_of_ble_eq_true rfl) ((S 1 f).toNat) (Int.toNat_of_nonneg (by omega)).symm (show _ < (16:Nat) by omega) dX6_maySend_108 ?_
          rw [hop1.1]
          refine wk_aload_n C rfl dX6_maySend_109 ?_
          refine wk_geti C (k := 20) (ci := 6) (j := 2) (T := TX6) rfl (show 0 < (1:Nat) by decide) rfl in_c_X6_maySend_X6 (by decide) (by decide +kernel) rfl dX6_maySend_110 ?_
          rw [hck.2]
          refine wk_icmp_ge C 120 (by omega) (by omega) (by decide) dX6_maySend_113 (fun hc113 => ?_) (fun hc113 => ?_)
          · skip
            have hm : ab_may S op f h = false := by rw [hme, decide_eq_false (show ¬ op (S 1 f).toNat < S 19 2 by omega), Bool.and_false]
            refine wk_iconst C dX6_maySend_120 ?_
            refine wk_zret C hr hlk (by omega) dX6_maySend_121 ?_
            exact ⟨rfl, by rw [hm]; rfl⟩
          · skip
            have hm : ab_may S op f h = true := by rw [hme, hA1, hB1, decide_eq_true (show op (S 1 f).toNat < S 19 2 by omega)]; rfl
            refine wk_iconst C dX6_maySend_116 ?_
            refine wk_goto C 121 (by decide) dX6_maySend_117 ?_
            refine wk_zret C hr hlk (by omega) dX6_maySend_121 ?_
            exact ⟨rfl, by rw [hm]; rfl⟩
    refine wk_aload_n C rfl dX6_maySend_51 ?_
    refine wk_iload_n C rfl dX6_maySend_52 ?_
    refine wk_ofI C (wk_runV (index := 162) (ci := 6) (st := []) C (c_X6_isFar l g hI _ f S b hv hS hf) (cwV 1 C.2.2.2.2.1 gX6_maySend_X6_isFar rfl rfl rfl (by decide +kernel) ⟨Nat.le_of_ble_eq_true rfl, Nat.le_of_ble_eq_true rfl⟩) rfl (show 0 < (1:Nat) by decide) rfl rfl rfl (Nat.le_of_ble_eq_true rfl) dX6_maySend_53 ⟨Nat.zero_le _, Nat.zero_le _⟩) (fun r53 σ53 hp53 => ?_)
    obtain ⟨hsg53, rfl⟩ := hp53
    rw [hsg53]
    have h1r := ab_1r (ab_far S f)
    refine wk_if_eq C 82 (by omega) (by decide) dX6_maySend_56 (fun hc56 => ?_) (fun hc56 => ?_)
    · skip
      have hw87 : (1 : Int) = ab_1 (!ab_far S f || decide (¬ ab_many S (ab_la S f) (ab_lb S f) = 0)) := by
        cases hz : ab_far S f
        · rfl
        · rw [hz, ab_1t] at hc56; omega
      refine wk_iconst C dX6_maySend_82 ?_
      refine wk_goto C 87 (by decide) dX6_maySend_83 ?_
      exact hj87 _ hw87
    · skip
      have hfar : ab_far S f = true := by
        cases hz : ab_far S f
        · rw [hz, ab_1f] at hc56; omega
        · rfl
      refine wk_aload_n C rfl dX6_maySend_59 ?_
      refine wk_aload_n C rfl dX6_maySend_60 ?_
      refine wk_getr C (k := 20) (ci := 6) (j := 5) (T := TX6) rfl (show 0 < (1:Nat) by decide) rfl in_c_X6_maySend_X6 (by decide) (by decide +kernel) rfl dX6_maySend_61 ?_
      refine wk_iload_n C rfl dX6_maySend_64 ?_
      refine wk_iald C (k := 25) rfl (show 0 < (1:Nat) by decide) (Nat.le_of_ble_eq_true rfl) (f) (by omega) (show _ < (24:Nat) by omega) dX6_maySend_65 ?_
      rw [hcf0]
      refine wk_iconst C dX6_maySend_66 ?_
      refine wk_idiv C (by omega) (by omega) dX6_maySend_67 ?_
      rw [← hla]
      refine wk_aload_n C rfl dX6_maySend_68 ?_
      refine wk_getr C (k := 20) (ci := 6) (j := 6) (T := TX6) rfl (show 0 < (1:Nat) by decide) rfl in_c_X6_maySend_X6 (by decide) (by decide +kernel) rfl dX6_maySend_69 ?_
      refine wk_iload_n C rfl dX6_maySend_72 ?_
      refine wk_iald C (k := 26) rfl (show 0 < (1:Nat) by decide) (Nat.le_of_ble_eq_true rfl) (f) (by omega) (show _ < (24:Nat) by omega) dX6_maySend_73 ?_
      rw [hcf1]
      refine wk_iconst C dX6_maySend_74 ?_
      refine wk_idiv C (by omega) (by omega) dX6_maySend_75 ?_
      rw [← hlb]
      refine wk_ofI C (wk_runV (index := 171) (ci := 6) (st := []) C (c_X6_usableSet l g hI _ (ab_la S f) (ab_lb S f) (by omega) (by omega) S b hv hS) (cwV 2 C.2.2.2.2.1 gX6_maySend_X6_usableSet rfl rfl rfl (by decide +kernel) ⟨Nat.le_of_ble_eq_true rfl, Nat.le_of_ble_eq_true rfl⟩) rfl (show 0 < (1:Nat) by decide) rfl rfl rfl (Nat.le_of_ble_eq_true rfl) dX6_maySend_76 ⟨Nat.zero_le _, Nat.zero_le _⟩) (fun r76 σ76 hp76 => ?_)
      obtain ⟨hsg76, rfl⟩ := hp76
      rw [hsg76]
      have hur := ab_um_rng S (ab_la S f) (ab_lb S f)
      have hu0 := ab_um0 S (ab_la S f) (ab_lb S f)
      refine wk_if_eq C 86 (by omega) (by decide) dX6_maySend_79 (fun hc79 => ?_) (fun hc79 => ?_)
      · skip
        have hw87 : (0 : Int) = ab_1 (!ab_far S f || decide (¬ ab_many S (ab_la S f) (ab_lb S f) = 0)) := by rw [hfar, decide_eq_false (fun z => z (hu0.mp hc79))]; rfl
        refine wk_iconst C dX6_maySend_86 ?_
        exact hj87 _ hw87
      · skip
        have hw87 : (1 : Int) = ab_1 (!ab_far S f || decide (¬ ab_many S (ab_la S f) (ab_lb S f) = 0)) := by rw [decide_eq_true (show ¬ ab_many S (ab_la S f) (ab_lb S f) = 0 from fun z => hc79 (hu0.mpr z)), Bool.or_true]; rfl
        refine wk_iconst C dX6_maySend_82 ?_
        refine wk_goto C 87 (by decide) dX6_maySend_83 ?_
        exact hj87 _ hw87
  refine wk_aload_n C rfl dX6_maySend_0 ?_
  refine wk_getr C (k := 20) (ci := 6) (j := 5) (T := TX6) rfl (show 0 < (1:Nat) by decide) rfl in_c_X6_maySend_X6 (by decide) (by decide +kernel) rfl dX6_maySend_1 ?_
  refine wk_iload_n C rfl dX6_maySend_4 ?_
  refine wk_iald C (k := 25) rfl (show 0 < (1:Nat) by decide) (Nat.le_of_ble_eq_true rfl) (f) (by omega) (show _ < (24:Nat) by omega) dX6_maySend_5 ?_
  rw [hcf0]
  refine wk_iload_n C rfl dX6_maySend_6 ?_
  refine wk_icmp_ne C 49 (by omega) (by omega) (by decide) dX6_maySend_7 (fun hc7 => ?_) (fun hc7 => ?_)
  · skip
    have hv50 : (0 : Int) = ab_1 (decide (S 0 f = ((h : Nat) : Int)) && decide (S 3 f ≤ S 19 3) && decide (S 4 f - S 6 f < S 2 f)) := by rw [decide_eq_false hc7]; rfl
    refine wk_iconst C dX6_maySend_49 ?_
    exact hj50 _ hv50
  · skip
    refine wk_aload_n C rfl dX6_maySend_10 ?_
    refine wk_getr C (k := 20) (ci := 6) (j := 8) (T := TX6) rfl (show 0 < (1:Nat) by decide) rfl in_c_X6_maySend_X6 (by decide) (by decide +kernel) rfl dX6_maySend_11 ?_
    refine wk_iload_n C rfl dX6_maySend_14 ?_
    refine wk_iald C (k := 28) rfl (show 0 < (1:Nat) by decide) (Nat.le_of_ble_eq_true rfl) (f) (by omega) (show _ < (24:Nat) by omega) dX6_maySend_15 ?_
    rw [hfl.1]
    refine wk_aload_n C rfl dX6_maySend_16 ?_
    refine wk_geti C (k := 20) (ci := 6) (j := 3) (T := TX6) rfl (show 0 < (1:Nat) by decide) rfl in_c_X6_maySend_X6 (by decide) (by decide +kernel) rfl dX6_maySend_17 ?_
    rw [hck.1]
    refine wk_icmp_gt C 49 (by omega) (by omega) (by decide) dX6_maySend_20 (fun hc20 => ?_) (fun hc20 => ?_)
    · skip
      have hv50 : (0 : Int) = ab_1 (decide (S 0 f = ((h : Nat) : Int)) && decide (S 3 f ≤ S 19 3) && decide (S 4 f - S 6 f < S 2 f)) := by rw [decide_eq_false (show ¬ S 3 f ≤ S 19 3 by omega), Bool.and_false]; rfl
      refine wk_iconst C dX6_maySend_49 ?_
      exact hj50 _ hv50
    · skip
      refine wk_aload_n C rfl dX6_maySend_23 ?_
      refine wk_getr C (k := 20) (ci := 6) (j := 9) (T := TX6) rfl (show 0 < (1:Nat) by decide) rfl in_c_X6_maySend_X6 (by decide) (by decide +kernel) rfl dX6_maySend_24 ?_
      refine wk_iload_n C rfl dX6_maySend_27 ?_
      refine wk_iald C (k := 29) rfl (show 0 < (1:Nat) by decide) (Nat.le_of_ble_eq_true rfl) (f) (by omega) (show _ < (24:Nat) by omega) dX6_maySend_28 ?_
      rw [hfl.2.1]
      refine wk_aload_n C rfl dX6_maySend_29 ?_
      refine wk_getr C (k := 20) (ci := 6) (j := 11) (T := TX6) rfl (show 0 < (1:Nat) by decide) rfl in_c_X6_maySend_X6 (by decide) (by decide +kernel) rfl dX6_maySend_30 ?_
      refine wk_iload_n C rfl dX6_maySend_33 ?_
      refine wk_iald C (k := 31) rfl (show 0 < (1:Nat) by decide) (Nat.le_of_ble_eq_true rfl) (f) (by omega) (show _ < (24:Nat) by omega) dX6_maySend_34 ?_
      rw [hfl.2.2.1]
      refine wk_isub C dX6_maySend_35 ?_
      refine wk_aload_n C rfl dX6_maySend_36 ?_
      refine wk_getr C (k := 20) (ci := 6) (j := 7) (T := TX6) rfl (show 0 < (1:Nat) by decide) rfl in_c_X6_maySend_X6 (by decide) (by decide +kernel) rfl dX6_maySend_37 ?_
      refine wk_iload_n C rfl dX6_maySend_40 ?_
      refine wk_iald C (k := 27) rfl (show 0 < (1:Nat) by decide) (Nat.le_of_ble_eq_true rfl) (f) (by omega) (show _ < (24:Nat) by omega) dX6_maySend_41 ?_
      rw [hfl.2.2.2]
      refine wk_icmp_ge C 49 (by omega) (by omega) (by decide) dX6_maySend_42 (fun hc42 => ?_) (fun hc42 => ?_)
      · skip
        have hv50 : (0 : Int) = ab_1 (decide (S 0 f = ((h : Nat) : Int)) && decide (S 3 f ≤ S 19 3) && decide (S 4 f - S 6 f < S 2 f)) := by rw [decide_eq_false (show ¬ S 4 f - S 6 f < S 2 f by omega), Bool.and_false]; rfl
        refine wk_iconst C dX6_maySend_49 ?_
        exact hj50 _ hv50
      · skip
        have hv50 : (1 : Int) = ab_1 (decide (S 0 f = ((h : Nat) : Int)) && decide (S 3 f ≤ S 19 3) && decide (S 4 f - S 6 f < S 2 f)) := by rw [decide_eq_true (show S 0 f = ((h : Nat) : Int) by omega), decide_eq_true (show S 3 f ≤ S 19 3 by omega), decide_eq_true (show S 4 f - S 6 f < S 2 f by omega)]; rfl
        refine wk_iconst C dX6_maySend_45 ?_
        refine wk_goto C 50 (by decide) dX6_maySend_46 ?_
        exact hj50 _ hv50

theorem in_c_X6_hostsPick_X6 : ∀ w ∈ u_ws RX6 TX6 36, w ∈ wsX6_hostsPick := by decide +kernel
set_option maxRecDepth 100000 in
set_option maxHeartbeats 4000000 in
/-- hostsPick -/
theorem c_X6_hostsPick (l : Launch) (g : am_g) (hI : am_inj (gR g)) (σ : am_M) (S : ab_S) (b : Int) (hS : ab_I S b) (hR : ab_R (ab_HP S 0) σ) (hP : PKR S 64 σ) : Met l yX6_hostsPick wsX6_hostsPick ({ frames := 3, cells := 0, slots := 0, locals := 71 }) (am_P (gR g) σ [.inr (20, 0)]) (am_QV (gR g) (fun σ' => ab_R (ab_HP S 16) σ' ∧ PKR S 64 σ' ∧ SNR S 16 σ')) 0 0 (am_FA (gR g)) := by
  refine wk_start (cc := cX6_hostsPick) (nL := 4) (ret := none) (own := RX6) (by decide) rfl hI rfl (Nat.le_of_ble_eq_true rfl) ?_
  intro p e s m below meth c C hr hlk
  change wk _ p l e _ s m _ below meth c 0 0 _ _ _ _ 0 [some (.inr (20, 0)), none, none, none] [] σ
  have hc19 := hS.2.1
  have hb1 := hS.1
  obtain ⟨n, hn⟩ : ∃ n : Nat, n = (S 19 4).toNat := ⟨_, rfl⟩
  have hn2 : S 19 4 = ((n : Nat) : Int) := by omega
  refine wk_iconst C dX6_hostsPick_0 ?_
  refine wk_istore_n C (by decide) (Nat.le_of_ble_eq_true rfl) dX6_hostsPick_1 ?_
  have hl2 : ∀ (d h : Nat) (σ1 : am_M), 17 ≤ h + d → h ≤ 16 → ab_R (ab_HP S h) σ1 ∧ PKR S 64 σ1 ∧ SNR S h σ1 → wk (gR g) p l e (headSpec wsX6_hostsPick ({ frames := 3, cells := 0, slots := 0, locals := 71 })).room s m ([.inr (20, 0)].map (am_tv (gR g))).toArray below meth c 0 0 (MQ below (am_QV (gR g) (fun σ' => ab_R (ab_HP S 16) σ' ∧ PKR S 64 σ' ∧ SNR S 16 σ')) ([.inr (20, 0)].map (am_tv (gR g))).toArray s 0 0 (am_FA (gR g))) (am_FA (gR g)) s.heap 4 2 [some (.inr (20, 0)), some (.inl ((h : Nat) : Int)), none, none] [] σ1 := by
    intro d
    induction d with
    | zero => intro h σ1 h1 h2 h3; omega
    | succ d ih =>
      intro h σ1 h1 h2 h3
      refine wk_iload_n C rfl dX6_hostsPick_2 ?_
      refine wk_bipush C (n := 16) (by decide) dX6_hostsPick_3 ?_
      refine wk_icmp_ge C 152 (by omega) (by omega) (by decide) dX6_hostsPick_5 (fun hc5 => ?_) (fun hc5 => ?_)
      · skip
        refine wk_vret C hr hlk dX6_hostsPick_152 ?_
        have h4 : h = 16 := by omega
        subst h4
        exact h3
      · skip
        have hh : h < 16 := by omega
        have hp := HP_h (S := S) hh
        have hl17 := (hS.2.2.2.2.2.1 h hh).2
        have hs4 := hS.s4 (L := h) (by omega)
        have h38 := (h3.1.2.2.2.1 h (by omega)).2.1
        rw [hp.1] at h38
        have h48 := (h3.1.2.2.1 h hh).2
        rw [hp.2.1] at h48
        have hopr : ∀ t : Nat, t < 16 → σ1 50 0 t = ab_op S h t ∧ -200000000 ≤ ab_op S h t ∧ ab_op S h t ≤ 200000000 := fun t ht => by
          have z1 := ab_op_rng S t h
          have z2 := (hS.2.2.2.2.2.1 t ht).1
          exact ⟨by rw [(h3.1.2.2.1 t ht).1, hp.2.2], by omega, by omega⟩
        have hck4 : σ1 20 0 4 = S 19 4 := by rw [h3.1.1.1, HP_o (by omega)]
        have hck3 : σ1 20 0 3 = S 19 3 := by rw [h3.1.1.2.1, HP_o (by omega)]
        have hck2 : σ1 20 0 2 = S 19 2 := by rw [h3.1.1.2.2.2.2.1, HP_o (by omega)]
        have hfl : ∀ (f j : Nat), (f : Int) < S 19 4 → j < 13 → σ1 (25 + j) 0 f = S j f := fun f j hf hj => by rw [h3.1.2.1 f j (by rw [HP_o (by omega)]; exact hf) hj, HP_o (by omega)]
        have hu49 : ∀ (v : Int) (k j : Nat), ¬ k = 49 → am_up σ1 49 0 h v k 0 j = σ1 k 0 j := fun v k j z => by rw [am_up_app, if_neg (by omega)]
        refine wk_aload_n C rfl dX6_hostsPick_8 ?_
        refine wk_getr C (k := 20) (ci := 6) (j := 29) (T := TX6) rfl (show 0 < (1:Nat) by decide) rfl in_c_X6_hostsPick_X6 (by decide) (by decide +kernel) rfl dX6_hostsPick_9 ?_
        refine wk_iload_n C rfl dX6_hostsPick_12 ?_
        refine wk_iconst C dX6_hostsPick_13 ?_
        refine wk_iast C (k := 49) rfl (show 0 < (1:Nat) by decide) (Nat.le_of_ble_eq_true rfl) (h) (by omega) (show _ < (16:Nat) by omega) dX6_hostsPick_14 ?_
        rw [← sdn_n S h hn]
        refine wk_aload_n C rfl dX6_hostsPick_15 ?_
        refine wk_geti C (k := 20) (ci := 6) (j := 4) (T := TX6) rfl (show 0 < (1:Nat) by decide) rfl in_c_X6_hostsPick_X6 (by decide) (by decide +kernel) rfl dX6_hostsPick_16 ?_
        rw [hu49 _ _ _ (by omega), hck4, hn2]
        refine wk_istore_n C (by decide) (Nat.le_of_ble_eq_true rfl) dX6_hostsPick_19 ?_
        have hl20 : ∀ (d2 k : Nat), k < d2 → k ≤ n → (0 < S 13 h ∨ ab_sdn S h k = -1) → wk (gR g) p l e (headSpec wsX6_hostsPick ({ frames := 3, cells := 0, slots := 0, locals := 71 })).room s m ([.inr (20, 0)].map (am_tv (gR g))).toArray below meth c 0 0 (MQ below (am_QV (gR g) (fun σ' => ab_R (ab_HP S 16) σ' ∧ PKR S 64 σ' ∧ SNR S 16 σ')) ([.inr (20, 0)].map (am_tv (gR g))).toArray s 0 0 (am_FA (gR g))) (am_FA (gR g)) s.heap 4 20 [some (.inr (20, 0)), some (.inl ((h : Nat) : Int)), some (.inl ((k : Nat) : Int)), none] [] (am_up σ1 49 0 h (ab_sdn S h k)) := by
          intro d2
          induction d2 with
          | zero => intro k g1 g2 g3; omega
          | succ d2 ih2 =>
            intro k g1 g2 g3
            have hsr := sdn_rng hS h k
            refine wk_iload_n C rfl dX6_hostsPick_20 ?_
            refine wk_if_le C 94 (by omega) (by decide) dX6_hostsPick_21 (fun hc21 => ?_) (fun hc21 => ?_)
            · skip
              have hk0 : k = 0 := by omega
              subst hk0
              have hFk : ab_sdn S h 0 = ab_F S h := by
                rw [sdn_F]
                split
                · rfl
                · omega
              rw [hFk]
              have hFr := F_rng hS (k := h)
              have h49 : am_up σ1 49 0 h (ab_F S h) 49 0 h = ab_F S h := by rw [am_up_app, if_pos ⟨rfl, rfl, rfl⟩]
              have hRt : ab_R (ab_HP S h) (am_up σ1 49 0 h (ab_F S h)) := R_tmp h3.1 (fun k i j q => by unfold rk_t at q; rw [am_up_app, if_neg (by omega)])
              have hSN : SNR S (h + 1) (am_up σ1 49 0 h (ab_F S h)) := fun i hi => by
                rw [am_up_app]
                by_cases e : i = h
                · rw [if_pos ⟨rfl, rfl, e⟩, e]
                · rw [if_neg (by omega)]; exact h3.2.2 i (by omega)
              refine wk_aload_n C rfl dX6_hostsPick_94 ?_
              refine wk_getr C (k := 20) (ci := 6) (j := 29) (T := TX6) rfl (show 0 < (1:Nat) by decide) rfl in_c_X6_hostsPick_X6 (by decide) (by decide +kernel) rfl dX6_hostsPick_95 ?_
              refine wk_iload_n C rfl dX6_hostsPick_98 ?_
              refine wk_iald C (k := 49) rfl (show 0 < (1:Nat) by decide) (Nat.le_of_ble_eq_true rfl) (h) (by omega) (show _ < (16:Nat) by omega) dX6_hostsPick_99 ?_
              rw [h49]
              refine wk_iconst C dX6_hostsPick_100 ?_
              refine wk_icmp_eq C 146 (by omega) (by omega) (by decide) dX6_hostsPick_101 (fun hc101 => ?_) (fun hc101 => ?_)
              · skip
                have hfin : ab_R (ab_HP S (h + 1)) (am_up σ1 49 0 h (ab_F S h)) ∧ PKR S 64 (am_up σ1 49 0 h (ab_F S h)) ∧ SNR S (h + 1) (am_up σ1 49 0 h (ab_F S h)) := ⟨by rw [HP_same hc101]; exact hRt, fun i z1 z2 => by rw [am_up_app, if_neg (by omega)]; exact h3.2.1 i z1 z2, hSN⟩
                refine wk_iinc C rfl (by decide) dX6_hostsPick_146 ?_
                refine wk_goto C 2 (by decide) dX6_hostsPick_149 ?_
                refine wk_le ?_ (ih (h + 1) _ (by omega) (by omega) hfin)
                repeat (first | exact le_0 | refine le_s ?_ | refine le_n ?_)
              · skip
                obtain ⟨f, hF⟩ : ∃ f : Nat, ab_F S h = (f : Int) := ⟨(ab_F S h).toNat, by omega⟩
                have hFf := F_fact hS (k := h) hc101
                rw [hF] at hFf
                have hif := hS.2.2.1 f (by omega)
                have i1 := hif.2.1
                rw [hF] at h49 hRt hSN ⊢
                refine wk_aload_n C rfl dX6_hostsPick_104 ?_
                refine wk_getr C (k := 20) (ci := 6) (j := 28) (T := TX6) rfl (show 0 < (1:Nat) by decide) rfl in_c_X6_hostsPick_X6 (by decide) (by decide +kernel) rfl dX6_hostsPick_105 ?_
                refine wk_iload_n C rfl dX6_hostsPick_108 ?_
                refine wk_aload_n C rfl dX6_hostsPick_109 ?_
                refine wk_getr C (k := 20) (ci := 6) (j := 29) (T := TX6) rfl (show 0 < (1:Nat) by decide) rfl in_c_X6_hostsPick_X6 (by decide) (by decide +kernel) rfl dX6_hostsPick_110 ?_
                refine wk_iload_n C rfl dX6_hostsPick_113 ?_
                refine wk_iald C (k := 49) rfl (show 0 < (1:Nat) by decide) (Nat.le_of_ble_eq_true rfl) (h) (by omega) (show _ < (16:Nat) by omega) dX6_hostsPick_114 ?_
                rw [h49]
                refine wk_iast C (k := 48) rfl (show 0 < (1:Nat) by decide) (Nat.le_of_ble_eq_true rfl) (h) (by omega) (show _ < (16:Nat) by omega) dX6_hostsPick_115 ?_
                refine wk_aload_n C rfl dX6_hostsPick_116 ?_
                refine wk_getr C (k := 20) (ci := 6) (j := 18) (T := TX6) rfl (show 0 < (1:Nat) by decide) rfl in_c_X6_hostsPick_X6 (by decide) (by decide +kernel) rfl dX6_hostsPick_117 ?_
                refine wk_iload_n C rfl dX6_hostsPick_120 ?_
                refine wk_dup2 C dX6_hostsPick_121 ?_
                refine wk_iald C (k := 38) rfl (show 0 < (1:Nat) by decide) (Nat.le_of_ble_eq_true rfl) (h) (by omega) (show _ < (64:Nat) by omega) dX6_hostsPick_122 ?_
                rw [am_up_app, if_neg (by omega), hu49 _ _ _ (by omega), h38]
                refine wk_iconst C dX6_hostsPick_123 ?_
                refine wk_isub C dX6_hostsPick_124 ?_
                refine wk_iast C (k := 38) rfl (show 0 < (1:Nat) by decide) (Nat.le_of_ble_eq_true rfl) (h) (by omega) (show _ < (64:Nat) by omega) dX6_hostsPick_125 ?_
                refine wk_aload_n C rfl dX6_hostsPick_126 ?_
                refine wk_getr C (k := 20) (ci := 6) (j := 30) (T := TX6) rfl (show 0 < (1:Nat) by decide) rfl in_c_X6_hostsPick_X6 (by decide) (by decide +kernel) rfl dX6_hostsPick_127 ?_
                refine wk_aload_n C rfl dX6_hostsPick_130 ?_
                refine wk_getr C (k := 20) (ci := 6) (j := 6) (T := TX6) rfl (show 0 < (1:Nat) by decide) rfl in_c_X6_hostsPick_X6 (by decide) (by decide +kernel) rfl dX6_hostsPick_131 ?_
                refine wk_aload_n C rfl dX6_hostsPick_134 ?_
                refine wk_getr C (k := 20) (ci := 6) (j := 29) (T := TX6) rfl (show 0 < (1:Nat) by decide) rfl in_c_X6_hostsPick_X6 (by decide) (by decide +kernel) rfl dX6_hostsPick_135 ?_
                refine wk_iload_n C rfl dX6_hostsPick_138 ?_
                refine wk_iald C (k := 49) rfl (show 0 < (1:Nat) by decide) (Nat.le_of_ble_eq_true rfl) (h) (by omega) (show _ < (16:Nat) by omega) dX6_hostsPick_139 ?_
                rw [am_up_app, if_neg (by omega), am_up_app, if_neg (by omega), h49]
                refine wk_iald C (k := 26) rfl (show 0 < (1:Nat) by decide) (Nat.le_of_ble_eq_true rfl) (f) (by omega) (show _ < (24:Nat) by omega) dX6_hostsPick_140 ?_
                rw [am_up_app, if_neg (by omega), am_up_app, if_neg (by omega), hu49 _ _ _ (by omega), show σ1 26 0 f = S 1 f from hfl f 1 (by omega) (by omega)]
                refine wk_dup2 C dX6_hostsPick_141 ?_
                refine wk_iald C (k := 50) rfl (show 0 < (1:Nat) by decide) (Nat.le_of_ble_eq_true rfl) ((S 1 f).toNat) (Int.toNat_of_nonneg (by omega)).symm (show _ < (16:Nat) by omega) dX6_hostsPick_142 ?_
                rw [am_up_app, if_neg (by omega), am_up_app, if_neg (by omega), hu49 _ _ _ (by omega), (hopr (S 1 f).toNat (by omega)).1]
                refine wk_iconst C dX6_hostsPick_143 ?_
                refine wk_iadd C dX6_hostsPick_144 ?_
                refine wk_iast C (k := 50) rfl (show 0 < (1:Nat) by decide) (Nat.le_of_ble_eq_true rfl) ((S 1 f).toNat) (Int.toNat_of_nonneg (by omega)).symm (show _ < (16:Nat) by omega) dX6_hostsPick_145 ?_
                have hfin : ab_R (ab_HP S (h + 1)) (am_up (am_up (am_up (am_up σ1 49 0 h (f : Int)) 48 0 h (f : Int)) 38 0 h (S 13 h - 1)) 50 0 (S 1 f).toNat (ab_op S h (S 1 f).toNat + 1)) ∧ PKR S 64 (am_up (am_up (am_up (am_up σ1 49 0 h (f : Int)) 48 0 h (f : Int)) 38 0 h (S 13 h - 1)) 50 0 (S 1 f).toNat (ab_op S h (S 1 f).toNat + 1)) ∧ SNR S (h + 1) (am_up (am_up (am_up (am_up σ1 49 0 h (f : Int)) 48 0 h (f : Int)) 38 0 h (S 13 h - 1)) 50 0 (S 1 f).toNat (ab_op S h (S 1 f).toNat + 1)) := by
                  refine ⟨HP_next hh hF hRt, fun i z1 z2 => ?_, fun i hi => ?_⟩
                  · rw [am_up_app, if_neg (by omega), am_up_app, if_neg (by omega), am_up_app, if_neg (by omega), am_up_app, if_neg (by omega)]; exact h3.2.1 i z1 z2
                  · rw [am_up_app, if_neg (by omega), am_up_app, if_neg (by omega), am_up_app, if_neg (by omega)]; exact hSN i hi
                refine wk_iinc C rfl (by decide) dX6_hostsPick_146 ?_
                refine wk_goto C 2 (by decide) dX6_hostsPick_149 ?_
                refine wk_le ?_ (ih (h + 1) _ (by omega) (by omega) hfin)
                repeat (first | exact le_0 | refine le_s ?_ | refine le_n ?_)
            · skip
              obtain ⟨j, rfl⟩ : ∃ j, k = j + 1 := ⟨k - 1, by omega⟩
              refine wk_aload_n C rfl dX6_hostsPick_24 ?_
              refine wk_getr C (k := 20) (ci := 6) (j := 18) (T := TX6) rfl (show 0 < (1:Nat) by decide) rfl in_c_X6_hostsPick_X6 (by decide) (by decide +kernel) rfl dX6_hostsPick_25 ?_
              refine wk_iload_n C rfl dX6_hostsPick_28 ?_
              refine wk_iald C (k := 38) rfl (show 0 < (1:Nat) by decide) (Nat.le_of_ble_eq_true rfl) (h) (by omega) (show _ < (64:Nat) by omega) dX6_hostsPick_29 ?_
              rw [hu49 _ _ _ (by omega), h38]
              refine wk_if_le C 94 (by omega) (by decide) dX6_hostsPick_30 (fun hc30 => ?_) (fun hc30 => ?_)
              · skip
                have hFk : ab_sdn S h (j + 1) = ab_F S h := by rw [sdn_F, if_neg (by omega)]; omega
                rw [hFk]
                have hFr := F_rng hS (k := h)
                have h49 : am_up σ1 49 0 h (ab_F S h) 49 0 h = ab_F S h := by rw [am_up_app, if_pos ⟨rfl, rfl, rfl⟩]
                have hRt : ab_R (ab_HP S h) (am_up σ1 49 0 h (ab_F S h)) := R_tmp h3.1 (fun k i j q => by unfold rk_t at q; rw [am_up_app, if_neg (by omega)])
                have hSN : SNR S (h + 1) (am_up σ1 49 0 h (ab_F S h)) := fun i hi => by
                  rw [am_up_app]
                  by_cases e : i = h
                  · rw [if_pos ⟨rfl, rfl, e⟩, e]
                  · rw [if_neg (by omega)]; exact h3.2.2 i (by omega)
                refine wk_aload_n C rfl dX6_hostsPick_94 ?_
                refine wk_getr C (k := 20) (ci := 6) (j := 29) (T := TX6) rfl (show 0 < (1:Nat) by decide) rfl in_c_X6_hostsPick_X6 (by decide) (by decide +kernel) rfl dX6_hostsPick_95 ?_
                refine wk_iload_n C rfl dX6_hostsPick_98 ?_
                refine wk_iald C (k := 49) rfl (show 0 < (1:Nat) by decide) (Nat.le_of_ble_eq_true rfl) (h) (by omega) (show _ < (16:Nat) by omega) dX6_hostsPick_99 ?_
                rw [h49]
                refine wk_iconst C dX6_hostsPick_100 ?_
                refine wk_icmp_eq C 146 (by omega) (by omega) (by decide) dX6_hostsPick_101 (fun hc101 => ?_) (fun hc101 => ?_)
                · skip
                  have hfin : ab_R (ab_HP S (h + 1)) (am_up σ1 49 0 h (ab_F S h)) ∧ PKR S 64 (am_up σ1 49 0 h (ab_F S h)) ∧ SNR S (h + 1) (am_up σ1 49 0 h (ab_F S h)) := ⟨by rw [HP_same hc101]; exact hRt, fun i z1 z2 => by rw [am_up_app, if_neg (by omega)]; exact h3.2.1 i z1 z2, hSN⟩
                  refine wk_iinc C rfl (by decide) dX6_hostsPick_146 ?_
                  refine wk_goto C 2 (by decide) dX6_hostsPick_149 ?_
                  refine wk_le ?_ (ih (h + 1) _ (by omega) (by omega) hfin)
                  repeat (first | exact le_0 | refine le_s ?_ | refine le_n ?_)
                · skip
                  obtain ⟨f, hF⟩ : ∃ f : Nat, ab_F S h = (f : Int) := ⟨(ab_F S h).toNat, by omega⟩
                  have hFf := F_fact hS (k := h) hc101
                  rw [hF] at hFf
                  have hif := hS.2.2.1 f (by omega)
                  have i1 := hif.2.1
                  rw [hF] at h49 hRt hSN ⊢
                  refine wk_aload_n C rfl dX6_hostsPick_104 ?_
                  refine wk_getr C (k := 20) (ci := 6) (j := 28) (T := TX6) rfl (show 0 < (1:Nat) by decide) rfl in_c_X6_hostsPick_X6 (by decide) (by decide +kernel) rfl dX6_hostsPick_105 ?_
                  refine wk_iload_n C rfl dX6_hostsPick_108 ?_
                  refine wk_aload_n C rfl dX6_hostsPick_109 ?_
                  refine wk_getr C (k := 20) (ci := 6) (j := 29) (T := TX6) rfl (show 0 < (1:Nat) by decide) rfl in_c_X6_hostsPick_X6 (by decide) (by decide +kernel) rfl dX6_hostsPick_110 ?_
                  refine wk_iload_n C rfl dX6_hostsPick_113 ?_
                  refine wk_iald C (k := 49) rfl (show 0 < (1:Nat) by decide) (Nat.le_of_ble_eq_true rfl) (h) (by omega) (show _ < (16:Nat) by omega) dX6_hostsPick_114 ?_
                  rw [h49]
                  refine wk_iast C (k := 48) rfl (show 0 < (1:Nat) by decide) (Nat.le_of_ble_eq_true rfl) (h) (by omega) (show _ < (16:Nat) by omega) dX6_hostsPick_115 ?_
                  refine wk_aload_n C rfl dX6_hostsPick_116 ?_
                  refine wk_getr C (k := 20) (ci := 6) (j := 18) (T := TX6) rfl (show 0 < (1:Nat) by decide) rfl in_c_X6_hostsPick_X6 (by decide) (by decide +kernel) rfl dX6_hostsPick_117 ?_
                  refine wk_iload_n C rfl dX6_hostsPick_120 ?_
                  refine wk_dup2 C dX6_hostsPick_121 ?_
                  refine wk_iald C (k := 38) rfl (show 0 < (1:Nat) by decide) (Nat.le_of_ble_eq_true rfl) (h) (by omega) (show _ < (64:Nat) by omega) dX6_hostsPick_122 ?_
                  rw [am_up_app, if_neg (by omega), hu49 _ _ _ (by omega), h38]
                  refine wk_iconst C dX6_hostsPick_123 ?_
                  refine wk_isub C dX6_hostsPick_124 ?_
                  refine wk_iast C (k := 38) rfl (show 0 < (1:Nat) by decide) (Nat.le_of_ble_eq_true rfl) (h) (by omega) (show _ < (64:Nat) by omega) dX6_hostsPick_125 ?_
                  refine wk_aload_n C rfl dX6_hostsPick_126 ?_
                  refine wk_getr C (k := 20) (ci := 6) (j := 30) (T := TX6) rfl (show 0 < (1:Nat) by decide) rfl in_c_X6_hostsPick_X6 (by decide) (by decide +kernel) rfl dX6_hostsPick_127 ?_
                  refine wk_aload_n C rfl dX6_hostsPick_130 ?_
                  refine wk_getr C (k := 20) (ci := 6) (j := 6) (T := TX6) rfl (show 0 < (1:Nat) by decide) rfl in_c_X6_hostsPick_X6 (by decide) (by decide +kernel) rfl dX6_hostsPick_131 ?_
                  refine wk_aload_n C rfl dX6_hostsPick_134 ?_
                  refine wk_getr C (k := 20) (ci := 6) (j := 29) (T := TX6) rfl (show 0 < (1:Nat) by decide) rfl in_c_X6_hostsPick_X6 (by decide) (by decide +kernel) rfl dX6_hostsPick_135 ?_
                  refine wk_iload_n C rfl dX6_hostsPick_138 ?_
                  refine wk_iald C (k := 49) rfl (show 0 < (1:Nat) by decide) (Nat.le_of_ble_eq_true rfl) (h) (by omega) (show _ < (16:Nat) by omega) dX6_hostsPick_139 ?_
                  rw [am_up_app, if_neg (by omega), am_up_app, if_neg (by omega), h49]
                  refine wk_iald C (k := 26) rfl (show 0 < (1:Nat) by decide) (Nat.le_of_ble_eq_true rfl) (f) (by omega) (show _ < (24:Nat) by omega) dX6_hostsPick_140 ?_
                  rw [am_up_app, if_neg (by omega), am_up_app, if_neg (by omega), hu49 _ _ _ (by omega), show σ1 26 0 f = S 1 f from hfl f 1 (by omega) (by omega)]
                  refine wk_dup2 C dX6_hostsPick_141 ?_
                  refine wk_iald C (k := 50) rfl (show 0 < (1:Nat) by decide) (Nat.le_of_ble_eq_true rfl) ((S 1 f).toNat) (Int.toNat_of_nonneg (by omega)).symm (show _ < (16:Nat) by omega) dX6_hostsPick_142 ?_
                  rw [am_up_app, if_neg (by omega), am_up_app, if_neg (by omega), hu49 _ _ _ (by omega), (hopr (S 1 f).toNat (by omega)).1]
                  refine wk_iconst C dX6_hostsPick_143 ?_
                  refine wk_iadd C dX6_hostsPick_144 ?_
                  refine wk_iast C (k := 50) rfl (show 0 < (1:Nat) by decide) (Nat.le_of_ble_eq_true rfl) ((S 1 f).toNat) (Int.toNat_of_nonneg (by omega)).symm (show _ < (16:Nat) by omega) dX6_hostsPick_145 ?_
                  have hfin : ab_R (ab_HP S (h + 1)) (am_up (am_up (am_up (am_up σ1 49 0 h (f : Int)) 48 0 h (f : Int)) 38 0 h (S 13 h - 1)) 50 0 (S 1 f).toNat (ab_op S h (S 1 f).toNat + 1)) ∧ PKR S 64 (am_up (am_up (am_up (am_up σ1 49 0 h (f : Int)) 48 0 h (f : Int)) 38 0 h (S 13 h - 1)) 50 0 (S 1 f).toNat (ab_op S h (S 1 f).toNat + 1)) ∧ SNR S (h + 1) (am_up (am_up (am_up (am_up σ1 49 0 h (f : Int)) 48 0 h (f : Int)) 38 0 h (S 13 h - 1)) 50 0 (S 1 f).toNat (ab_op S h (S 1 f).toNat + 1)) := by
                    refine ⟨HP_next hh hF hRt, fun i z1 z2 => ?_, fun i hi => ?_⟩
                    · rw [am_up_app, if_neg (by omega), am_up_app, if_neg (by omega), am_up_app, if_neg (by omega), am_up_app, if_neg (by omega)]; exact h3.2.1 i z1 z2
                    · rw [am_up_app, if_neg (by omega), am_up_app, if_neg (by omega), am_up_app, if_neg (by omega)]; exact hSN i hi
                  refine wk_iinc C rfl (by decide) dX6_hostsPick_146 ?_
                  refine wk_goto C 2 (by decide) dX6_hostsPick_149 ?_
                  refine wk_le ?_ (ih (h + 1) _ (by omega) (by omega) hfin)
                  repeat (first | exact le_0 | refine le_s ?_ | refine le_n ?_)
              · skip
                have hst := sdn_step S (h := h) (k := j) (by omega)
                have hm1 := Int.emod_nonneg (S 17 h + ((j + 1 : Nat) : Int)) (b := S 19 4) (by omega)
                have hm2 := Int.emod_lt_of_pos (S 17 h + ((j + 1 : Nat) : Int)) (b := S 19 4) (by omega)
                obtain ⟨f, hff⟩ : ∃ f : Nat, f = ((S 17 h + ((j + 1 : Nat) : Int)) % S 19 4).toNat := ⟨_, rfl⟩
                have hfi : (S 17 h + ((j + 1 : Nat) : Int)) % S 19 4 = ((f : Nat) : Int) := by omega
                rw [← hff, hfi] at hst
                have hj62 : ∀ pl : Int, pl = ((f : Nat) : Int) → wk (gR g) p l e (headSpec wsX6_hostsPick ({ frames := 3, cells := 0, slots := 0, locals := 71 })).room s m ([.inr (20, 0)].map (am_tv (gR g))).toArray below meth c 0 0 (MQ below (am_QV (gR g) (fun σ' => ab_R (ab_HP S 16) σ' ∧ PKR S 64 σ' ∧ SNR S 16 σ')) ([.inr (20, 0)].map (am_tv (gR g))).toArray s 0 0 (am_FA (gR g))) (am_FA (gR g)) s.heap 4 62 [some (.inr (20, 0)), some (.inl ((h : Nat) : Int)), some (.inl (((j + 1) : Nat) : Int)), none] [.inl (pl)] (am_up σ1 49 0 h (ab_sdn S h (j + 1))) := by
                  intro pl hpl
                  subst hpl
                  refine wk_istore_n C (by decide) (Nat.le_of_ble_eq_true rfl) dX6_hostsPick_62 ?_
                  have hj87 : ∀ v : Int, v = ab_sdn S h j → wk (gR g) p l e (headSpec wsX6_hostsPick ({ frames := 3, cells := 0, slots := 0, locals := 71 })).room s m ([.inr (20, 0)].map (am_tv (gR g))).toArray below meth c 0 0 (MQ below (am_QV (gR g) (fun σ' => ab_R (ab_HP S 16) σ' ∧ PKR S 64 σ' ∧ SNR S 16 σ')) ([.inr (20, 0)].map (am_tv (gR g))).toArray s 0 0 (am_FA (gR g))) (am_FA (gR g)) s.heap 4 87 [some (.inr (20, 0)), some (.inl ((h : Nat) : Int)), some (.inl (((j + 1) : Nat) : Int)), some (.inl ((f : Nat) : Int))] [.inl (v), .inl ((h : Nat) : Int), .inr (49, 0)] (am_up σ1 49 0 h (ab_sdn S h (j + 1))) := by
                    intro v hv
                    subst hv
                    refine wk_iast C (k := 49) rfl (show 0 < (1:Nat) by decide) (Nat.le_of_ble_eq_true rfl) (h) (by omega) (show _ < (16:Nat) by omega) dX6_hostsPick_87 ?_
                    refine wk_iinc C rfl (by decide) dX6_hostsPick_88 ?_
                    refine wk_goto C 20 (by decide) dX6_hostsPick_91 ?_
                    rw [show ((j + 1 : Nat) : Int) + -1 = ((j : Nat) : Int) by omega, am_up_up]
                    refine wk_le ?_ (ih2 j (by omega) (by omega) (Or.inl hc30))
                    repeat (first | exact le_0 | refine le_s ?_ | refine le_n ?_)
                  refine wk_aload_n C rfl dX6_hostsPick_63 ?_
                  refine wk_getr C (k := 20) (ci := 6) (j := 29) (T := TX6) rfl (show 0 < (1:Nat) by decide) rfl in_c_X6_hostsPick_X6 (by decide) (by decide +kernel) rfl dX6_hostsPick_64 ?_
                  refine wk_iload_n C rfl dX6_hostsPick_67 ?_
                  refine wk_aload_n C rfl dX6_hostsPick_68 ?_
                  refine wk_iload_n C rfl dX6_hostsPick_69 ?_
                  refine wk_iload_n C rfl dX6_hostsPick_70 ?_
                  refine wk_ofI C (wk_runV (index := 174) (ci := 6) (st := [_, _]) C (c_X6_maySend l g hI _ f h hh (ab_op S h) S b (Rv_up (by omega) (Rv_Z h3.1)) hS (by omega) ⟨by rw [hu49 _ _ _ (by omega)]; exact hfl f 3 (by omega) (by omega), by rw [hu49 _ _ _ (by omega)]; exact hfl f 4 (by omega) (by omega), by rw [hu49 _ _ _ (by omega)]; exact hfl f 6 (by omega) (by omega), by rw [hu49 _ _ _ (by omega)]; exact hfl f 2 (by omega) (by omega)⟩ ⟨by rw [hu49 _ _ _ (by omega)]; exact hck3, by rw [hu49 _ _ _ (by omega)]; exact hck2⟩ (fun t ht => by rw [hu49 _ _ _ (by omega)]; exact hopr t ht)) (cwV 2 C.2.2.2.2.1 gX6_hostsPick_X6_maySend rfl rfl rfl (by decide +kernel) ⟨Nat.le_of_ble_eq_true rfl, Nat.le_of_ble_eq_true rfl⟩) rfl (show 0 < (1:Nat) by decide) rfl rfl rfl (Nat.le_of_ble_eq_true rfl) dX6_hostsPick_71 ⟨Nat.zero_le _, Nat.zero_le _⟩) (fun r71 σ71 hp71 => ?_)
                  obtain ⟨hsg71, rfl⟩ := hp71
                  rw [hsg71]
                  have h1r := ab_1r (ab_may S (ab_op S h) f h)
                  refine wk_if_eq C 81 (by omega) (by decide) dX6_hostsPick_74 (fun hc74 => ?_) (fun hc74 => ?_)
                  · skip
                    have hv87 : ab_sdn S h (j + 1) = ab_sdn S h j := hst.2 (by
                      cases hz : ab_may S (ab_op S h) f h
                      · rfl
                      · rw [hz, ab_1t] at hc74; omega)
                    refine wk_aload_n C rfl dX6_hostsPick_81 ?_
                    refine wk_getr C (k := 20) (ci := 6) (j := 29) (T := TX6) rfl (show 0 < (1:Nat) by decide) rfl in_c_X6_hostsPick_X6 (by decide) (by decide +kernel) rfl dX6_hostsPick_82 ?_
                    refine wk_iload_n C rfl dX6_hostsPick_85 ?_
                    refine wk_iald C (k := 49) rfl (show 0 < (1:Nat) by decide) (Nat.le_of_ble_eq_true rfl) (h) (by omega) (show _ < (16:Nat) by omega) dX6_hostsPick_86 ?_
                    rw [show am_up σ1 49 0 h (ab_sdn S h (j + 1)) 49 0 h = ab_sdn S h (j + 1) by rw [am_up_app, if_pos ⟨rfl, rfl, rfl⟩]]
                    exact hj87 _ hv87
                  · skip
                    have hv87 : ((f : Nat) : Int) = ab_sdn S h j := hst.1 (by
                      cases hz : ab_may S (ab_op S h) f h
                      · rw [hz, ab_1f] at hc74; omega
                      · rfl)
                    refine wk_iload_n C rfl dX6_hostsPick_77 ?_
                    refine wk_goto C 87 (by decide) dX6_hostsPick_78 ?_
                    exact hj87 _ hv87
                refine wk_aload_n C rfl dX6_hostsPick_33 ?_
                refine wk_getr C (k := 20) (ci := 6) (j := 28) (T := TX6) rfl (show 0 < (1:Nat) by decide) rfl in_c_X6_hostsPick_X6 (by decide) (by decide +kernel) rfl dX6_hostsPick_34 ?_
                refine wk_iload_n C rfl dX6_hostsPick_37 ?_
                refine wk_iald C (k := 48) rfl (show 0 < (1:Nat) by decide) (Nat.le_of_ble_eq_true rfl) (h) (by omega) (show _ < (16:Nat) by omega) dX6_hostsPick_38 ?_
                rw [hu49 _ _ _ (by omega), h48]
                refine wk_iconst C dX6_hostsPick_39 ?_
                refine wk_icmp_ne C 49 (by omega) (by omega) (by decide) dX6_hostsPick_40 (fun hc40 => ?_) (fun hc40 => ?_)
                · skip
                  refine wk_aload_n C rfl dX6_hostsPick_49 ?_
                  refine wk_getr C (k := 20) (ci := 6) (j := 28) (T := TX6) rfl (show 0 < (1:Nat) by decide) rfl in_c_X6_hostsPick_X6 (by decide) (by decide +kernel) rfl dX6_hostsPick_50 ?_
                  refine wk_iload_n C rfl dX6_hostsPick_53 ?_
                  refine wk_iald C (k := 48) rfl (show 0 < (1:Nat) by decide) (Nat.le_of_ble_eq_true rfl) (h) (by omega) (show _ < (16:Nat) by omega) dX6_hostsPick_54 ?_
                  rw [hu49 _ _ _ (by omega), h48]
                  refine wk_iload_n C rfl dX6_hostsPick_55 ?_
                  refine wk_iadd C dX6_hostsPick_56 ?_
                  refine wk_aload_n C rfl dX6_hostsPick_57 ?_
                  refine wk_geti C (k := 20) (ci := 6) (j := 4) (T := TX6) rfl (show 0 < (1:Nat) by decide) rfl in_c_X6_hostsPick_X6 (by decide) (by decide +kernel) rfl dX6_hostsPick_58 ?_
                  rw [hu49 _ _ _ (by omega), hck4]
                  refine wk_irem C (by omega) (by omega) dX6_hostsPick_61 ?_
                  exact hj62 _ (by first | exact hfi | (rw [hc40, show -1 + ((j + 1 : Nat) : Int) = ((j : Nat) : Int) by omega, Int.emod_eq_of_lt (by omega) (by omega)] at hfi; omega))
                · skip
                  refine wk_iload_n C rfl dX6_hostsPick_43 ?_
                  refine wk_iconst C dX6_hostsPick_44 ?_
                  refine wk_isub C dX6_hostsPick_45 ?_
                  refine wk_goto C 62 (by decide) dX6_hostsPick_46 ?_
                  exact hj62 _ (by first | exact hfi | (rw [hc40, show -1 + ((j + 1 : Nat) : Int) = ((j : Nat) : Int) by omega, Int.emod_eq_of_lt (by omega) (by omega)] at hfi; omega))
        refine wk_le ?_ (hl20 (n + 1) n (by omega) (by omega) (Or.inr (sdn_n S h hn)))
        repeat (first | exact le_0 | refine le_s ?_ | refine le_n ?_)
  refine wk_le ?_ (hl2 17 0 σ (by omega) (by omega) ⟨hR, hP, fun i z => by omega⟩)
  repeat (first | exact le_0 | refine le_s ?_ | refine le_n ?_)
