theorem in_c_X5_loseAtSpines_X0 : ∀ w ∈ u_ws RX0 TX0 13, w ∈ wsX5_loseAtSpines := by decide +kernel
theorem in_c_X5_loseAtSpines_X1 : ∀ w ∈ u_ws RX1 TX1 4, w ∈ wsX5_loseAtSpines := by decide +kernel
theorem in_c_X5_loseAtSpines_X2 : ∀ w ∈ u_ws RX2 TX2 7, w ∈ wsX5_loseAtSpines := by decide +kernel
theorem in_c_X5_loseAtSpines_X4 : ∀ w ∈ u_ws RX4 TX4 4, w ∈ wsX5_loseAtSpines := by decide +kernel
theorem in_c_X5_loseAtSpines_X5 : ∀ w ∈ u_ws RX5 TX5 13, w ∈ wsX5_loseAtSpines := by decide +kernel
set_option maxRecDepth 100000 in
set_option maxHeartbeats 4000000 in
/-- loseAtSpines -/
theorem c_X5_loseAtSpines (l : Launch) (g : am_g) (hI : am_inj (gC g)) (σ : am_M) (sl : Nat) (hs : sl < 7) (S : ab_S) (b : Int) (hC : ab_C S σ) (hS : ab_I S b) (hb : b + 16 ≤ 100000000) (hsl : sl = ab_T S % 7) : Met l yX5_loseAtSpines wsX5_loseAtSpines ({ frames := 1, cells := 0, slots := 0, locals := 22 }) (am_P (gC g) σ [.inr (0, 0), .inl ((sl : Nat) : Int)]) (am_QV (gC g) (fun σ' => ab_C (ab_loseN S 16) σ')) 0 0 (am_FA (gC g)) := by
  refine wk_start (cc := cX5_loseAtSpines) (nL := 6) (ret := none) (own := RX5) (by decide) rfl hI rfl (Nat.le_of_ble_eq_true rfl) ?_
  intro p e s m below meth c C hr hlk
  change wk _ p l e _ s m _ below meth c 0 0 _ _ _ _ 0 [some (.inr (0, 0)), some (.inl ((sl : Nat) : Int)), none, none, none, none] [] σ
  refine wk_iconst C dX5_loseAtSpines_0 ?_
  refine wk_istore_n C (by decide) (Nat.le_of_ble_eq_true rfl) dX5_loseAtSpines_1 ?_
  have hl2 : ∀ (d sp : Nat) (σ1 : am_M), 5 ≤ sp + d → sp ≤ 4 → ab_C (ab_loseN S (4 * sp)) σ1 → wk (gC g) p l e (headSpec wsX5_loseAtSpines ({ frames := 1, cells := 0, slots := 0, locals := 22 })).room s m ([.inr (0, 0), .inl ((sl : Nat) : Int)].map (am_tv (gC g))).toArray below meth c 0 0 (MQ below (am_QV (gC g) (fun σ' => ab_C (ab_loseN S 16) σ')) ([.inr (0, 0), .inl ((sl : Nat) : Int)].map (am_tv (gC g))).toArray s 0 0 (am_FA (gC g))) (am_FA (gC g)) s.heap 6 2 [some (.inr (0, 0)), some (.inl ((sl : Nat) : Int)), some (.inl ((sp : Nat) : Int)), none, none, none] [] σ1 := by
    intro d
    induction d with
    | zero => intro sp σ1 h1 h2 h3; omega
    | succ d ih =>
      intro sp σ1 h1 h2 h3
      refine wk_iload_n C rfl dX5_loseAtSpines_2 ?_
      refine wk_iconst C dX5_loseAtSpines_3 ?_
      refine wk_icmp_ge C 106 (by omega) (by omega) (by decide) dX5_loseAtSpines_4 (fun hc4 => ?_) (fun hc4 => ?_)
      · skip
        refine wk_vret C hr hlk dX5_loseAtSpines_106 ?_
        have h4 : sp = 4 := by omega
        subst h4
        exact h3
      · skip
        refine wk_iconst C dX5_loseAtSpines_7 ?_
        refine wk_istore_n C (by decide) (Nat.le_of_ble_eq_true rfl) dX5_loseAtSpines_8 ?_
        have hl9 : ∀ (d2 lf : Nat) (σ2 : am_M), 5 ≤ lf + d2 → lf ≤ 4 → ab_C (ab_loseN S (4 * sp + lf)) σ2 → wk (gC g) p l e (headSpec wsX5_loseAtSpines ({ frames := 1, cells := 0, slots := 0, locals := 22 })).room s m ([.inr (0, 0), .inl ((sl : Nat) : Int)].map (am_tv (gC g))).toArray below meth c 0 0 (MQ below (am_QV (gC g) (fun σ' => ab_C (ab_loseN S 16) σ')) ([.inr (0, 0), .inl ((sl : Nat) : Int)].map (am_tv (gC g))).toArray s 0 0 (am_FA (gC g))) (am_FA (gC g)) s.heap 6 9 [some (.inr (0, 0)), some (.inl ((sl : Nat) : Int)), some (.inl ((sp : Nat) : Int)), some (.inl ((lf : Nat) : Int)), none, none] [] σ2 := by
          intro d2
          induction d2 with
          | zero => intro lf σ2 g1 g2 hCk; omega
          | succ d2 ih2 =>
            intro lf σ2 g1 g2 hCk
            refine wk_iload_n C rfl dX5_loseAtSpines_9 ?_
            refine wk_iconst C dX5_loseAtSpines_10 ?_
            refine wk_icmp_ge C 100 (by omega) (by omega) (by decide) dX5_loseAtSpines_11 (fun hc11 => ?_) (fun hc11 => ?_)
            · skip
              refine wk_iinc C rfl (by decide) dX5_loseAtSpines_100 ?_
              refine wk_goto C 2 (by decide) dX5_loseAtSpines_103 ?_
              refine wk_le ?_ (ih (sp + 1) _ (by omega) (by omega) ?_)
              · repeat (first | exact le_0 | refine le_s ?_ | refine le_n ?_)
              · rw [show 4 * (sp + 1) = 4 * sp + lf by omega]; exact hCk
            · skip
              have hSk := I_loseN hS hb (4 * sp + lf) (by omega)
              have hL4 := hCk.2.2.2.1 (32 + 4 * lf + sp) (by omega)
              have hs4 := hSk.s4 (L := (32 + 4 * lf + sp)) (by omega)
              refine wk_aload_n C rfl dX5_loseAtSpines_14 ?_
              refine wk_iload_n C rfl dX5_loseAtSpines_15 ?_
              refine wk_iload_n C rfl dX5_loseAtSpines_16 ?_
              refine wk_ofR C (wk_runV (index := 80) (ci := 5) (st := []) C (c_X5_northOf l g hI _ lf sp (by omega) (by omega)) (cwV 2 C.2.2.2.2.1 gX5_loseAtSpines_X5_northOf rfl rfl rfl (by decide +kernel) ⟨Nat.le_of_ble_eq_true rfl, Nat.le_of_ble_eq_true rfl⟩) rfl (show 0 < (1:Nat) by decide) rfl rfl rfl (Nat.le_of_ble_eq_true rfl) dX5_loseAtSpines_17 ⟨Nat.zero_le _, Nat.zero_le _⟩) (fun r17 σ3 hp17 => ?_)
              obtain ⟨rfl, rfl⟩ := hp17
              refine wk_astore C (by decide) (Nat.le_of_ble_eq_true rfl) dX5_loseAtSpines_20 ?_
              refine wk_aload C rfl dX5_loseAtSpines_22 ?_
              refine wk_getiN C (k := 11) (ci := 2) (j := 3) (T := TX2) (host := RX5) rfl (show _ < (64:Nat) by omega) rfl in_c_X5_loseAtSpines_X2 (by decide) (by decide +kernel) rfl dX5_loseAtSpines_24 ?_
              rw [hL4.1]
              refine wk_if_le C 94 (by omega) (by decide) dX5_loseAtSpines_27 (fun hc27 => ?_) (fun hc27 => ?_)
              · skip
                have hpos : ¬ 0 < (ab_loseN S (4 * sp + lf)) 14 (32 + 4 * lf + sp) := by omega
                refine wk_iinc C rfl (by decide) dX5_loseAtSpines_94 ?_
                refine wk_goto C 9 (by decide) dX5_loseAtSpines_97 ?_
                refine wk_le ?_ (ih2 (lf + 1) _ (by omega) (by omega) ?_)
                · repeat (first | exact le_0 | refine le_s ?_ | refine le_n ?_)
                · rw [show 4 * sp + (lf + 1) = (4 * sp + lf) + 1 by omega, ab_loseN, show (4 * sp + lf) / 4 = sp by omega, show (4 * sp + lf) % 4 = lf by omega, ab_lose]
                  first
                    | (rw [if_pos ⟨hpos, hcut⟩]; exact hC4)
                    | (rw [if_neg (fun z => hcut z.2)]; exact hCk)
                    | (rw [if_neg (fun z => hpos z.1)]; exact hCk)
              · skip
                have hpos : 0 < (ab_loseN S (4 * sp + lf)) 14 (32 + 4 * lf + sp) := hc27
                have iq := hSk.2.2.2.2.2.2.2 (32 + 4 * lf + sp) 0 (by omega) (by simpa using hpos)
                obtain ⟨iq0, iq1, iq2, iq3, iq4, iq5, iq6⟩ := iq
                simp only [Nat.add_zero] at iq0 iq1 iq2 iq3 iq4 iq5 iq6
                have hn24 := hSk.2.1.2.2.2.2
                have hc5 := hSk.2.1.2.2.2.1
                have hq : ∀ x, x < 4 → σ3 14 (4 * (32 + 4 * lf + sp) + (σ3 11 (32 + 4 * lf + sp) 2).toNat) x = (ab_loseN S (4 * sp + lf)) (20 + x) (4 * (32 + 4 * lf + sp)) := fun x hx => by
                  have := hCk.2.2.2.2.1 (32 + 4 * lf + sp) 0 x (by omega) (by simpa using hpos) hx
                  rw [show (σ3 11 (32 + 4 * lf + sp) 2 + ((0 : Nat) : Int)) % 4 = σ3 11 (32 + 4 * lf + sp) 2 by omega] at this
                  exact this
                have hfl : ((ab_fl (ab_loseN S (4 * sp + lf)) (32 + 4 * lf + sp) : Nat) : Int) = (ab_loseN S (4 * sp + lf)) 20 (4 * (32 + 4 * lf + sp)) := Int.toNat_of_nonneg iq0.1
                have hif := hSk.2.2.1 (ab_fl (ab_loseN S (4 * sp + lf)) (32 + 4 * lf + sp)) (by omega)
                have hcf : ∀ j, j < 13 → σ3 9 (ab_fl (ab_loseN S (4 * sp + lf)) (32 + 4 * lf + sp)) j = (ab_loseN S (4 * sp + lf)) j (ab_fl (ab_loseN S (4 * sp + lf)) (32 + 4 * lf + sp)) := fun j hj => hCk.2.1 _ j (by omega) hj
                have hif0 := hif.1
                have hif1 := hif.2.1
                have hb1 := hSk.1
                refine wk_aload_n C rfl dX5_loseAtSpines_30 ?_
                refine wk_getr C (k := 0) (ci := 5) (j := 0) (T := TX5) rfl (show 0 < (1:Nat) by decide) rfl in_c_X5_loseAtSpines_X5 (by decide) (by decide +kernel) rfl dX5_loseAtSpines_31 ?_
                refine wk_aload C rfl dX5_loseAtSpines_34 ?_
                refine wk_ofR C (wk_runN (host := RX5) (index := 260) (ci := 2) (st := [_]) C (c_X2_firstPacket l g hI _ (32 + 4 * lf + sp) (by omega) hL4.2.2.1) ⟨va_cnB 0 C.2.2.2.2.1 gX5_loseAtSpines_X2_firstPacket_n260 rfl rfl rfl (C.2.2.2.2.2.1.2 _ (by decide +kernel)) (C.2.2.2.2.1 (.initialized RX2) (by decide +kernel)) (by decide +kernel) ⟨Nat.le_of_ble_eq_true rfl, Nat.le_of_ble_eq_true rfl⟩, C.2.2.2.2.1 (.instanceMethod yX2_firstPacket) (by decide +kernel), C.2.2.2.2.1 (.selects RX2 yX2_firstPacket yX2_firstPacket) (by decide +kernel)⟩ rfl (show _ < (64:Nat) by omega) rfl rfl rfl (Nat.le_of_ble_eq_true rfl) dX5_loseAtSpines_36 ⟨Nat.zero_le _, Nat.zero_le _⟩) (fun r36 σ4 hp36 => ?_)
                obtain ⟨rfl, rfl⟩ := hp36
                refine wk_getiN C (k := 14) (ci := 4) (j := 0) (T := TX4) (host := RX5) rfl (show _ < (256:Nat) by omega) rfl in_c_X5_loseAtSpines_X4 (by decide) (by decide +kernel) rfl dX5_loseAtSpines_39 ?_
                rw [hq 0 (by omega)]
                simp only [Nat.add_zero]
                refine wk_aald C (k := 1) rfl rfl (show 0 < (1:Nat) by decide) (Nat.le_of_ble_eq_true rfl) ((ab_fl (ab_loseN S (4 * sp + lf)) (32 + 4 * lf + sp))) hfl.symm (show _ < (24:Nat) by omega) dX5_loseAtSpines_42 ?_
                refine wk_astore C (by decide) (Nat.le_of_ble_eq_true rfl) dX5_loseAtSpines_43 ?_
                refine wk_aload_n C rfl dX5_loseAtSpines_45 ?_
                refine wk_aload C rfl dX5_loseAtSpines_46 ?_
                refine wk_ofI C (wk_runN (host := RX5) (index := 230) (ci := 0) (st := [_]) C (c_X0_targetLeaf l g hI _ (ab_fl (ab_loseN S (4 * sp + lf)) (32 + 4 * lf + sp)) (by omega) (by rw [hcf 1 (by omega)]; exact hif1)) ⟨va_cnB 0 C.2.2.2.2.1 gX5_loseAtSpines_X0_targetLeaf_n230 rfl rfl rfl (C.2.2.2.2.2.1.2 _ (by decide +kernel)) (C.2.2.2.2.1 (.initialized RX0) (by decide +kernel)) (by decide +kernel) ⟨Nat.le_of_ble_eq_true rfl, Nat.le_of_ble_eq_true rfl⟩, C.2.2.2.2.1 (.instanceMethod yX0_targetLeaf) (by decide +kernel), C.2.2.2.2.1 (.selects RX0 yX0_targetLeaf yX0_targetLeaf) (by decide +kernel)⟩ rfl (show _ < (24:Nat) by omega) rfl rfl rfl (Nat.le_of_ble_eq_true rfl) dX5_loseAtSpines_48 ⟨Nat.zero_le _, Nat.zero_le _⟩) (fun r48 σ5 hp48 => ?_)
                obtain ⟨rfl, rfl⟩ := hp48
                have hlb : ((ab_lb (ab_loseN S (4 * sp + lf)) (ab_fl (ab_loseN S (4 * sp + lf)) (32 + 4 * lf + sp)) : Nat) : Int) = (ab_loseN S (4 * sp + lf)) 1 (ab_fl (ab_loseN S (4 * sp + lf)) (32 + 4 * lf + sp)) / 4 := Int.toNat_of_nonneg (by omega)
                rw [hcf 1 (by omega), ← hlb]
                refine wk_iload_n C rfl dX5_loseAtSpines_51 ?_
                refine wk_ofI C (wk_runV (index := 132) (ci := 5) (st := []) C (c_X5_isCut l g hI _ (ab_lb (ab_loseN S (4 * sp + lf)) (ab_fl (ab_loseN S (4 * sp + lf)) (32 + 4 * lf + sp))) sp (by omega) (by omega) (ab_loseN S (4 * sp + lf)) (b + ((4 * sp + lf : Nat) : Int)) hCk hSk) (cwV 2 C.2.2.2.2.1 gX5_loseAtSpines_X5_isCut rfl rfl rfl (by decide +kernel) ⟨Nat.le_of_ble_eq_true rfl, Nat.le_of_ble_eq_true rfl⟩) rfl (show 0 < (1:Nat) by decide) rfl rfl rfl (Nat.le_of_ble_eq_true rfl) dX5_loseAtSpines_52 ⟨Nat.zero_le _, Nat.zero_le _⟩) (fun r52 σ6 hp52 => ?_)
                obtain ⟨rfl, rfl⟩ := hp52
                have h18 := hSk.2.2.2.2.2.2.1 (4 * ab_lb (ab_loseN S (4 * sp + lf)) (ab_fl (ab_loseN S (4 * sp + lf)) (32 + 4 * lf + sp)) + sp) (by omega)
                refine wk_if_eq C 94 (by omega) (by decide) dX5_loseAtSpines_55 (fun hc55 => ?_) (fun hc55 => ?_)
                · skip
                  have hcut : ¬ ¬ (ab_loseN S (4 * sp + lf)) 18 (4 * ab_lb (ab_loseN S (4 * sp + lf)) (ab_fl (ab_loseN S (4 * sp + lf)) (32 + 4 * lf + sp)) + sp) = 0 := fun z => z hc55
                  refine wk_iinc C rfl (by decide) dX5_loseAtSpines_94 ?_
                  refine wk_goto C 9 (by decide) dX5_loseAtSpines_97 ?_
                  refine wk_le ?_ (ih2 (lf + 1) _ (by omega) (by omega) ?_)
                  · repeat (first | exact le_0 | refine le_s ?_ | refine le_n ?_)
                  · rw [show 4 * sp + (lf + 1) = (4 * sp + lf) + 1 by omega, ab_loseN, show (4 * sp + lf) / 4 = sp by omega, show (4 * sp + lf) % 4 = lf by omega, ab_lose]
                    first
                      | (rw [if_pos ⟨hpos, hcut⟩]; exact hC4)
                      | (rw [if_neg (fun z => hcut z.2)]; exact hCk)
                      | (rw [if_neg (fun z => hpos z.1)]; exact hCk)
                · skip
                  have hcut : ¬ (ab_loseN S (4 * sp + lf)) 18 (4 * ab_lb (ab_loseN S (4 * sp + lf)) (ab_fl (ab_loseN S (4 * sp + lf)) (32 + 4 * lf + sp)) + sp) = 0 := hc55
                  have hC2 := C_fl hCk (f := (ab_fl (ab_loseN S (4 * sp + lf)) (32 + 4 * lf + sp))) (j := 6) (by omega) ((ab_loseN S (4 * sp + lf)) 6 (ab_fl (ab_loseN S (4 * sp + lf)) (32 + 4 * lf + sp)) + 1)
                  refine wk_aload C rfl dX5_loseAtSpines_58 ?_
                  refine wk_dup C dX5_loseAtSpines_60 ?_
                  refine wk_getiN C (k := 9) (ci := 0) (j := 6) (T := TX0) (host := RX5) rfl (show _ < (24:Nat) by omega) rfl in_c_X5_loseAtSpines_X0 (by decide) (by decide +kernel) rfl dX5_loseAtSpines_61 ?_
                  rw [hcf 6 (by omega)]
                  refine wk_iconst C dX5_loseAtSpines_64 ?_
                  refine wk_iadd C dX5_loseAtSpines_65 ?_
                  refine wk_putN C (k := 9) (ci := 0) (j := 6) (T := TX0) (host := RX5) rfl (show _ < (24:Nat) by omega) rfl in_c_X5_loseAtSpines_X0 tyX0 tyX0_ok nmX0 (by decide) (by decide +kernel) rfl rfl (by decide +kernel) dX5_loseAtSpines_66 ?_
                  refine wk_aload_n C rfl dX5_loseAtSpines_69 ?_
                  refine wk_getr C (k := 0) (ci := 5) (j := 1) (T := TX5) rfl (show 0 < (1:Nat) by decide) rfl in_c_X5_loseAtSpines_X5 (by decide) (by decide +kernel) rfl dX5_loseAtSpines_70 ?_
                  refine wk_aload C rfl dX5_loseAtSpines_73 ?_
                  refine wk_getiN C (k := 9) (ci := 0) (j := 1) (T := TX0) (host := RX5) rfl (show _ < (24:Nat) by omega) rfl in_c_X5_loseAtSpines_X0 (by decide) (by decide +kernel) rfl dX5_loseAtSpines_75 ?_
                  rw [hC2.2.1 (ab_fl (ab_loseN S (4 * sp + lf)) (32 + 4 * lf + sp)) 1 (by rw [ab_u_app, if_neg (by omega)]; omega) (by omega), ab_u_app, if_neg (by omega)]
                  refine wk_aald C (k := 2) rfl rfl (show 0 < (1:Nat) by decide) (Nat.le_of_ble_eq_true rfl) (((ab_loseN S (4 * sp + lf)) 1 (ab_fl (ab_loseN S (4 * sp + lf)) (32 + 4 * lf + sp))).toNat) (Int.toNat_of_nonneg hif1.1).symm (show _ < (16:Nat) by omega) dX5_loseAtSpines_78 ?_
                  refine wk_dup C dX5_loseAtSpines_79 ?_
                  refine wk_getiN C (k := 10) (ci := 1) (j := 2) (T := TX1) (host := RX5) rfl (show _ < (16:Nat) by omega) rfl in_c_X5_loseAtSpines_X1 (by decide) (by decide +kernel) rfl dX5_loseAtSpines_80 ?_
                  rw [(hC2.2.2.1 _ (by omega)).1, ab_u_app, if_neg (by omega)]
                  refine wk_iconst C dX5_loseAtSpines_83 ?_
                  refine wk_isub C dX5_loseAtSpines_84 ?_
                  refine wk_putN C (k := 10) (ci := 1) (j := 2) (T := TX1) (host := RX5) rfl (show _ < (16:Nat) by omega) rfl in_c_X5_loseAtSpines_X1 tyX1 tyX1_ok nmX1 (by decide) (by decide +kernel) rfl rfl (by decide +kernel) dX5_loseAtSpines_85 ?_
                  have hC3 := C_host hC2 (k := ((ab_loseN S (4 * sp + lf)) 1 (ab_fl (ab_loseN S (4 * sp + lf)) (32 + 4 * lf + sp))).toNat) (j := 2) (Or.inl rfl) ((ab_loseN S (4 * sp + lf)) 16 ((ab_loseN S (4 * sp + lf)) 1 (ab_fl (ab_loseN S (4 * sp + lf)) (32 + 4 * lf + sp))).toNat - 1)
                  have e14 : ∀ L, ab_u (ab_u (ab_loseN S (4 * sp + lf)) 6 (ab_fl (ab_loseN S (4 * sp + lf)) (32 + 4 * lf + sp)) ((ab_loseN S (4 * sp + lf)) 6 (ab_fl (ab_loseN S (4 * sp + lf)) (32 + 4 * lf + sp)) + 1)) (14 + 2) ((ab_loseN S (4 * sp + lf)) 1 (ab_fl (ab_loseN S (4 * sp + lf)) (32 + 4 * lf + sp))).toNat ((ab_loseN S (4 * sp + lf)) 16 ((ab_loseN S (4 * sp + lf)) 1 (ab_fl (ab_loseN S (4 * sp + lf)) (32 + 4 * lf + sp))).toNat - 1) 14 L = (ab_loseN S (4 * sp + lf)) 14 L := fun L => by rw [ab_u_app, if_neg (by omega), ab_u_app, if_neg (by omega)]
                  have e19 : ∀ L, ab_u (ab_u (ab_loseN S (4 * sp + lf)) 6 (ab_fl (ab_loseN S (4 * sp + lf)) (32 + 4 * lf + sp)) ((ab_loseN S (4 * sp + lf)) 6 (ab_fl (ab_loseN S (4 * sp + lf)) (32 + 4 * lf + sp)) + 1)) (14 + 2) ((ab_loseN S (4 * sp + lf)) 1 (ab_fl (ab_loseN S (4 * sp + lf)) (32 + 4 * lf + sp))).toNat ((ab_loseN S (4 * sp + lf)) 16 ((ab_loseN S (4 * sp + lf)) 1 (ab_fl (ab_loseN S (4 * sp + lf)) (32 + 4 * lf + sp))).toNat - 1) 19 L = (ab_loseN S (4 * sp + lf)) 19 L := fun L => by rw [ab_u_app, if_neg (by omega), ab_u_app, if_neg (by omega)]
                  have hC4 := C_drop hC3 (L := (32 + 4 * lf + sp)) (sl := sl) (by omega) (by rw [e14]; exact hpos) (fun L hL => by rw [e14]; exact (hSk.s4 hL).2.1) (by rw [e19]; exact hc5.1) (by rw [e19]; exact hSk.2.1.1) (hsl.trans (congrArg (fun z => z % 7) (ab_T_cg (fun i => by rw [e19, ab_loseN_o _ _ _ (by unfold ab_kp; omega)])).symm))
                  refine wk_aload C rfl dX5_loseAtSpines_88 ?_
                  refine wk_iload_n C rfl dX5_loseAtSpines_90 ?_
                  refine wk_ofV C (wk_runN (host := RX5) (index := 275) (ci := 2) (st := []) C (c_X2_drop l g hI _ (32 + 4 * lf + sp) (by omega) sl hs (hC3.2.2.2.1 (32 + 4 * lf + sp) (by omega)).2.2.1) ⟨va_cnB 1 C.2.2.2.2.1 gX5_loseAtSpines_X2_drop_n275 rfl rfl rfl (C.2.2.2.2.2.1.2 _ (by decide +kernel)) (C.2.2.2.2.1 (.initialized RX2) (by decide +kernel)) (by decide +kernel) ⟨Nat.le_of_ble_eq_true rfl, Nat.le_of_ble_eq_true rfl⟩, C.2.2.2.2.1 (.instanceMethod yX2_drop) (by decide +kernel), C.2.2.2.2.1 (.selects RX2 yX2_drop yX2_drop) (by decide +kernel)⟩ rfl (show _ < (64:Nat) by omega) rfl rfl rfl (Nat.le_of_ble_eq_true rfl) dX5_loseAtSpines_91 ⟨Nat.zero_le _, Nat.zero_le _⟩) (fun σ91 hp91 => ?_)
                  subst hp91
                  refine wk_iinc C rfl (by decide) dX5_loseAtSpines_94 ?_
                  refine wk_goto C 9 (by decide) dX5_loseAtSpines_97 ?_
                  refine wk_le ?_ (ih2 (lf + 1) _ (by omega) (by omega) ?_)
                  · repeat (first | exact le_0 | refine le_s ?_ | refine le_n ?_)
                  · rw [show 4 * sp + (lf + 1) = (4 * sp + lf) + 1 by omega, ab_loseN, show (4 * sp + lf) / 4 = sp by omega, show (4 * sp + lf) % 4 = lf by omega, ab_lose]
                    first
                      | (rw [if_pos ⟨hpos, hcut⟩]; exact hC4)
                      | (rw [if_neg (fun z => hcut z.2)]; exact hCk)
                      | (rw [if_neg (fun z => hpos z.1)]; exact hCk)
        refine wk_le ?_ (hl9 5 0 σ1 (by omega) (by omega) h3)
        repeat (first | exact le_0 | refine le_s ?_ | refine le_n ?_)
  exact hl2 5 0 σ (by omega) (by omega) hC

/-- the p-th usable one from s on, of d -/
def ab_nf (u : Nat → Bool) : Nat → Nat → Int → Int
  | _, 0, _ => -1
  | s, d + 1, p => if u s = true then (if p = 0 then (s : Int) else ab_nf u (s + 1) d (p - 1)) else ab_nf u (s + 1) d p
theorem ab_nf_nth (u : Nat → Bool) {p : Int} (hp : 0 ≤ p) : ab_nth (u 0) (u 1) (u 2) (u 3) p = ab_nf u 0 4 p := by
  simp only [ab_nf, ab_nth]
  cases u 0 <;> cases u 1 <;> cases u 2 <;> cases u 3 <;> simp [ab_1] <;> (repeat' split) <;> omega
theorem ab_nf_us (u : Nat → Bool) : ∀ (d s : Nat) (p : Int), 0 ≤ ab_nf u s d p → u (ab_nf u s d p).toNat = true
  | 0, s, p, h => by simp [ab_nf] at h
  | d + 1, s, p, h => by
    rw [ab_nf] at h ⊢
    split
    · rename_i hu
      rw [if_pos hu] at h
      split
      · simpa using hu
      · rename_i hp
        rw [if_neg hp] at h
        exact ab_nf_us u d _ _ h
    · rename_i hu
      rw [if_neg hu] at h
      exact ab_nf_us u d _ _ h
theorem c_bitCountU (l : Launch) (g : am_g) (hI : am_inj (gC g)) (σ : am_M) (S : ab_S) (a b : Nat) : Met l yJ6_bitCount_0f7a4 wsJ6_bitCount_0f7a4 ({ frames := 0, cells := 0, slots := 0, locals := 0 }) (am_P (gC g) σ [.inl (ab_um S a b)]) (am_QI (gC g) (fun r σ' => σ' = σ ∧ r = ab_many S a b)) 0 0 (am_FA (gC g)) := by
  have hr := ab_um_rng S a b
  have := c_bitCount l g hI σ (ab_um S a b).toNat (by omega)
  rw [Int.toNat_of_nonneg hr.1] at this
  rw [← bc_um]
  exact this

theorem in_c_X5_chosenSpine_X0 : ∀ w ∈ u_ws RX0 TX0 13, w ∈ wsX5_chosenSpine := by decide +kernel
theorem in_c_X5_chosenSpine_X5 : ∀ w ∈ u_ws RX5 TX5 13, w ∈ wsX5_chosenSpine := by decide +kernel
set_option maxRecDepth 100000 in
set_option maxHeartbeats 4000000 in
/-- chosenSpine -/
theorem c_X5_chosenSpine (l : Launch) (g : am_g) (hI : am_inj (gC g)) (σ : am_M) (f : Nat) (k : Int) (S : ab_S) (b : Int) (hC : ab_C S σ) (hS : ab_I S b) (hf : (f : Int) < S 19 4) (hk : 0 ≤ k ∧ k ≤ 100000000) : Met l yX5_chosenSpine wsX5_chosenSpine ({ frames := 1, cells := 0, slots := 0, locals := 22 }) (am_P (gC g) σ [.inr (0, 0), .inl ((f : Nat) : Int), .inl (k)]) (am_QI (gC g) (fun r σ' => σ' = σ ∧ r = ab_chosen S f k)) 0 0 (am_FA (gC g)) := by
  refine wk_start (cc := cX5_chosenSpine) (nL := 8) (ret := (some .int)) (own := RX5) (by decide) rfl hI rfl (Nat.le_of_ble_eq_true rfl) ?_
  intro p e s m below meth c C hr hlk
  change wk _ p l e _ s m _ below meth c 0 0 _ _ _ _ 0 [some (.inr (0, 0)), some (.inl ((f : Nat) : Int)), some (.inl (k)), none, none, none, none, none] [] σ
  have hn24 := hS.2.1.2.2.2.2
  have hif := hS.2.2.1 f hf
  have hif0 := hif.1
  have hif1 := hif.2.1
  have hcf : ∀ j, j < 13 → σ 9 f j = S j f := fun j hj => hC.2.1 _ j hf hj
  have hla : ((ab_la S f : Nat) : Int) = S 0 f / 4 := Int.toNat_of_nonneg (by omega)
  have hlb : ((ab_lb S f : Nat) : Int) = S 1 f / 4 := Int.toNat_of_nonneg (by omega)
  have hu := ab_um_rng S (ab_la S f) (ab_lb S f)
  have hmr := ab_many_rng S (ab_la S f) (ab_lb S f)
  refine wk_aload_n C rfl dX5_chosenSpine_0 ?_
  refine wk_getr C (k := 0) (ci := 5) (j := 0) (T := TX5) rfl (show 0 < (1:Nat) by decide) rfl in_c_X5_chosenSpine_X5 (by decide) (by decide +kernel) rfl dX5_chosenSpine_1 ?_
  refine wk_iload_n C rfl dX5_chosenSpine_4 ?_
  refine wk_aald C (k := 1) rfl rfl (show 0 < (1:Nat) by decide) (Nat.le_of_ble_eq_true rfl) (f) (by omega) (show _ < (24:Nat) by omega) dX5_chosenSpine_5 ?_
  refine wk_astore_n C (by decide) (Nat.le_of_ble_eq_true rfl) dX5_chosenSpine_6 ?_
  refine wk_aload_n C rfl dX5_chosenSpine_7 ?_
  refine wk_aload_n C rfl dX5_chosenSpine_8 ?_
  refine wk_ofI C (wk_runN (host := RX5) (index := 227) (ci := 0) (st := [_]) C (c_X0_sourceLeaf l g hI _ f (by omega) (by rw [hcf 0 (by omega)]; exact hif0)) ⟨va_cnB 0 C.2.2.2.2.1 gX5_chosenSpine_X0_sourceLeaf_n227 rfl rfl rfl (C.2.2.2.2.2.1.2 _ (by decide +kernel)) (C.2.2.2.2.1 (.initialized RX0) (by decide +kernel)) (by decide +kernel) ⟨Nat.le_of_ble_eq_true rfl, Nat.le_of_ble_eq_true rfl⟩, C.2.2.2.2.1 (.instanceMethod yX0_sourceLeaf) (by decide +kernel), C.2.2.2.2.1 (.selects RX0 yX0_sourceLeaf yX0_sourceLeaf) (by decide +kernel)⟩ rfl (show _ < (24:Nat) by omega) rfl rfl rfl (Nat.le_of_ble_eq_true rfl) dX5_chosenSpine_9 ⟨Nat.zero_le _, Nat.zero_le _⟩) (fun r9 σ9 hp9 => ?_)
  obtain ⟨hsg9, rfl⟩ := hp9
  rw [hsg9]
  rw [hcf 0 (by omega), ← hla]
  refine wk_aload_n C rfl dX5_chosenSpine_12 ?_
  refine wk_ofI C (wk_runN (host := RX5) (index := 230) (ci := 0) (st := [_, _]) C (c_X0_targetLeaf l g hI _ f (by omega) (by rw [hcf 1 (by omega)]; exact hif1)) ⟨va_cnB 0 C.2.2.2.2.1 gX5_chosenSpine_X0_targetLeaf_n230 rfl rfl rfl (C.2.2.2.2.2.1.2 _ (by decide +kernel)) (C.2.2.2.2.1 (.initialized RX0) (by decide +kernel)) (by decide +kernel) ⟨Nat.le_of_ble_eq_true rfl, Nat.le_of_ble_eq_true rfl⟩, C.2.2.2.2.1 (.instanceMethod yX0_targetLeaf) (by decide +kernel), C.2.2.2.2.1 (.selects RX0 yX0_targetLeaf yX0_targetLeaf) (by decide +kernel)⟩ rfl (show _ < (24:Nat) by omega) rfl rfl rfl (Nat.le_of_ble_eq_true rfl) dX5_chosenSpine_13 ⟨Nat.zero_le _, Nat.zero_le _⟩) (fun r13 σ13 hp13 => ?_)
  obtain ⟨hsg13, rfl⟩ := hp13
  rw [hsg13]
  rw [hcf 1 (by omega), ← hlb]
  refine wk_ofI C (wk_runV (index := 193) (ci := 5) (st := []) C (c_X5_usableSpines l g hI _ (ab_la S f) (ab_lb S f) (by omega) (by omega) S b hC hS) (cwV 2 C.2.2.2.2.1 gX5_chosenSpine_X5_usableSpines rfl rfl rfl (by decide +kernel) ⟨Nat.le_of_ble_eq_true rfl, Nat.le_of_ble_eq_true rfl⟩) rfl (show 0 < (1:Nat) by decide) rfl rfl rfl (Nat.le_of_ble_eq_true rfl) dX5_chosenSpine_16 ⟨Nat.zero_le _, Nat.zero_le _⟩) (fun r16 σ16 hp16 => ?_)
  obtain ⟨hsg16, rfl⟩ := hp16
  rw [hsg16]
  refine wk_istore C (by decide) (Nat.le_of_ble_eq_true rfl) dX5_chosenSpine_19 ?_
  refine wk_iload C rfl dX5_chosenSpine_21 ?_
  refine wk_ofI C (wk_runS (index := 143) (st := []) C (c_bitCountU l g hI _ S (ab_la S f) (ab_lb S f)) (va_cwS 1 C.2.2.2.2.1 gX5_chosenSpine_J6_bitCount_0f7a4 rfl rfl rfl (by decide +kernel) ⟨Nat.le_of_ble_eq_true rfl, Nat.le_of_ble_eq_true rfl⟩) rfl rfl (Nat.le_of_ble_eq_true rfl) dX5_chosenSpine_23 ⟨Nat.zero_le _, Nat.zero_le _⟩) (fun r23 σ23 hp23 => ?_)
  obtain ⟨hsg23, rfl⟩ := hp23
  rw [hsg23]
  refine wk_istore C (by decide) (Nat.le_of_ble_eq_true rfl) dX5_chosenSpine_26 ?_
  refine wk_iload C rfl dX5_chosenSpine_28 ?_
  refine wk_if_ne C 35 (by omega) (by decide) dX5_chosenSpine_30 (fun hc30 => ?_) (fun hc30 => ?_)
  · skip
    refine wk_bipush C (n := 7) (by decide) dX5_chosenSpine_35 ?_
    refine wk_iload_n C rfl dX5_chosenSpine_37 ?_
    refine wk_imul C dX5_chosenSpine_38 ?_
    refine wk_bipush C (n := 13) (by decide) dX5_chosenSpine_39 ?_
    refine wk_iload_n C rfl dX5_chosenSpine_41 ?_
    refine wk_imul C dX5_chosenSpine_42 ?_
    refine wk_iadd C dX5_chosenSpine_43 ?_
    refine wk_iconst C dX5_chosenSpine_44 ?_
    refine wk_aload_n C rfl dX5_chosenSpine_45 ?_
    refine wk_getiN C (k := 9) (ci := 0) (j := 0) (T := TX0) (host := RX5) rfl (show _ < (24:Nat) by omega) rfl in_c_X5_chosenSpine_X0 (by decide) (by decide +kernel) rfl dX5_chosenSpine_46 ?_
    rw [hcf 0 (by omega)]
    refine wk_imul C dX5_chosenSpine_49 ?_
    refine wk_iadd C dX5_chosenSpine_50 ?_
    refine wk_iconst C dX5_chosenSpine_51 ?_
    refine wk_aload_n C rfl dX5_chosenSpine_52 ?_
    refine wk_getiN C (k := 9) (ci := 0) (j := 1) (T := TX0) (host := RX5) rfl (show _ < (24:Nat) by omega) rfl in_c_X5_chosenSpine_X0 (by decide) (by decide +kernel) rfl dX5_chosenSpine_53 ?_
    rw [hcf 1 (by omega)]
    refine wk_imul C dX5_chosenSpine_56 ?_
    refine wk_iadd C dX5_chosenSpine_57 ?_
    refine wk_iload C rfl dX5_chosenSpine_58 ?_
    refine wk_irem C (by omega) (by omega) dX5_chosenSpine_60 ?_
    have hm1 := Int.emod_nonneg (7 * (f : Int) + 13 * k + 3 * S 0 f + 5 * S 1 f) (b := ab_many S (ab_la S f) (ab_lb S f)) (by omega)
    have hm2 := Int.emod_lt_of_pos (7 * (f : Int) + 13 * k + 3 * S 0 f + 5 * S 1 f) (b := ab_many S (ab_la S f) (ab_lb S f)) (by omega)
    have hch : ab_chosen S f k = ab_nf (fun s => ab_us S (ab_la S f) (ab_lb S f) s) 0 4 ((7 * (f : Int) + 13 * k + 3 * S 0 f + 5 * S 1 f) % ab_many S (ab_la S f) (ab_lb S f)) := by
      rw [ab_chosen, if_neg (by omega)]
      exact ab_nf_nth (fun s => ab_us S (ab_la S f) (ab_lb S f) s) hm1
    refine wk_istore C (by decide) (Nat.le_of_ble_eq_true rfl) dX5_chosenSpine_61 ?_
    refine wk_iconst C dX5_chosenSpine_63 ?_
    refine wk_istore C (by decide) (Nat.le_of_ble_eq_true rfl) dX5_chosenSpine_64 ?_
    have hl66 : ∀ (d s2 : Nat) (p2 : Int), 5 ≤ s2 + d → s2 ≤ 4 → 0 ≤ p2 → p2 ≤ 4 → ab_chosen S f k = ab_nf (fun s => ab_us S (ab_la S f) (ab_lb S f) s) s2 (4 - s2) p2 → wk (gC g) p l e (headSpec wsX5_chosenSpine ({ frames := 1, cells := 0, slots := 0, locals := 22 })).room s m ([.inr (0, 0), .inl ((f : Nat) : Int), .inl (k)].map (am_tv (gC g))).toArray below meth c 0 0 (MQ below (am_QI (gC g) (fun r σ' => σ' = σ ∧ r = ab_chosen S f k)) ([.inr (0, 0), .inl ((f : Nat) : Int), .inl (k)].map (am_tv (gC g))).toArray s 0 0 (am_FA (gC g))) (am_FA (gC g)) s.heap 8 66 [some (.inr (0, 0)), some (.inl ((f : Nat) : Int)), some (.inl (k)), some (.inr (9, f)), some (.inl (ab_um S (ab_la S f) (ab_lb S f))), some (.inl (ab_many S (ab_la S f) (ab_lb S f))), some (.inl (p2)), some (.inl ((s2 : Nat) : Int))] [] σ := by
      intro d
      induction d with
      | zero => intro s2 p2 h1 h2; omega
      | succ d ih =>
        intro s2 p2 h1 h2 h3 h4 h5
        refine wk_iload C rfl dX5_chosenSpine_66 ?_
        refine wk_iconst C dX5_chosenSpine_68 ?_
        refine wk_icmp_ge C 100 (by omega) (by omega) (by decide) dX5_chosenSpine_69 (fun hc69 => ?_) (fun hc69 => ?_)
        · skip
          refine wk_iconst C dX5_chosenSpine_100 ?_
          refine wk_iret C hr hlk dX5_chosenSpine_101 ?_
          refine ⟨rfl, ?_⟩
          rw [h5, show 4 - s2 = 0 by omega, ab_nf]
        · skip
          refine wk_iload C rfl dX5_chosenSpine_72 ?_
          refine wk_iload C rfl dX5_chosenSpine_74 ?_
          refine wk_ishr C ((((ab_um S (ab_la S f) (ab_lb S f)).toNat / 2 ^ s2 : Nat) : Int)) (ab_um_shr S _ _ (by omega)) dX5_chosenSpine_76 ?_
          refine wk_iconst C dX5_chosenSpine_77 ?_
          refine wk_iand C (ab_1 (ab_us S (ab_la S f) (ab_lb S f) s2)) (ab_um_bit S _ _ (by omega)) dX5_chosenSpine_78 ?_
          have h1r := ab_1r (ab_us S (ab_la S f) (ab_lb S f) s2)
          refine wk_iconst C dX5_chosenSpine_79 ?_
          refine wk_icmp_ne C 94 (by omega) (by omega) (by decide) dX5_chosenSpine_80 (fun hc80 => ?_) (fun hc80 => ?_)
          · skip
            have hus : ¬ ab_us S (ab_la S f) (ab_lb S f) s2 = true := fun z => hc80 (by rw [z]; rfl)
            refine wk_iinc C rfl (by decide) dX5_chosenSpine_94 ?_
            refine wk_goto C 66 (by decide) dX5_chosenSpine_97 ?_
            refine ih (s2 + 1) _ (by omega) (by omega) ?_ ?_ ?_
            · omega
            · omega
            · rw [h5, show 4 - s2 = (4 - (s2 + 1)) + 1 by omega, ab_nf]
              first
                | (rw [if_pos hus, if_neg hc85]; rfl)
                | (rw [if_neg hus])
          · skip
            have hus : ab_us S (ab_la S f) (ab_lb S f) s2 = true := by
              cases hz : ab_us S (ab_la S f) (ab_lb S f) s2
              · rw [hz] at hc80; simp [ab_1] at hc80
              · rfl
            refine wk_iload C rfl dX5_chosenSpine_83 ?_
            refine wk_if_ne C 91 (by omega) (by decide) dX5_chosenSpine_85 (fun hc85 => ?_) (fun hc85 => ?_)
            · skip
              refine wk_iinc C rfl (by decide) dX5_chosenSpine_91 ?_
              refine wk_iinc C rfl (by decide) dX5_chosenSpine_94 ?_
              refine wk_goto C 66 (by decide) dX5_chosenSpine_97 ?_
              refine ih (s2 + 1) _ (by omega) (by omega) ?_ ?_ ?_
              · omega
              · omega
              · rw [h5, show 4 - s2 = (4 - (s2 + 1)) + 1 by omega, ab_nf]
                first
                  | (rw [if_pos hus, if_neg hc85]; rfl)
                  | (rw [if_neg hus])
            · skip
              refine wk_iload C rfl dX5_chosenSpine_88 ?_
              refine wk_iret C hr hlk dX5_chosenSpine_90 ?_
              refine ⟨rfl, ?_⟩
              rw [h5, show 4 - s2 = (4 - (s2 + 1)) + 1 by omega, ab_nf, if_pos hus, if_pos hc85]
    exact hl66 5 0 _ (by omega) (by omega) hm1 (by omega) hch
  · skip
    refine wk_iconst C dX5_chosenSpine_33 ?_
    refine wk_iret C hr hlk dX5_chosenSpine_34 ?_
    refine ⟨rfl, ?_⟩
    rw [ab_chosen, if_pos (by omega)]
