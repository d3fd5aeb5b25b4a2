theorem in_c_X3_move_X2 : ∀ w ∈ u_ws RX2 TX2 7, w ∈ wsX3_move := by decide +kernel
theorem in_c_X3_move_X3 : ∀ w ∈ u_ws RX3 TX3 3, w ∈ wsX3_move := by decide +kernel
theorem in_c_X3_move_X4 : ∀ w ∈ u_ws RX4 TX4 4, w ∈ wsX3_move := by decide +kernel
set_option maxRecDepth 100000 in
set_option maxHeartbeats 4000000 in
/-- Node.move -/
theorem c_X3_move (l : Launch) (g : am_g) (hI : am_inj (gC g)) (σ : am_M) (n sl : Nat) (hn : n < 8) (hs : sl < 7) (S : ab_S) (b : Int) (hS : ab_I S b) (hC : ab_C (ab_MV S (ab_bs n)) σ) (hP : ab_PK S 48 σ) (hsl : sl = ab_T S % 7) : Met l yX3_move wsX3_move ({ frames := 2, cells := 0, slots := 0, locals := 48 }) (am_P (gC g) σ [.inr (15, n), .inl ((sl : Nat) : Int)]) (am_QV (gC g) (fun σ' => (ab_C (ab_MV S (ab_bs n + lc_d n)) σ' ∧ ab_PK S 48 σ'))) 0 0 (am_FA (gC g)) := by
  refine wk_start (cc := cX3_move) (nL := 5) (ret := none) (own := RX3) (by decide) rfl hI rfl (Nat.le_of_ble_eq_true rfl) ?_
  intro p e s m below meth c C hr hlk
  change wk _ p l e _ s m _ below meth c 0 0 _ _ _ _ 0 [some (.inr (15, n)), some (.inl ((sl : Nat) : Int)), none, none, none] [] σ
  have hd48 : lc_d n = 4 ∨ lc_d n = 8 := by unfold lc_d; split <;> simp
  refine wk_iconst C dX3_move_0 ?_
  refine wk_istore_n C (by decide) (Nat.le_of_ble_eq_true rfl) dX3_move_1 ?_
  have hl2 : ∀ (d i : Nat) (σ1 : am_M), lc_d n + 1 ≤ i + d → i ≤ lc_d n → (ab_C (ab_MV S (ab_bs n + i)) σ1 ∧ ab_PK S 48 σ1) → wk (gC g) p l e (headSpec wsX3_move ({ frames := 2, cells := 0, slots := 0, locals := 48 })).room s m ([.inr (15, n), .inl ((sl : Nat) : Int)].map (am_tv (gC g))).toArray below meth c 0 0 (MQ below (am_QV (gC g) (fun σ' => (ab_C (ab_MV S (ab_bs n + lc_d n)) σ' ∧ ab_PK S 48 σ'))) ([.inr (15, n), .inl ((sl : Nat) : Int)].map (am_tv (gC g))).toArray s 0 0 (am_FA (gC g))) (am_FA (gC g)) s.heap 5 2 [some (.inr (15, n)), some (.inl ((sl : Nat) : Int)), some (.inl ((i : Nat) : Int)), none, none] [] σ1 := by
    intro d
    induction d with
    | zero => intro i σ1 h1 h2 h3; omega
    | succ d ih =>
      intro i σ1 h1 h2 h3
      refine wk_iload_n C rfl dX3_move_2 ?_
      refine wk_aload_n C rfl dX3_move_3 ?_
      refine wk_getr C (k := 15) (ci := 3) (j := 1) (T := TX3) rfl (show _ < (8:Nat) by omega) rfl in_c_X3_move_X3 (by decide) (by decide +kernel) rfl dX3_move_4 ?_
      refine wk_alenR C (k := 17) rfl rfl (show _ < (8:Nat) by omega) dX3_move_7 ?_
      refine wk_icmp_ge C 82 (by omega) (by omega) (by decide) dX3_move_8 (fun hc8 => ?_) (fun hc8 => ?_)
      · skip
        refine wk_vret C hr hlk dX3_move_82 ?_
        have h4 : i = lc_d n := by omega
        subst h4
        exact h3
      · skip
        have hil : i < lc_d n := by omega
        have ho := ab_ord_out hn hil
        refine wk_aload_n C rfl dX3_move_11 ?_
        refine wk_getr C (k := 15) (ci := 3) (j := 1) (T := TX3) rfl (show _ < (8:Nat) by omega) rfl in_c_X3_move_X3 (by decide) (by decide +kernel) rfl dX3_move_12 ?_
        refine wk_iload_n C rfl dX3_move_15 ?_
        refine wk_aald C (k := 17) rfl rfl (show _ < (8:Nat) by omega) (by omega) (i) (by omega) (by omega) dX3_move_16 ?_
        refine wk_getiN C (k := 11) (ci := 2) (j := 6) (T := TX2) (host := RX5) rfl (show _ < (64:Nat) by omega) rfl in_c_X3_move_X2 (by decide) (by decide +kernel) rfl dX3_move_17 ?_
        rw [h3.2 (lc_out n i) ho.2.1 ho.2.2 (ab_ord_lt ho.2)]
        have hpr := pick_rng hS (L := (lc_out n i)) ho.2.2
        refine wk_istore_n C (by decide) (Nat.le_of_ble_eq_true rfl) dX3_move_20 ?_
        refine wk_iload_n C rfl dX3_move_21 ?_
        refine wk_iconst C dX3_move_22 ?_
        refine wk_icmp_eq C 76 (by omega) (by omega) (by decide) dX3_move_23 (fun hc23 => ?_) (fun hc23 => ?_)
        · skip
          have hfin : (ab_C (ab_MV S (ab_bs n + (i + 1))) σ1 ∧ ab_PK S 48 σ1) := by
            rw [MV_none hn hil hc23]
            exact h3
          refine wk_iinc C rfl (by decide) dX3_move_76 ?_
          refine wk_goto C 2 (by decide) dX3_move_79 ?_
          refine wk_le ?_ (ih (i + 1) _ (by omega) (by omega) hfin)
          repeat (first | exact le_0 | refine le_s ?_ | refine le_n ?_)
        · skip
          obtain ⟨⟨hq64, hpn, hplt⟩, hpk, hr, hmv⟩ := C_move hS hn hil hsl h3.1 hc23
          obtain ⟨hr2, hC4, hK6⟩ := hmv (S 20 (4 * lc_in n (ab_pick S (lc_out n i)).toNat)) (S 21 (4 * lc_in n (ab_pick S (lc_out n i)).toNat)) (S 22 (4 * lc_in n (ab_pick S (lc_out n i)).toNat)) (S 23 (4 * lc_in n (ab_pick S (lc_out n i)).toNat)) (fun x hx => by match x, hx with | 0, _ => rfl | 1, _ => rfl | 2, _ => rfl | 3, _ => rfl)
          have hrq := (hr (lc_in n (ab_pick S (lc_out n i)).toNat) hq64).1
          have hfin : (ab_C (ab_MV S (ab_bs n + (i + 1))) _ ∧ ab_PK S 48 _) := ⟨hC4, fun L z1 z2 z3 => (hK6 L).trans (h3.2 L z1 z2 z3)⟩
          refine wk_aload_n C rfl dX3_move_26 ?_
          refine wk_getr C (k := 15) (ci := 3) (j := 0) (T := TX3) rfl (show _ < (8:Nat) by omega) rfl in_c_X3_move_X3 (by decide) (by decide +kernel) rfl dX3_move_27 ?_
          refine wk_iload_n C rfl dX3_move_30 ?_
          refine wk_aald C (k := 16) rfl rfl (show _ < (8:Nat) by omega) (by omega) ((ab_pick S (lc_out n i)).toNat) (Int.toNat_of_nonneg hpn).symm hplt dX3_move_31 ?_
          refine wk_ofR C (wk_runN (host := RX5) (index := 32) (ci := 2) (st := []) C (c_X2_firstPacket l g hI _ (lc_in n (ab_pick S (lc_out n i)).toNat) hq64 (hr (lc_in n (ab_pick S (lc_out n i)).toNat) hq64).1) ⟨va_cnB 0 C.2.2.2.2.1 gX3_move_X2_firstPacket_n32 rfl rfl rfl (C.2.2.2.2.2.1.2 _ (by decide +kernel)) (C.2.2.2.2.1 (.initialized RX2) (by decide +kernel)) (by decide +kernel) ⟨Nat.le_of_ble_eq_true rfl, Nat.le_of_ble_eq_true rfl⟩, C.2.2.2.2.1 (.instanceMethod yX2_firstPacket) (by decide +kernel), C.2.2.2.2.1 (.selects RX2 yX2_firstPacket yX2_firstPacket) (by decide +kernel)⟩ rfl (show _ < (64:Nat) by omega) rfl rfl rfl (Nat.le_of_ble_eq_true rfl) dX3_move_32 ⟨Nat.zero_le _, Nat.zero_le _⟩) (fun r32 σ32 hp32 => ?_)
          obtain ⟨hsg32, rfl⟩ := hp32
          rw [hsg32]
          refine wk_astore C (by decide) (Nat.le_of_ble_eq_true rfl) dX3_move_35 ?_
          refine wk_aload_n C rfl dX3_move_37 ?_
          refine wk_getr C (k := 15) (ci := 3) (j := 1) (T := TX3) rfl (show _ < (8:Nat) by omega) rfl in_c_X3_move_X3 (by decide) (by decide +kernel) rfl dX3_move_38 ?_
          refine wk_iload_n C rfl dX3_move_41 ?_
          refine wk_aald C (k := 17) rfl rfl (show _ < (8:Nat) by omega) (by omega) (i) (by omega) (by omega) dX3_move_42 ?_
          refine wk_aload C rfl dX3_move_43 ?_
          refine wk_getiN C (k := 14) (ci := 4) (j := 0) (T := TX4) (host := RX5) rfl (show _ < (256:Nat) by omega) rfl in_c_X3_move_X4 (by decide) (by decide +kernel) rfl dX3_move_45 ?_
          rw [hpk 0 (by omega)]
          simp only [Nat.add_zero]
          refine wk_aload C rfl dX3_move_48 ?_
          refine wk_getiN C (k := 14) (ci := 4) (j := 1) (T := TX4) (host := RX5) rfl (show _ < (256:Nat) by omega) rfl in_c_X3_move_X4 (by decide) (by decide +kernel) rfl dX3_move_50 ?_
          rw [hpk 1 (by omega)]
          simp only [Nat.reduceAdd]
          refine wk_aload C rfl dX3_move_53 ?_
          refine wk_getiN C (k := 14) (ci := 4) (j := 2) (T := TX4) (host := RX5) rfl (show _ < (256:Nat) by omega) rfl in_c_X3_move_X4 (by decide) (by decide +kernel) rfl dX3_move_55 ?_
          rw [hpk 2 (by omega)]
          simp only [Nat.reduceAdd]
          refine wk_aload C rfl dX3_move_58 ?_
          refine wk_getiN C (k := 14) (ci := 4) (j := 3) (T := TX4) (host := RX5) rfl (show _ < (256:Nat) by omega) rfl in_c_X3_move_X4 (by decide) (by decide +kernel) rfl dX3_move_60 ?_
          rw [hpk 3 (by omega)]
          simp only [Nat.reduceAdd]
          refine wk_ofV C (wk_runN (host := RX5) (index := 50) (ci := 2) (st := []) C (c_X2_put l g hI _ (lc_out n i) ho.2.2 (S 20 (4 * lc_in n (ab_pick S (lc_out n i)).toNat)) (S 21 (4 * lc_in n (ab_pick S (lc_out n i)).toNat)) (S 22 (4 * lc_in n (ab_pick S (lc_out n i)).toNat)) (S 23 (4 * lc_in n (ab_pick S (lc_out n i)).toNat)) (hr (lc_out n i) ho.2.2).1 (hr (lc_out n i) ho.2.2).2) ⟨va_cnB 4 C.2.2.2.2.1 gX3_move_X2_put_n50 rfl rfl rfl (C.2.2.2.2.2.1.2 _ (by decide +kernel)) (C.2.2.2.2.1 (.initialized RX2) (by decide +kernel)) (by decide +kernel) ⟨Nat.le_of_ble_eq_true rfl, Nat.le_of_ble_eq_true rfl⟩, C.2.2.2.2.1 (.instanceMethod yX2_put) (by decide +kernel), C.2.2.2.2.1 (.selects RX2 yX2_put yX2_put) (by decide +kernel)⟩ rfl (show _ < (64:Nat) by omega) rfl rfl rfl (Nat.le_of_ble_eq_true rfl) dX3_move_63 ⟨Nat.zero_le _, Nat.zero_le _⟩) (fun σ63 hp63 => ?_)
          subst hp63
          refine wk_aload_n C rfl dX3_move_66 ?_
          refine wk_getr C (k := 15) (ci := 3) (j := 0) (T := TX3) rfl (show _ < (8:Nat) by omega) rfl in_c_X3_move_X3 (by decide) (by decide +kernel) rfl dX3_move_67 ?_
          refine wk_iload_n C rfl dX3_move_70 ?_
          refine wk_aald C (k := 16) rfl rfl (show _ < (8:Nat) by omega) (by omega) ((ab_pick S (lc_out n i)).toNat) (Int.toNat_of_nonneg hpn).symm hplt dX3_move_71 ?_
          refine wk_iload_n C rfl dX3_move_72 ?_
          refine wk_ofV C (wk_runN (host := RX5) (index := 54) (ci := 2) (st := []) C (c_X2_drop l g hI _ (lc_in n (ab_pick S (lc_out n i)).toNat) hq64 sl hs (hr2 (lc_in n (ab_pick S (lc_out n i)).toNat) hq64)) ⟨va_cnB 1 C.2.2.2.2.1 gX3_move_X2_drop_n54 rfl rfl rfl (C.2.2.2.2.2.1.2 _ (by decide +kernel)) (C.2.2.2.2.1 (.initialized RX2) (by decide +kernel)) (by decide +kernel) ⟨Nat.le_of_ble_eq_true rfl, Nat.le_of_ble_eq_true rfl⟩, C.2.2.2.2.1 (.instanceMethod yX2_drop) (by decide +kernel), C.2.2.2.2.1 (.selects RX2 yX2_drop yX2_drop) (by decide +kernel)⟩ rfl (show _ < (64:Nat) by omega) rfl rfl rfl (Nat.le_of_ble_eq_true rfl) dX3_move_73 ⟨Nat.zero_le _, Nat.zero_le _⟩) (fun σ73 hp73 => ?_)
          subst hp73
          refine wk_iinc C rfl (by decide) dX3_move_76 ?_
          refine wk_goto C 2 (by decide) dX3_move_79 ?_
          refine wk_le ?_ (ih (i + 1) _ (by omega) (by omega) hfin)
          repeat (first | exact le_0 | refine le_s ?_ | refine le_n ?_)
  refine wk_le ?_ (hl2 (lc_d n + 1) 0 σ (by omega) (by omega) ⟨hC, hP⟩)
  repeat (first | exact le_0 | refine le_s ?_ | refine le_n ?_)

theorem in_c_X5_moveAll_X5 : ∀ w ∈ u_ws RX5 TX5 13, w ∈ wsX5_moveAll := by decide +kernel
set_option maxRecDepth 100000 in
set_option maxHeartbeats 4000000 in
/-- moveAll -/
theorem c_X5_moveAll (l : Launch) (g : am_g) (hI : am_inj (gC g)) (σ : am_M) (sl : Nat) (hs : sl < 7) (S : ab_S) (b : Int) (hS : ab_I S b) (hC : ab_C (ab_Q S (ab_Yk 48)) σ) (hP : ab_PK S 48 σ) (hsl : sl = ab_T S % 7) : Met l yX5_moveAll wsX5_moveAll ({ frames := 3, cells := 0, slots := 0, locals := 72 }) (am_P (gC g) σ [.inr (0, 0), .inl ((sl : Nat) : Int)]) (am_QV (gC g) (fun σ' => ab_C (ab_MV S 48) σ')) 0 0 (am_FA (gC g)) := by
  refine wk_start (cc := cX5_moveAll) (nL := 3) (ret := none) (own := RX5) (by decide) rfl hI rfl (Nat.le_of_ble_eq_true rfl) ?_
  intro p e s m below meth c C hr hlk
  change wk _ p l e _ s m _ below meth c 0 0 _ _ _ _ 0 [some (.inr (0, 0)), some (.inl ((sl : Nat) : Int)), none] [] σ
  refine wk_iconst C dX5_moveAll_0 ?_
  refine wk_istore_n C (by decide) (Nat.le_of_ble_eq_true rfl) dX5_moveAll_1 ?_
  have hl2 : ∀ (d n : Nat) (σ1 : am_M), 5 ≤ n + d → n ≤ 4 → (ab_C (ab_MV S (8 * n)) σ1 ∧ ab_PK S 48 σ1) → wk (gC g) p l e (headSpec wsX5_moveAll ({ frames := 3, cells := 0, slots := 0, locals := 72 })).room s m ([.inr (0, 0), .inl ((sl : Nat) : Int)].map (am_tv (gC g))).toArray below meth c 0 0 (MQ below (am_QV (gC g) (fun σ' => ab_C (ab_MV S 48) σ')) ([.inr (0, 0), .inl ((sl : Nat) : Int)].map (am_tv (gC g))).toArray s 0 0 (am_FA (gC g))) (am_FA (gC g)) s.heap 3 2 [some (.inr (0, 0)), some (.inl ((sl : Nat) : Int)), some (.inl ((n : Nat) : Int))] [] σ1 := by
    intro d
    induction d with
    | zero => intro n σ1 h1 h2 h3; omega
    | succ d ih =>
      intro n σ1 h1 h2 h3
      refine wk_iload_n C rfl dX5_moveAll_2 ?_
      refine wk_iconst C dX5_moveAll_3 ?_
      refine wk_icmp_ge C 23 (by omega) (by omega) (by decide) dX5_moveAll_4 (fun hc4 => ?_) (fun hc4 => ?_)
      · skip
        refine wk_iconst C dX5_moveAll_23 ?_
        refine wk_istore_n C (by decide) (Nat.le_of_ble_eq_true rfl) dX5_moveAll_24 ?_
        have hl25 : ∀ (d2 n2 : Nat) (σ2 : am_M), 5 ≤ n2 + d2 → n2 ≤ 4 → (ab_C (ab_MV S (32 + 4 * n2)) σ2 ∧ ab_PK S 48 σ2) → wk (gC g) p l e (headSpec wsX5_moveAll ({ frames := 3, cells := 0, slots := 0, locals := 72 })).room s m ([.inr (0, 0), .inl ((sl : Nat) : Int)].map (am_tv (gC g))).toArray below meth c 0 0 (MQ below (am_QV (gC g) (fun σ' => ab_C (ab_MV S 48) σ')) ([.inr (0, 0), .inl ((sl : Nat) : Int)].map (am_tv (gC g))).toArray s 0 0 (am_FA (gC g))) (am_FA (gC g)) s.heap 3 25 [some (.inr (0, 0)), some (.inl ((sl : Nat) : Int)), some (.inl ((n2 : Nat) : Int))] [] σ2 := by
          intro d2
          induction d2 with
          | zero => intro n2 σ2 g1 g2 g3; omega
          | succ d2 ih2 =>
            intro n2 σ2 g1 g2 g3
            refine wk_iload_n C rfl dX5_moveAll_25 ?_
            refine wk_iconst C dX5_moveAll_26 ?_
            refine wk_icmp_ge C 46 (by omega) (by omega) (by decide) dX5_moveAll_27 (fun hc27 => ?_) (fun hc27 => ?_)
            · skip
              refine wk_vret C hr hlk dX5_moveAll_46 ?_
              have h4 : n2 = 4 := by omega
              subst h4
              exact g3.1
            · skip
              have hb : ab_bs (4 + n2) = 16 + 4 * (4 + n2) := by rw [ab_bs, if_neg (by omega)]
              have hd : lc_d (4 + n2) = 4 := by rw [lc_d, if_neg (by omega)]
              have hk : 32 + 4 * n2 = 16 + 4 * (4 + n2) := by omega
              rw [hk] at g3
              refine wk_aload_n C rfl dX5_moveAll_30 ?_
              refine wk_getr C (k := 0) (ci := 5) (j := 6) (T := TX5) rfl (show 0 < (1:Nat) by decide) rfl in_c_X5_moveAll_X5 (by decide) (by decide +kernel) rfl dX5_moveAll_31 ?_
              refine wk_iload_n C rfl dX5_moveAll_34 ?_
              refine wk_aald C (k := 7) rfl rfl (show 0 < (1:Nat) by decide) (Nat.le_of_ble_eq_true rfl) (n2) (by omega) (show _ < (4:Nat) by omega) dX5_moveAll_35 ?_
              refine wk_iload_n C rfl dX5_moveAll_36 ?_
              refine wk_ofV C (wk_runN (host := RX5) (index := 301) (ci := 3) (st := []) C (c_X3_move l g hI _ (4 + n2) sl (by omega) hs S b hS (by rw [hb]; exact g3.1) g3.2 hsl) ⟨va_cnB 1 C.2.2.2.2.1 gX5_moveAll_X3_move_n301 rfl rfl rfl (C.2.2.2.2.2.1.2 _ (by decide +kernel)) (C.2.2.2.2.1 (.initialized RX3) (by decide +kernel)) (by decide +kernel) ⟨Nat.le_of_ble_eq_true rfl, Nat.le_of_ble_eq_true rfl⟩, C.2.2.2.2.1 (.instanceMethod yX3_move) (by decide +kernel), C.2.2.2.2.1 (.selects RX3 yX3_move yX3_move) (by decide +kernel)⟩ rfl (show _ < (8:Nat) by omega) rfl rfl rfl (Nat.le_of_ble_eq_true rfl) dX5_moveAll_37 ⟨Nat.zero_le _, Nat.zero_le _⟩) (fun σ37 hp37 => ?_)
              refine wk_iinc C rfl (by decide) dX5_moveAll_40 ?_
              refine wk_goto C 25 (by decide) dX5_moveAll_43 ?_
              refine ih2 (n2 + 1) _ (by omega) (by omega) ?_
              rw [hb, hd] at hp37
              rw [show 32 + 4 * (n2 + 1) = 16 + 4 * (4 + n2) + 4 by omega]
              exact hp37
        have h4 : n = 4 := by omega
        subst h4
        exact hl25 5 0 _ (by omega) (by omega) h3
      · skip
        have hb : ab_bs n = 8 * n := by rw [ab_bs, if_pos (by omega)]
        have hd : lc_d n = 8 := by rw [lc_d, if_pos (by omega)]
        refine wk_aload_n C rfl dX5_moveAll_7 ?_
        refine wk_getr C (k := 0) (ci := 5) (j := 5) (T := TX5) rfl (show 0 < (1:Nat) by decide) rfl in_c_X5_moveAll_X5 (by decide) (by decide +kernel) rfl dX5_moveAll_8 ?_
        refine wk_iload_n C rfl dX5_moveAll_11 ?_
        refine wk_aald C (k := 6) rfl rfl (show 0 < (1:Nat) by decide) (Nat.le_of_ble_eq_true rfl) (n) (by omega) (show _ < (4:Nat) by omega) dX5_moveAll_12 ?_
        refine wk_iload_n C rfl dX5_moveAll_13 ?_
        refine wk_ofV C (wk_runN (host := RX5) (index := 301) (ci := 3) (st := []) C (c_X3_move l g hI _ n sl (by omega) hs S b hS (by rw [hb]; exact h3.1) h3.2 hsl) ⟨va_cnB 1 C.2.2.2.2.1 gX5_moveAll_X3_move_n301 rfl rfl rfl (C.2.2.2.2.2.1.2 _ (by decide +kernel)) (C.2.2.2.2.1 (.initialized RX3) (by decide +kernel)) (by decide +kernel) ⟨Nat.le_of_ble_eq_true rfl, Nat.le_of_ble_eq_true rfl⟩, C.2.2.2.2.1 (.instanceMethod yX3_move) (by decide +kernel), C.2.2.2.2.1 (.selects RX3 yX3_move yX3_move) (by decide +kernel)⟩ rfl (show _ < (8:Nat) by omega) rfl rfl rfl (Nat.le_of_ble_eq_true rfl) dX5_moveAll_14 ⟨Nat.zero_le _, Nat.zero_le _⟩) (fun σ14 hp14 => ?_)
        refine wk_iinc C rfl (by decide) dX5_moveAll_17 ?_
        refine wk_goto C 2 (by decide) dX5_moveAll_20 ?_
        refine ih (n + 1) _ (by omega) (by omega) ?_
        rw [hb, hd] at hp14
        rw [show 8 * (n + 1) = 8 * n + 8 by omega]
        exact hp14
  exact hl2 5 0 σ (by omega) (by omega) ⟨by rw [Nat.mul_zero, MV_0]; exact hC, hP⟩
