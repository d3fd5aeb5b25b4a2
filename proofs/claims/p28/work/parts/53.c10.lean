theorem in_c_X5_canSend_X0 : ∀ w ∈ u_ws RX0 TX0 13, w ∈ wsX5_canSend := by decide +kernel
theorem in_c_X5_canSend_X1 : ∀ w ∈ u_ws RX1 TX1 4, w ∈ wsX5_canSend := by decide +kernel
theorem in_c_X5_canSend_X5 : ∀ w ∈ u_ws RX5 TX5 13, w ∈ wsX5_canSend := by decide +kernel
set_option maxRecDepth 100000 in
set_option maxHeartbeats 4000000 in
/-- canSend -/
theorem c_X5_canSend (l : Launch) (g : am_g) (hI : am_inj (gC g)) (σ : am_M) (f : Nat) (T : ab_S) (b : Int) (hC : ab_C T σ) (hT : ab_I T b) (hf : (f : Int) < T 19 4) : Met l yX5_canSend wsX5_canSend ({ frames := 2, cells := 0, slots := 0, locals := 40 }) (am_P (gC g) σ [.inr (0, 0), .inr (9, f)]) (am_QI (gC g) (fun r σ' => σ' = σ ∧ r = ab_1 (ab_cs T f))) 0 0 (am_FA (gC g)) := by
  refine wk_start (cc := cX5_canSend) (nL := 2) (ret := (some .boolean)) (own := RX5) (by decide) rfl hI rfl (Nat.le_of_ble_eq_true rfl) ?_
  intro p e s m below meth c C hr hlk
  change wk _ p l e _ s m _ below meth c 0 0 _ _ _ _ 0 [some (.inr (0, 0)), some (.inr (9, f))] [] σ
  have hn24 := hT.2.1.2.2.2.2
  have hc19 := hT.2.1
  have hb1 := hT.1
  have hf24 : f < 24 := by omega
  have hif := hT.2.2.1 f hf
  unfold ab_If at hif
  have hcf : ∀ j, j < 13 → σ 9 f j = T j f := fun j hj => hC.2.1 f j hf hj
  obtain ⟨i0, i1, i2, i3, i4, i5, i6, i7, i8, i9, i10, i11, i12, i13, i14⟩ := hif
  have hla : ((ab_la T f : Nat) : Int) = T 0 f / 4 := Int.toNat_of_nonneg (by omega)
  have hlb : ((ab_lb T f : Nat) : Int) = T 1 f / 4 := Int.toNat_of_nonneg (by omega)
  have hu16 := hT.2.2.2.2.2.1 (T 1 f).toNat (by omega)
  have hur := ab_um_rng T (ab_la T f) (ab_lb T f)
  refine wk_aload_n C rfl dX5_canSend_0 ?_
  refine wk_getiN C (k := 9) (ci := 0) (j := 3) (T := TX0) (host := RX5) rfl (show _ < (24:Nat) by omega) rfl in_c_X5_canSend_X0 (by decide) (by decide +kernel) rfl dX5_canSend_1 ?_
  rw [hcf 3 (by omega)]
  refine wk_aload_n C rfl dX5_canSend_4 ?_
  refine wk_geti C (k := 0) (ci := 5) (j := 9) (T := TX5) rfl (show 0 < (1:Nat) by decide) rfl in_c_X5_canSend_X5 (by decide) (by decide +kernel) rfl dX5_canSend_5 ?_
  rw [hC.1.2.1]
  refine wk_icmp_gt C 18 (by omega) (by omega) (by decide) dX5_canSend_8 (fun hc8 => ?_) (fun hc8 => ?_)
  · skip
    refine wk_iconst C dX5_canSend_18 ?_
    refine wk_zret C hr hlk (by omega) dX5_canSend_19 ?_
    refine ⟨rfl, ?_⟩
    rw [ab_cs]
    first
      | (rw [if_pos hc8]; rfl)
      | (rw [if_neg (by omega), if_pos (by omega)]; rfl)
  · skip
    refine wk_aload_n C rfl dX5_canSend_11 ?_
    refine wk_ofI C (wk_runN (host := RX5) (index := 217) (ci := 0) (st := []) C (c_X0_unsent l g hI _ f hf24) ⟨va_cnB 0 C.2.2.2.2.1 gX5_canSend_X0_unsent_n217 rfl rfl rfl (C.2.2.2.2.2.1.2 _ (by decide +kernel)) (C.2.2.2.2.1 (.initialized RX0) (by decide +kernel)) (by decide +kernel) ⟨Nat.le_of_ble_eq_true rfl, Nat.le_of_ble_eq_true rfl⟩, C.2.2.2.2.1 (.instanceMethod yX0_unsent) (by decide +kernel), C.2.2.2.2.1 (.selects RX0 yX0_unsent yX0_unsent) (by decide +kernel)⟩ rfl (show _ < (24:Nat) by omega) rfl rfl rfl (Nat.le_of_ble_eq_true rfl) dX5_canSend_12 ⟨Nat.zero_le _, Nat.zero_le _⟩) (fun r12 σ12 hp12 => ?_)
    obtain ⟨hsg12, rfl⟩ := hp12
    rw [hsg12]
    rw [hcf 2 (by omega), hcf 4 (by omega), hcf 6 (by omega)]
    refine wk_if_gt C 20 (by omega) (by decide) dX5_canSend_15 (fun hc15 => ?_) (fun hc15 => ?_)
    · skip
      refine wk_aload_n C rfl dX5_canSend_20 ?_
      refine wk_getr C (k := 0) (ci := 5) (j := 1) (T := TX5) rfl (show 0 < (1:Nat) by decide) rfl in_c_X5_canSend_X5 (by decide) (by decide +kernel) rfl dX5_canSend_21 ?_
      refine wk_aload_n C rfl dX5_canSend_24 ?_
      refine wk_getiN C (k := 9) (ci := 0) (j := 1) (T := TX0) (host := RX5) rfl (show _ < (24:Nat) by omega) rfl in_c_X5_canSend_X0 (by decide) (by decide +kernel) rfl dX5_canSend_25 ?_
      rw [hcf 1 (by omega)]
      refine wk_aald C (k := 2) rfl rfl (show 0 < (1:Nat) by decide) (Nat.le_of_ble_eq_true rfl) ((T 1 f).toNat) (Int.toNat_of_nonneg (by omega)).symm (show _ < (16:Nat) by omega) dX5_canSend_28 ?_
      refine wk_getiN C (k := 10) (ci := 1) (j := 2) (T := TX1) (host := RX5) rfl (show _ < (16:Nat) by omega) rfl in_c_X5_canSend_X1 (by decide) (by decide +kernel) rfl dX5_canSend_29 ?_
      rw [(hC.2.2.1 _ (by omega)).1]
      refine wk_aload_n C rfl dX5_canSend_32 ?_
      refine wk_geti C (k := 0) (ci := 5) (j := 12) (T := TX5) rfl (show 0 < (1:Nat) by decide) rfl in_c_X5_canSend_X5 (by decide) (by decide +kernel) rfl dX5_canSend_33 ?_
      rw [hC.1.2.2.2.2]
      refine wk_icmp_lt C 41 (by omega) (by omega) (by decide) dX5_canSend_36 (fun hc36 => ?_) (fun hc36 => ?_)
      · skip
        refine wk_aload_n C rfl dX5_canSend_41 ?_
        refine wk_ofI C (wk_runN (host := RX5) (index := 223) (ci := 0) (st := []) C (c_X0_crossesLeaves l g hI _ f hf24 (by rw [hcf 0 (by omega)]; exact i0) (by rw [hcf 1 (by omega)]; exact i1)) ⟨va_cnB 0 C.2.2.2.2.1 gX5_canSend_X0_crossesLeaves_n223 rfl rfl rfl (C.2.2.2.2.2.1.2 _ (by decide +kernel)) (C.2.2.2.2.1 (.initialized RX0) (by decide +kernel)) (by decide +kernel) ⟨Nat.le_of_ble_eq_true rfl, Nat.le_of_ble_eq_true rfl⟩, C.2.2.2.2.1 (.instanceMethod yX0_crossesLeaves) (by decide +kernel), C.2.2.2.2.1 (.selects RX0 yX0_crossesLeaves yX0_crossesLeaves) (by decide +kernel)⟩ rfl (show _ < (24:Nat) by omega) rfl rfl rfl (Nat.le_of_ble_eq_true rfl) dX5_canSend_42 ⟨Nat.zero_le _, Nat.zero_le _⟩) (fun r42 σ42 hp42 => ?_)
        obtain ⟨hsg42, rfl⟩ := hp42
        rw [hsg42]
        rw [hcf 0 (by omega), hcf 1 (by omega)]
        have hfe : (if T 0 f / 4 = T 1 f / 4 then (0 : Int) else 1) = ab_1 (ab_far T f) := by unfold ab_far ab_1; by_cases q : T 0 f / 4 = T 1 f / 4 <;> simp [q]
        rw [hfe]
        have h1r := ab_1r (ab_far T f)
        refine wk_if_eq C 63 (by omega) (by decide) dX5_canSend_45 (fun hc45 => ?_) (fun hc45 => ?_)
        · skip
          have hnf : ab_far T f = false := by
            cases hz : ab_far T f
            · rfl
            · rw [hz, ab_1t] at hc45; omega
          refine wk_iconst C dX5_canSend_63 ?_
          refine wk_goto C 68 (by decide) dX5_canSend_64 ?_
          refine wk_zret C hr hlk (by omega) dX5_canSend_68 ?_
          refine ⟨rfl, ?_⟩
          rw [ab_cs, if_neg (by omega), if_neg (by omega), if_neg (by omega)]
          first
            | (rw [if_pos hnf]; rfl)
            | (rw [if_neg hfr, if_pos hc60]; rfl)
            | (rw [if_neg hfr, if_neg hc60]; rfl)
        · skip
          have hfr : ¬ ab_far T f = false := fun z => hc45 (by rw [z, ab_1f])
          refine wk_aload_n C rfl dX5_canSend_48 ?_
          refine wk_aload_n C rfl dX5_canSend_49 ?_
          refine wk_ofI C (wk_runN (host := RX5) (index := 227) (ci := 0) (st := [_]) C (c_X0_sourceLeaf l g hI _ f hf24 (by rw [hcf 0 (by omega)]; exact i0)) ⟨va_cnB 0 C.2.2.2.2.1 gX5_canSend_X0_sourceLeaf_n227 rfl rfl rfl (C.2.2.2.2.2.1.2 _ (by decide +kernel)) (C.2.2.2.2.1 (.initialized RX0) (by decide +kernel)) (by decide +kernel) ⟨Nat.le_of_ble_eq_true rfl, Nat.le_of_ble_eq_true rfl⟩, C.2.2.2.2.1 (.instanceMethod yX0_sourceLeaf) (by decide +kernel), C.2.2.2.2.1 (.selects RX0 yX0_sourceLeaf yX0_sourceLeaf) (by decide +kernel)⟩ rfl (show _ < (24:Nat) by omega) rfl rfl rfl (Nat.le_of_ble_eq_true rfl) dX5_canSend_50 ⟨Nat.zero_le _, Nat.zero_le _⟩) (fun r50 σ50 hp50 => ?_)
          obtain ⟨hsg50, rfl⟩ := hp50
          rw [hsg50]
          rw [hcf 0 (by omega), ← hla]
          refine wk_aload_n C rfl dX5_canSend_53 ?_
          refine wk_ofI C (wk_runN (host := RX5) (index := 230) (ci := 0) (st := [_, _]) C (c_X0_targetLeaf l g hI _ f hf24 (by rw [hcf 1 (by omega)]; exact i1)) ⟨va_cnB 0 C.2.2.2.2.1 gX5_canSend_X0_targetLeaf_n230 rfl rfl rfl (C.2.2.2.2.2.1.2 _ (by decide +kernel)) (C.2.2.2.2.1 (.initialized RX0) (by decide +kernel)) (by decide +kernel) ⟨Nat.le_of_ble_eq_true rfl, Nat.le_of_ble_eq_true rfl⟩, C.2.2.2.2.1 (.instanceMethod yX0_targetLeaf) (by decide +kernel), C.2.2.2.2.1 (.selects RX0 yX0_targetLeaf yX0_targetLeaf) (by decide +kernel)⟩ rfl (show _ < (24:Nat) by omega) rfl rfl rfl (Nat.le_of_ble_eq_true rfl) dX5_canSend_54 ⟨Nat.zero_le _, Nat.zero_le _⟩) (fun r54 σ54 hp54 => ?_)
          obtain ⟨hsg54, rfl⟩ := hp54
          rw [hsg54]
          rw [hcf 1 (by omega), ← hlb]
          refine wk_ofI C (wk_runV (index := 193) (ci := 5) (st := []) C (c_X5_usableSpines l g hI _ (ab_la T f) (ab_lb T f) (by omega) (by omega) T b hC hT) (cwV 2 C.2.2.2.2.1 gX5_canSend_X5_usableSpines rfl rfl rfl (by decide +kernel) ⟨Nat.le_of_ble_eq_true rfl, Nat.le_of_ble_eq_true rfl⟩) rfl (show 0 < (1:Nat) by decide) rfl rfl rfl (Nat.le_of_ble_eq_true rfl) dX5_canSend_57 ⟨Nat.zero_le _, Nat.zero_le _⟩) (fun r57 σ57 hp57 => ?_)
          obtain ⟨hsg57, rfl⟩ := hp57
          rw [hsg57]
          refine wk_if_eq C 67 (by omega) (by decide) dX5_canSend_60 (fun hc60 => ?_) (fun hc60 => ?_)
          · skip
            refine wk_iconst C dX5_canSend_67 ?_
            refine wk_zret C hr hlk (by omega) dX5_canSend_68 ?_
            refine ⟨rfl, ?_⟩
            rw [ab_cs, if_neg (by omega), if_neg (by omega), if_neg (by omega)]
            first
              | (rw [if_pos hnf]; rfl)
              | (rw [if_neg hfr, if_pos hc60]; rfl)
              | (rw [if_neg hfr, if_neg hc60]; rfl)
          · skip
            refine wk_iconst C dX5_canSend_63 ?_
            refine wk_goto C 68 (by decide) dX5_canSend_64 ?_
            refine wk_zret C hr hlk (by omega) dX5_canSend_68 ?_
            refine ⟨rfl, ?_⟩
            rw [ab_cs, if_neg (by omega), if_neg (by omega), if_neg (by omega)]
            first
              | (rw [if_pos hnf]; rfl)
              | (rw [if_neg hfr, if_pos hc60]; rfl)
              | (rw [if_neg hfr, if_neg hc60]; rfl)
      · skip
        refine wk_iconst C dX5_canSend_39 ?_
        refine wk_zret C hr hlk (by omega) dX5_canSend_40 ?_
        refine ⟨rfl, ?_⟩
        rw [ab_cs, if_neg (by omega), if_neg (by omega), if_pos (by omega)]; rfl
    · skip
      refine wk_iconst C dX5_canSend_18 ?_
      refine wk_zret C hr hlk (by omega) dX5_canSend_19 ?_
      refine ⟨rfl, ?_⟩
      rw [ab_cs]
      first
        | (rw [if_pos hc8]; rfl)
        | (rw [if_neg (by omega), if_pos (by omega)]; rfl)

theorem in_c_X5_pickedFlow_X0 : ∀ w ∈ u_ws RX0 TX0 13, w ∈ wsX5_pickedFlow := by decide +kernel
theorem in_c_X5_pickedFlow_X5 : ∀ w ∈ u_ws RX5 TX5 13, w ∈ wsX5_pickedFlow := by decide +kernel
set_option maxRecDepth 100000 in
set_option maxHeartbeats 4000000 in
/-- pickedFlow -/
theorem c_X5_pickedFlow (l : Launch) (g : am_g) (hI : am_inj (gC g)) (σ : am_M) (h : Nat) (last : Int) (hh : h < 16) (hl : -1 ≤ last ∧ last < 24) (T : ab_S) (b : Int) (hC : ab_C T σ) (hT : ab_I T b) : Met l yX5_pickedFlow wsX5_pickedFlow ({ frames := 3, cells := 0, slots := 0, locals := 61 }) (am_P (gC g) σ [.inr (0, 0), .inl ((h : Nat) : Int), .inl (last)]) (am_QI (gC g) (fun r σ' => σ' = σ ∧ r = ab_pf T h last)) 0 0 (am_FA (gC g)) := by
  refine wk_start (cc := cX5_pickedFlow) (nL := 5) (ret := (some .int)) (own := RX5) (by decide) rfl hI rfl (Nat.le_of_ble_eq_true rfl) ?_
  intro p e s m below meth c C hr hlk
  change wk _ p l e _ s m _ below meth c 0 0 _ _ _ _ 0 [some (.inr (0, 0)), some (.inl ((h : Nat) : Int)), some (.inl (last)), none, none] [] σ
  have hn24 := hT.2.1.2.2.2.2
  obtain ⟨n, hn⟩ : ∃ n : Nat, n = (T 19 4).toNat := ⟨_, rfl⟩
  refine wk_iconst C dX5_pickedFlow_0 ?_
  refine wk_istore_n C (by decide) (Nat.le_of_ble_eq_true rfl) dX5_pickedFlow_1 ?_
  have hl2 : ∀ (d v : Nat), n + 2 ≤ v + d → 1 ≤ v → v ≤ n + 1 → ab_scan (fun s => ab_may T (T 16) ((last + (s : Int)) % T 19 4).toNat h) 1 (T 19 4).toNat = ab_scan (fun s => ab_may T (T 16) ((last + (s : Int)) % T 19 4).toNat h) v (n + 1 - v) → wk (gC g) p l e (headSpec wsX5_pickedFlow ({ frames := 3, cells := 0, slots := 0, locals := 61 })).room s m ([.inr (0, 0), .inl ((h : Nat) : Int), .inl (last)].map (am_tv (gC g))).toArray below meth c 0 0 (MQ below (am_QI (gC g) (fun r σ' => σ' = σ ∧ r = ab_pf T h last)) ([.inr (0, 0), .inl ((h : Nat) : Int), .inl (last)].map (am_tv (gC g))).toArray s 0 0 (am_FA (gC g))) (am_FA (gC g)) s.heap 5 2 [some (.inr (0, 0)), some (.inl ((h : Nat) : Int)), some (.inl (last)), some (.inl ((v : Nat) : Int)), none] [] σ := by
    intro d
    induction d with
    | zero => intro v hid hi1 hi2 hf; omega
    | succ d ih =>
      intro v hid hi1 hi2 hf
      refine wk_iload_n C rfl dX5_pickedFlow_2 ?_
      refine wk_aload_n C rfl dX5_pickedFlow_3 ?_
      refine wk_geti C (k := 0) (ci := 5) (j := 8) (T := TX5) rfl (show 0 < (1:Nat) by decide) rfl in_c_X5_pickedFlow_X5 (by decide) (by decide +kernel) rfl dX5_pickedFlow_4 ?_
      rw [hC.1.1]
      refine wk_icmp_gt C 57 (by omega) (by omega) (by decide) dX5_pickedFlow_7 (fun hc7 => ?_) (fun hc7 => ?_)
      · skip
        refine wk_iconst C dX5_pickedFlow_57 ?_
        refine wk_iret C hr hlk dX5_pickedFlow_58 ?_
        exact ⟨rfl, (pf_none (by omega) hf).symm⟩
      · skip
        refine wk_iload_n C rfl dX5_pickedFlow_10 ?_
        refine wk_iload_n C rfl dX5_pickedFlow_11 ?_
        refine wk_iadd C dX5_pickedFlow_12 ?_
        refine wk_aload_n C rfl dX5_pickedFlow_13 ?_
        refine wk_geti C (k := 0) (ci := 5) (j := 8) (T := TX5) rfl (show 0 < (1:Nat) by decide) rfl in_c_X5_pickedFlow_X5 (by decide) (by decide +kernel) rfl dX5_pickedFlow_14 ?_
        rw [hC.1.1]
        refine wk_irem C (by omega) (by omega) dX5_pickedFlow_17 ?_
        have hm1 := Int.emod_nonneg (last + (v : Int)) (b := T 19 4) (by omega)
        have hm2 := Int.emod_lt_of_pos (last + (v : Int)) (b := T 19 4) (by omega)
        have hcf0 := hC.2.1 ((last + (v : Int)) % T 19 4).toNat 0 (by omega) (by omega)
        have hif := hT.2.2.1 ((last + (v : Int)) % T 19 4).toNat (by omega)
        have hif0 := hif.1
        have hmc := may_cs T ((last + (v : Int)) % T 19 4).toNat h
        refine wk_istore C (by decide) (Nat.le_of_ble_eq_true rfl) dX5_pickedFlow_18 ?_
        refine wk_aload_n C rfl dX5_pickedFlow_20 ?_
        refine wk_getr C (k := 0) (ci := 5) (j := 0) (T := TX5) rfl (show 0 < (1:Nat) by decide) rfl in_c_X5_pickedFlow_X5 (by decide) (by decide +kernel) rfl dX5_pickedFlow_21 ?_
        refine wk_iload C rfl dX5_pickedFlow_24 ?_
        refine wk_aald C (k := 1) rfl rfl (show 0 < (1:Nat) by decide) (Nat.le_of_ble_eq_true rfl) (((last + (v : Int)) % T 19 4).toNat) (Int.toNat_of_nonneg hm1).symm (show _ < (24:Nat) by omega) dX5_pickedFlow_26 ?_
        refine wk_getiN C (k := 9) (ci := 0) (j := 0) (T := TX0) (host := RX5) rfl (show _ < (24:Nat) by omega) rfl in_c_X5_pickedFlow_X0 (by decide) (by decide +kernel) rfl dX5_pickedFlow_27 ?_
        rw [hcf0]
        refine wk_iload_n C rfl dX5_pickedFlow_30 ?_
        refine wk_icmp_ne C 51 (by omega) (by omega) (by decide) dX5_pickedFlow_31 (fun hc31 => ?_) (fun hc31 => ?_)
        · skip
          have hno : ab_may T (T 16) ((last + (v : Int)) % T 19 4).toNat h = false := by rw [hmc, decide_eq_false hc31]; rfl
          refine wk_iinc C rfl (by decide) dX5_pickedFlow_51 ?_
          refine wk_goto C 2 (by decide) dX5_pickedFlow_54 ?_
          refine wk_le ?_ (ih (v + 1) (by omega) (by omega) (by omega) ((pf_step (by omega) hf).2 hno))
          repeat (first | exact le_0 | refine le_s ?_ | refine le_n ?_)
        · skip
          refine wk_aload_n C rfl dX5_pickedFlow_34 ?_
          refine wk_aload_n C rfl dX5_pickedFlow_35 ?_
          refine wk_getr C (k := 0) (ci := 5) (j := 0) (T := TX5) rfl (show 0 < (1:Nat) by decide) rfl in_c_X5_pickedFlow_X5 (by decide) (by decide +kernel) rfl dX5_pickedFlow_36 ?_
          refine wk_iload C rfl dX5_pickedFlow_39 ?_
          refine wk_aald C (k := 1) rfl rfl (show 0 < (1:Nat) by decide) (Nat.le_of_ble_eq_true rfl) (((last + (v : Int)) % T 19 4).toNat) (Int.toNat_of_nonneg hm1).symm (show _ < (24:Nat) by omega) dX5_pickedFlow_41 ?_
          refine wk_ofI C (wk_runV (index := 314) (ci := 5) (st := []) C (c_X5_canSend l g hI _ ((last + (v : Int)) % T 19 4).toNat T b hC hT (by omega)) (cwV 1 C.2.2.2.2.1 gX5_pickedFlow_X5_canSend rfl rfl rfl (by decide +kernel) ⟨Nat.le_of_ble_eq_true rfl, Nat.le_of_ble_eq_true rfl⟩) rfl (show 0 < (1:Nat) by decide) rfl rfl rfl (Nat.le_of_ble_eq_true rfl) dX5_pickedFlow_42 ⟨Nat.zero_le _, Nat.zero_le _⟩) (fun r42 σ42 hp42 => ?_)
          obtain ⟨hsg42, rfl⟩ := hp42
          rw [hsg42]
          have h1r := ab_1r (ab_cs T ((last + (v : Int)) % T 19 4).toNat)
          refine wk_if_eq C 51 (by omega) (by decide) dX5_pickedFlow_45 (fun hc45 => ?_) (fun hc45 => ?_)
          · skip
            have hno : ab_may T (T 16) ((last + (v : Int)) % T 19 4).toNat h = false := by
              rw [hmc]
              cases hz : ab_cs T ((last + (v : Int)) % T 19 4).toNat
              · simp
              · rw [hz, ab_1t] at hc45; omega
            refine wk_iinc C rfl (by decide) dX5_pickedFlow_51 ?_
            refine wk_goto C 2 (by decide) dX5_pickedFlow_54 ?_
            refine wk_le ?_ (ih (v + 1) (by omega) (by omega) (by omega) ((pf_step (by omega) hf).2 hno))
            repeat (first | exact le_0 | refine le_s ?_ | refine le_n ?_)
          · skip
            have hyes : ab_may T (T 16) ((last + (v : Int)) % T 19 4).toNat h = true := by
              rw [hmc]
              cases hz : ab_cs T ((last + (v : Int)) % T 19 4).toNat
              · rw [hz, ab_1f] at hc45; omega
              · rw [decide_eq_true (by omega)]; rfl
            refine wk_iload C rfl dX5_pickedFlow_48 ?_
            refine wk_iret C hr hlk dX5_pickedFlow_50 ?_
            exact ⟨rfl, ((pf_step (by omega) hf).1 hyes).symm⟩
  refine wk_le ?_ (hl2 (n + 1) 1 (by omega) (by omega) (by omega) (by rw [hn]; rfl))
  repeat (first | exact le_0 | refine le_s ?_ | refine le_n ?_)

theorem in_c_X5_needsFlowlet_X0 : ∀ w ∈ u_ws RX0 TX0 13, w ∈ wsX5_needsFlowlet := by decide +kernel
theorem in_c_X5_needsFlowlet_X5 : ∀ w ∈ u_ws RX5 TX5 13, w ∈ wsX5_needsFlowlet := by decide +kernel
set_option maxRecDepth 100000 in
set_option maxHeartbeats 4000000 in
/-- needsFlowlet -/
theorem c_X5_needsFlowlet (l : Launch) (g : am_g) (hI : am_inj (gC g)) (σ : am_M) (f : Nat) (T : ab_S) (b : Int) (hC : ab_C T σ) (hT : ab_I T b) (hf : (f : Int) < T 19 4) (hfar : ab_far T f = true) : Met l yX5_needsFlowlet wsX5_needsFlowlet ({ frames := 2, cells := 0, slots := 0, locals := 45 }) (am_P (gC g) σ [.inr (0, 0), .inr (9, f)]) (am_QI (gC g) (fun r σ' => σ' = σ ∧ r = ab_1 (ab_new T f))) 0 0 (am_FA (gC g)) := by
  refine wk_start (cc := cX5_needsFlowlet) (nL := 2) (ret := (some .boolean)) (own := RX5) (by decide) rfl hI rfl (Nat.le_of_ble_eq_true rfl) ?_
  intro p e s m below meth c C hr hlk
  change wk _ p l e _ s m _ below meth c 0 0 _ _ _ _ 0 [some (.inr (0, 0)), some (.inr (9, f))] [] σ
  have hn24 := hT.2.1.2.2.2.2
  have hc19 := hT.2.1
  have hb1 := hT.1
  have hf24 : f < 24 := by omega
  have hif := hT.2.2.1 f hf
  unfold ab_If at hif
  have hcf : ∀ j, j < 13 → σ 9 f j = T j f := fun j hj => hC.2.1 f j hf hj
  obtain ⟨i0, i1, i2, i3, i4, i5, i6, i7, i8, i9, i10, i11, i12, i13, i14⟩ := hif
  have hla : ((ab_la T f : Nat) : Int) = T 0 f / 4 := Int.toNat_of_nonneg (by omega)
  have hlb : ((ab_lb T f : Nat) : Int) = T 1 f / 4 := Int.toNat_of_nonneg (by omega)
  have hnc := ab_new_cs T f hfar
  have i13 := i13 hfar
  refine wk_aload_n C rfl dX5_needsFlowlet_0 ?_
  refine wk_getiN C (k := 9) (ci := 0) (j := 10) (T := TX0) (host := RX5) rfl (show _ < (24:Nat) by omega) rfl in_c_X5_needsFlowlet_X0 (by decide) (by decide +kernel) rfl dX5_needsFlowlet_1 ?_
  rw [hcf 10 (by omega)]
  refine wk_if_eq C 42 (by omega) (by decide) dX5_needsFlowlet_4 (fun hc4 => ?_) (fun hc4 => ?_)
  · skip
    have hnew := hnc.1 hc4
    refine wk_iconst C dX5_needsFlowlet_42 ?_
    refine wk_goto C 47 (by decide) dX5_needsFlowlet_43 ?_
    refine wk_zret C hr hlk (by omega) dX5_needsFlowlet_47 ?_
    exact ⟨rfl, by rw [hnew]; rfl⟩
  · skip
    have h11n : T 11 f = (((T 11 f).toNat : Nat) : Int) := (Int.toNat_of_nonneg (i13.2 (by omega))).symm
    refine wk_aload_n C rfl dX5_needsFlowlet_7 ?_
    refine wk_geti C (k := 0) (ci := 5) (j := 9) (T := TX5) rfl (show 0 < (1:Nat) by decide) rfl in_c_X5_needsFlowlet_X5 (by decide) (by decide +kernel) rfl dX5_needsFlowlet_8 ?_
    rw [hC.1.2.1]
    refine wk_aload_n C rfl dX5_needsFlowlet_11 ?_
    refine wk_getiN C (k := 9) (ci := 0) (j := 12) (T := TX0) (host := RX5) rfl (show _ < (24:Nat) by omega) rfl in_c_X5_needsFlowlet_X0 (by decide) (by decide +kernel) rfl dX5_needsFlowlet_12 ?_
    rw [hcf 12 (by omega)]
    refine wk_isub C dX5_needsFlowlet_15 ?_
    refine wk_aload_n C rfl dX5_needsFlowlet_16 ?_
    refine wk_geti C (k := 0) (ci := 5) (j := 11) (T := TX5) rfl (show 0 < (1:Nat) by decide) rfl in_c_X5_needsFlowlet_X5 (by decide) (by decide +kernel) rfl dX5_needsFlowlet_17 ?_
    rw [hC.1.2.2.2.1]
    refine wk_icmp_gt C 42 (by omega) (by omega) (by decide) dX5_needsFlowlet_20 (fun hc20 => ?_) (fun hc20 => ?_)
    · skip
      have hnew := hnc.2.1 hc20
      refine wk_iconst C dX5_needsFlowlet_42 ?_
      refine wk_goto C 47 (by decide) dX5_needsFlowlet_43 ?_
      refine wk_zret C hr hlk (by omega) dX5_needsFlowlet_47 ?_
      exact ⟨rfl, by rw [hnew]; rfl⟩
    · skip
      refine wk_aload_n C rfl dX5_needsFlowlet_23 ?_
      refine wk_aload_n C rfl dX5_needsFlowlet_24 ?_
      refine wk_getiN C (k := 9) (ci := 0) (j := 11) (T := TX0) (host := RX5) rfl (show _ < (24:Nat) by omega) rfl in_c_X5_needsFlowlet_X0 (by decide) (by decide +kernel) rfl dX5_needsFlowlet_25 ?_
      rw [hcf 11 (by omega), h11n]
      refine wk_aload_n C rfl dX5_needsFlowlet_28 ?_
      refine wk_ofI C (wk_runN (host := RX5) (index := 227) (ci := 0) (st := [_, _]) C (c_X0_sourceLeaf l g hI _ f hf24 (by rw [hcf 0 (by omega)]; exact i0)) ⟨va_cnB 0 C.2.2.2.2.1 gX5_needsFlowlet_X0_sourceLeaf_n227 rfl rfl rfl (C.2.2.2.2.2.1.2 _ (by decide +kernel)) (C.2.2.2.2.1 (.initialized RX0) (by decide +kernel)) (by decide +kernel) ⟨Nat.le_of_ble_eq_true rfl, Nat.le_of_ble_eq_true rfl⟩, C.2.2.2.2.1 (.instanceMethod yX0_sourceLeaf) (by decide +kernel), C.2.2.2.2.1 (.selects RX0 yX0_sourceLeaf yX0_sourceLeaf) (by decide +kernel)⟩ rfl (show _ < (24:Nat) by omega) rfl rfl rfl (Nat.le_of_ble_eq_true rfl) dX5_needsFlowlet_29 ⟨Nat.zero_le _, Nat.zero_le _⟩) (fun r29 σ29 hp29 => ?_)
      obtain ⟨hsg29, rfl⟩ := hp29
      rw [hsg29]
      rw [hcf 0 (by omega), ← hla]
      refine wk_aload_n C rfl dX5_needsFlowlet_32 ?_
      refine wk_ofI C (wk_runN (host := RX5) (index := 230) (ci := 0) (st := [_, _, _]) C (c_X0_targetLeaf l g hI _ f hf24 (by rw [hcf 1 (by omega)]; exact i1)) ⟨va_cnB 0 C.2.2.2.2.1 gX5_needsFlowlet_X0_targetLeaf_n230 rfl rfl rfl (C.2.2.2.2.2.1.2 _ (by decide +kernel)) (C.2.2.2.2.1 (.initialized RX0) (by decide +kernel)) (by decide +kernel) ⟨Nat.le_of_ble_eq_true rfl, Nat.le_of_ble_eq_true rfl⟩, C.2.2.2.2.1 (.instanceMethod yX0_targetLeaf) (by decide +kernel), C.2.2.2.2.1 (.selects RX0 yX0_targetLeaf yX0_targetLeaf) (by decide +kernel)⟩ rfl (show _ < (24:Nat) by omega) rfl rfl rfl (Nat.le_of_ble_eq_true rfl) dX5_needsFlowlet_33 ⟨Nat.zero_le _, Nat.zero_le _⟩) (fun r33 σ33 hp33 => ?_)
      obtain ⟨hsg33, rfl⟩ := hp33
      rw [hsg33]
      rw [hcf 1 (by omega), ← hlb]
      refine wk_ofI C (wk_runV (index := 286) (ci := 5) (st := []) C (c_X5_isUsable l g hI _ (T 11 f).toNat (ab_la T f) (ab_lb T f) (by omega) (by omega) (by omega) T b hC hT) (cwV 3 C.2.2.2.2.1 gX5_needsFlowlet_X5_isUsable rfl rfl rfl (by decide +kernel) ⟨Nat.le_of_ble_eq_true rfl, Nat.le_of_ble_eq_true rfl⟩) rfl (show 0 < (1:Nat) by decide) rfl rfl rfl (Nat.le_of_ble_eq_true rfl) dX5_needsFlowlet_36 ⟨Nat.zero_le _, Nat.zero_le _⟩) (fun r36 σ36 hp36 => ?_)
      obtain ⟨hsg36, rfl⟩ := hp36
      rw [hsg36]
      have h1r := ab_1r (ab_us T (ab_la T f) (ab_lb T f) (T 11 f).toNat)
      refine wk_if_ne C 46 (by omega) (by decide) dX5_needsFlowlet_39 (fun hc39 => ?_) (fun hc39 => ?_)
      · skip
        have hnew := hnc.2.2.2 hc4 (by omega) (by
          cases hz : ab_us T (ab_la T f) (ab_lb T f) (T 11 f).toNat
          · rw [hz, ab_1f] at hc39; omega
          · rfl)
        refine wk_iconst C dX5_needsFlowlet_46 ?_
        refine wk_zret C hr hlk (by omega) dX5_needsFlowlet_47 ?_
        exact ⟨rfl, by rw [hnew]; rfl⟩
      · skip
        have hnew := hnc.2.2.1 (by
          cases hz : ab_us T (ab_la T f) (ab_lb T f) (T 11 f).toNat
          · rfl
          · rw [hz, ab_1t] at hc39; omega)
        refine wk_iconst C dX5_needsFlowlet_42 ?_
        refine wk_goto C 47 (by decide) dX5_needsFlowlet_43 ?_
        refine wk_zret C hr hlk (by omega) dX5_needsFlowlet_47 ?_
        exact ⟨rfl, by rw [hnew]; rfl⟩

theorem in_c_X5_send_X0 : ∀ w ∈ u_ws RX0 TX0 13, w ∈ wsX5_send := by decide +kernel
theorem in_c_X5_send_X1 : ∀ w ∈ u_ws RX1 TX1 4, w ∈ wsX5_send := by decide +kernel
theorem in_c_X5_send_X5 : ∀ w ∈ u_ws RX5 TX5 13, w ∈ wsX5_send := by decide +kernel
set_option maxRecDepth 100000 in
set_option maxHeartbeats 4000000 in
/-- send -/
theorem c_X5_send (l : Launch) (g : am_g) (hI : am_inj (gC g)) (σ : am_M) (f h : Nat) (hh : h < 16) (T : ab_S) (b : Int) (hC : ab_C T σ) (hT : ab_I T b) (hf : (f : Int) < T 19 4) (hn : T 14 h < 4) (hmn : ab_far T f = true → ¬ ab_many T (ab_la T f) (ab_lb T f) = 0) : Met l yX5_send wsX5_send ({ frames := 3, cells := 0, slots := 0, locals := 66 }) (am_P (gC g) σ [.inr (0, 0), .inl ((f : Nat) : Int), .inr (11, h)]) (am_QV (gC g) (fun σ' => ab_C (ab_snd T f h) σ')) 0 0 (am_FA (gC g)) := by
  refine wk_start (cc := cX5_send) (nL := 4) (ret := none) (own := RX5) (by decide) rfl hI rfl (Nat.le_of_ble_eq_true rfl) ?_
  intro p e s m below meth c C hr hlk
  change wk _ p l e _ s m _ below meth c 0 0 _ _ _ _ 0 [some (.inr (0, 0)), some (.inl ((f : Nat) : Int)), some (.inr (11, h)), none] [] σ
  have hn24 := hT.2.1.2.2.2.2
  have hc19 := hT.2.1
  have hb1 := hT.1
  have hf24 : f < 24 := by omega
  have hif := hT.2.2.1 f hf
  unfold ab_If at hif
  have hcf : ∀ j, j < 13 → σ 9 f j = T j f := fun j hj => hC.2.1 f j hf hj
  obtain ⟨i0, i1, i2, i3, i4, i5, i6, i7, i8, i9, i10, i11, i12, i13, i14⟩ := hif
  have hla : ((ab_la T f : Nat) : Int) = T 0 f / 4 := Int.toNat_of_nonneg (by omega)
  have hlb : ((ab_lb T f : Nat) : Int) = T 1 f / 4 := Int.toNat_of_nonneg (by omega)
  have hs4 : ∀ L, L < 64 → 0 ≤ T 14 L ∧ T 14 L ≤ 4 := fun L hL => ⟨(hT.s4 hL).1, (hT.s4 hL).2.1⟩
  have hu16 := hT.2.2.2.2.2.1 (T 1 f).toNat (by omega)
  have cN := C_Na hC hf
  have hfinal := C_snd hC hf hh hs4 hn
  have h4h := hs4 h (by omega)
  have hNo : ∀ k i j : Nat, ¬ (k = 9 ∧ (j = 10 ∨ j = 11)) → lk_Na T σ f k i j = σ k i j := fun k i j q => by
    unfold lk_Na
    split
    · rw [am_up_app, if_neg (by omega), am_up_app, if_neg (by omega)]
    · rfl
  have hj45 : ∀ σa : am_M, σa = lk_Na T σ f → wk (gC g) p l e (headSpec wsX5_send ({ frames := 3, cells := 0, slots := 0, locals := 66 })).room s m ([.inr (0, 0), .inl ((f : Nat) : Int), .inr (11, h)].map (am_tv (gC g))).toArray below meth c 0 0 (MQ below (am_QV (gC g) (fun σ' => ab_C (ab_snd T f h) σ')) ([.inr (0, 0), .inl ((f : Nat) : Int), .inr (11, h)].map (am_tv (gC g))).toArray s 0 0 (am_FA (gC g))) (am_FA (gC g)) s.heap 4 45 [some (.inr (0, 0)), some (.inl ((f : Nat) : Int)), some (.inr (11, h)), some (.inr (9, f))] [] σa := by
    intro σa hσa
    subst hσa
    refine wk_aload_n C rfl dX5_send_45 ?_
    refine wk_iload_n C rfl dX5_send_46 ?_
    refine wk_aload_n C rfl dX5_send_47 ?_
    refine wk_getiN C (k := 9) (ci := 0) (j := 4) (T := TX0) (host := RX5) rfl (show _ < (24:Nat) by omega) rfl in_c_X5_send_X0 (by decide) (by decide +kernel) rfl dX5_send_48 ?_
    rw [cN.2.1 f 4 (by rw [Na_o _ _ _ (by omega)]; exact hf) (by omega), Na_o _ _ _ (by omega)]
    refine wk_aload_n C rfl dX5_send_51 ?_
    refine wk_getiN C (k := 9) (ci := 0) (j := 10) (T := TX0) (host := RX5) rfl (show _ < (24:Nat) by omega) rfl in_c_X5_send_X0 (by decide) (by decide +kernel) rfl dX5_send_52 ?_
    rw [cN.2.1 f 10 (by rw [Na_o _ _ _ (by omega)]; exact hf) (by omega), Na_10]
    refine wk_iconst C dX5_send_55 ?_
    refine wk_isub C dX5_send_56 ?_
    refine wk_aload_n C rfl dX5_send_57 ?_
    refine wk_getiN C (k := 9) (ci := 0) (j := 11) (T := TX0) (host := RX5) rfl (show _ < (24:Nat) by omega) rfl in_c_X5_send_X0 (by decide) (by decide +kernel) rfl dX5_send_58 ?_
    rw [cN.2.1 f 11 (by rw [Na_o _ _ _ (by omega)]; exact hf) (by omega), Na_11]
    refine wk_ofV C (wk_runN (host := RX5) (index := 324) (ci := 2) (st := []) C (c_X2_put l g hI _ h (by omega) (f : Int) (T 4 f) (T 10 f + ab_1 (ab_new T f) - 1) (ab_pk T f 3) (cN.2.2.2.1 h (by omega)).2.2.1 (by rw [(cN.2.2.2.1 h (by omega)).1, Na_o _ _ _ (by omega)]; exact h4h)) ⟨va_cnB 4 C.2.2.2.2.1 gX5_send_X2_put_n324 rfl rfl rfl (C.2.2.2.2.2.1.2 _ (by decide +kernel)) (C.2.2.2.2.1 (.initialized RX2) (by decide +kernel)) (by decide +kernel) ⟨Nat.le_of_ble_eq_true rfl, Nat.le_of_ble_eq_true rfl⟩, C.2.2.2.2.1 (.instanceMethod yX2_put) (by decide +kernel), C.2.2.2.2.1 (.selects RX2 yX2_put yX2_put) (by decide +kernel)⟩ rfl (show _ < (64:Nat) by omega) rfl rfl rfl (Nat.le_of_ble_eq_true rfl) dX5_send_61 ⟨Nat.zero_le _, Nat.zero_le _⟩) (fun σ61 hp61 => ?_)
    subst hp61
    refine wk_aload_n C rfl dX5_send_64 ?_
    refine wk_dup C dX5_send_65 ?_
    refine wk_getiN C (k := 9) (ci := 0) (j := 4) (T := TX0) (host := RX5) rfl (show _ < (24:Nat) by omega) rfl in_c_X5_send_X0 (by decide) (by decide +kernel) rfl dX5_send_66 ?_
    rw [lk_put_o _ _ _ _ _ _ _ _ (by omega), hNo _ _ _ (by omega), hcf 4 (by omega)]
    refine wk_iconst C dX5_send_69 ?_
    refine wk_iadd C dX5_send_70 ?_
    refine wk_putN C (k := 9) (ci := 0) (j := 4) (T := TX0) (host := RX5) rfl (show _ < (24:Nat) by omega) rfl in_c_X5_send_X0 tyX0 tyX0_ok nmX0 (by decide) (by decide +kernel) rfl rfl (by decide +kernel) dX5_send_71 ?_
    refine wk_aload_n C rfl dX5_send_74 ?_
    refine wk_aload_n C rfl dX5_send_75 ?_
    refine wk_geti C (k := 0) (ci := 5) (j := 9) (T := TX5) rfl (show 0 < (1:Nat) by decide) rfl in_c_X5_send_X5 (by decide) (by decide +kernel) rfl dX5_send_76 ?_
    rw [am_up_app, if_neg (by omega), lk_put_o _ _ _ _ _ _ _ _ (by omega), hNo _ _ _ (by omega), hC.1.2.1]
    refine wk_putN C (k := 9) (ci := 0) (j := 12) (T := TX0) (host := RX5) rfl (show _ < (24:Nat) by omega) rfl in_c_X5_send_X0 tyX0 tyX0_ok nmX0 (by decide) (by decide +kernel) rfl rfl (by decide +kernel) dX5_send_79 ?_
    refine wk_aload_n C rfl dX5_send_82 ?_
    refine wk_getr C (k := 0) (ci := 5) (j := 1) (T := TX5) rfl (show 0 < (1:Nat) by decide) rfl in_c_X5_send_X5 (by decide) (by decide +kernel) rfl dX5_send_83 ?_
    refine wk_aload_n C rfl dX5_send_86 ?_
    refine wk_getiN C (k := 9) (ci := 0) (j := 1) (T := TX0) (host := RX5) rfl (show _ < (24:Nat) by omega) rfl in_c_X5_send_X0 (by decide) (by decide +kernel) rfl dX5_send_87 ?_
    rw [am_up_app, if_neg (by omega), am_up_app, if_neg (by omega), lk_put_o _ _ _ _ _ _ _ _ (by omega), hNo _ _ _ (by omega), hcf 1 (by omega)]
    refine wk_aald C (k := 2) rfl rfl (show 0 < (1:Nat) by decide) (Nat.le_of_ble_eq_true rfl) ((T 1 f).toNat) (Int.toNat_of_nonneg (by omega)).symm (show _ < (16:Nat) by omega) dX5_send_90 ?_
    refine wk_dup C dX5_send_91 ?_
    refine wk_getiN C (k := 10) (ci := 1) (j := 2) (T := TX1) (host := RX5) rfl (show _ < (16:Nat) by omega) rfl in_c_X5_send_X1 (by decide) (by decide +kernel) rfl dX5_send_92 ?_
    rw [am_up_app, if_neg (by omega), am_up_app, if_neg (by omega), lk_put_o _ _ _ _ _ _ _ _ (by omega), hNo _ _ _ (by omega), (hC.2.2.1 _ (by omega)).1]
    refine wk_iconst C dX5_send_95 ?_
    refine wk_iadd C dX5_send_96 ?_
    refine wk_putN C (k := 10) (ci := 1) (j := 2) (T := TX1) (host := RX5) rfl (show _ < (16:Nat) by omega) rfl in_c_X5_send_X1 tyX1 tyX1_ok nmX1 (by decide) (by decide +kernel) rfl rfl (by decide +kernel) dX5_send_97 ?_
    refine wk_vret C hr hlk dX5_send_100 ?_
    exact hfinal
  refine wk_aload_n C rfl dX5_send_0 ?_
  refine wk_getr C (k := 0) (ci := 5) (j := 0) (T := TX5) rfl (show 0 < (1:Nat) by decide) rfl in_c_X5_send_X5 (by decide) (by decide +kernel) rfl dX5_send_1 ?_
  refine wk_iload_n C rfl dX5_send_4 ?_
  refine wk_aald C (k := 1) rfl rfl (show 0 < (1:Nat) by decide) (Nat.le_of_ble_eq_true rfl) (f) rfl (show _ < (24:Nat) by omega) dX5_send_5 ?_
  refine wk_astore_n C (by decide) (Nat.le_of_ble_eq_true rfl) dX5_send_6 ?_
  refine wk_aload_n C rfl dX5_send_7 ?_
  refine wk_ofI C (wk_runN (host := RX5) (index := 223) (ci := 0) (st := []) C (c_X0_crossesLeaves l g hI _ f hf24 (by rw [hcf 0 (by omega)]; exact i0) (by rw [hcf 1 (by omega)]; exact i1)) ⟨va_cnB 0 C.2.2.2.2.1 gX5_send_X0_crossesLeaves_n223 rfl rfl rfl (C.2.2.2.2.2.1.2 _ (by decide +kernel)) (C.2.2.2.2.1 (.initialized RX0) (by decide +kernel)) (by decide +kernel) ⟨Nat.le_of_ble_eq_true rfl, Nat.le_of_ble_eq_true rfl⟩, C.2.2.2.2.1 (.instanceMethod yX0_crossesLeaves) (by decide +kernel), C.2.2.2.2.1 (.selects RX0 yX0_crossesLeaves yX0_crossesLeaves) (by decide +kernel)⟩ rfl (show _ < (24:Nat) by omega) rfl rfl rfl (Nat.le_of_ble_eq_true rfl) dX5_send_8 ⟨Nat.zero_le _, Nat.zero_le _⟩) (fun r8 σ8 hp8 => ?_)
  obtain ⟨hsg8, rfl⟩ := hp8
  rw [hsg8]
  rw [hcf 0 (by omega), hcf 1 (by omega)]
  have hfe : (if T 0 f / 4 = T 1 f / 4 then (0 : Int) else 1) = ab_1 (ab_far T f) := by unfold ab_far ab_1; by_cases q : T 0 f / 4 = T 1 f / 4 <;> simp [q]
  rw [hfe]
  have h1r := ab_1r (ab_far T f)
  refine wk_if_eq C 45 (by omega) (by decide) dX5_send_11 (fun hc11 => ?_) (fun hc11 => ?_)
  · skip
    have hnew : ab_new T f = false := by
      cases hz : ab_far T f
      · unfold ab_new; rw [hz]; rfl
      · rw [hz, ab_1t] at hc11; omega
    exact hj45 _ (by first | (rw [lk_Na, if_pos hnew]; done) | (rw [lk_Na, if_neg (by rw [hnew]; decide)]; done))
  · skip
    have hfar : ab_far T f = true := by
      cases hz : ab_far T f
      · rw [hz, ab_1f] at hc11; omega
      · rfl
    refine wk_aload_n C rfl dX5_send_14 ?_
    refine wk_aload_n C rfl dX5_send_15 ?_
    refine wk_ofI C (wk_runV (index := 321) (ci := 5) (st := []) C (c_X5_needsFlowlet l g hI _ f T b hC hT hf hfar) (cwV 1 C.2.2.2.2.1 gX5_send_X5_needsFlowlet rfl rfl rfl (by decide +kernel) ⟨Nat.le_of_ble_eq_true rfl, Nat.le_of_ble_eq_true rfl⟩) rfl (show 0 < (1:Nat) by decide) rfl rfl rfl (Nat.le_of_ble_eq_true rfl) dX5_send_16 ⟨Nat.zero_le _, Nat.zero_le _⟩) (fun r16 σ16 hp16 => ?_)
    obtain ⟨hsg16, rfl⟩ := hp16
    rw [hsg16]
    have h1r2 := ab_1r (ab_new T f)
    refine wk_if_eq C 45 (by omega) (by decide) dX5_send_19 (fun hc19 => ?_) (fun hc19 => ?_)
    · skip
      have hnew : ab_new T f = false := by
        cases hz : ab_new T f
        · rfl
        · rw [hz, ab_1t] at hc19; omega
      exact hj45 _ (by first | (rw [lk_Na, if_pos hnew]; done) | (rw [lk_Na, if_neg (by rw [hnew]; decide)]; done))
    · skip
      have hnew : ab_new T f = true := by
        cases hz : ab_new T f
        · rw [hz, ab_1f] at hc19; omega
        · rfl
      refine wk_aload_n C rfl dX5_send_22 ?_
      refine wk_aload_n C rfl dX5_send_23 ?_
      refine wk_iload_n C rfl dX5_send_24 ?_
      refine wk_aload_n C rfl dX5_send_25 ?_
      refine wk_getiN C (k := 9) (ci := 0) (j := 10) (T := TX0) (host := RX5) rfl (show _ < (24:Nat) by omega) rfl in_c_X5_send_X0 (by decide) (by decide +kernel) rfl dX5_send_26 ?_
      rw [hcf 10 (by omega)]
      refine wk_ofI C (wk_runV (index := 292) (ci := 5) (st := [_]) C (c_X5_chosenSpine l g hI _ f (T 10 f) T b hC hT hf (by omega)) (cwV 2 C.2.2.2.2.1 gX5_send_X5_chosenSpine rfl rfl rfl (by decide +kernel) ⟨Nat.le_of_ble_eq_true rfl, Nat.le_of_ble_eq_true rfl⟩) rfl (show 0 < (1:Nat) by decide) rfl rfl rfl (Nat.le_of_ble_eq_true rfl) dX5_send_29 ⟨Nat.zero_le _, Nat.zero_le _⟩) (fun r29 σ29 hp29 => ?_)
      obtain ⟨hsg29, rfl⟩ := hp29
      rw [hsg29]
      refine wk_putN C (k := 9) (ci := 0) (j := 11) (T := TX0) (host := RX5) rfl (show _ < (24:Nat) by omega) rfl in_c_X5_send_X0 tyX0 tyX0_ok nmX0 (by decide) (by decide +kernel) rfl rfl (by decide +kernel) dX5_send_32 ?_
      refine wk_aload_n C rfl dX5_send_35 ?_
      refine wk_dup C dX5_send_36 ?_
      refine wk_getiN C (k := 9) (ci := 0) (j := 10) (T := TX0) (host := RX5) rfl (show _ < (24:Nat) by omega) rfl in_c_X5_send_X0 (by decide) (by decide +kernel) rfl dX5_send_37 ?_
      rw [am_up_app, if_neg (by omega), hcf 10 (by omega)]
      refine wk_iconst C dX5_send_40 ?_
      refine wk_iadd C dX5_send_41 ?_
      refine wk_putN C (k := 9) (ci := 0) (j := 10) (T := TX0) (host := RX5) rfl (show _ < (24:Nat) by omega) rfl in_c_X5_send_X0 tyX0 tyX0_ok nmX0 (by decide) (by decide +kernel) rfl rfl (by decide +kernel) dX5_send_42 ?_
      exact hj45 _ (by first | (rw [lk_Na, if_pos hnew]; done) | (rw [lk_Na, if_neg (by rw [hnew]; decide)]; done))
