/-! the law's wrappers: what they answer, and what they leave -/
set_option maxRecDepth 100000 in
set_option maxHeartbeats 4000000 in
theorem w_reset (l : Launch) (hl : l.stackTraces = false) (g : am_g) (hI : am_inj (gL g)) (σ : am_M) (p1 p2 p3 : Int) (hp1 : -2147483648 ≤ p1 ∧ p1 < 2147483648) (hp2 : -2147483648 ≤ p2 ∧ p2 < 2147483648) (hp3 : -2147483648 ≤ p3 ∧ p3 < 2147483648)  : Met l yL_reset wsL_reset ({ frames := 7, cells := 1, slots := 6, locals := 105 }) (lP g σ [.ref ((g.2.2 0 0)), qi (p1), qi (p2), qi (p3)]) (lQ g (fun r σ' => (r = 0 ∧ ab_okR p1 p2 p3 ∧ ∃ u, ab_C (ab_new0 p1 p2 p3) u ∧ σ' = l_mix u σ) ∨ (r = -62 ∧ ¬ ab_okR p1 p2 p3 ∧ σ' = σ))) 1 6 (am_FA (gL g)) := by
  refine wq_startW (cc := cL_reset) (nL := 5) (hh := [(0, 8, 9, 15)]) (by decide) rfl hI rfl (fun v hv => by simp only [List.mem_cons, List.not_mem_nil, or_false] at hv; rcases hv with rfl | rfl | rfl | rfl <;> rfl) (Nat.le_of_ble_eq_true rfl) ?_
  intro p e s m below meth c C htab hr hlk
  change wq g p l e (headSpec wsL_reset ({ frames := 7, cells := 1, slots := 6, locals := 105 })).room s m ([.ref ((g.2.2 0 0)), qi (p1), qi (p2), qi (p3)] : List Value).toArray below meth c (0) (0) (MQ below (lQ g (fun r σ' => (r = 0 ∧ ab_okR p1 p2 p3 ∧ ∃ u, ab_C (ab_new0 p1 p2 p3) u ∧ σ' = l_mix u σ) ∨ (r = -62 ∧ ¬ ab_okR p1 p2 p3 ∧ σ' = σ))) ([.ref ((g.2.2 0 0)), qi (p1), qi (p2), qi (p3)] : List Value).toArray s 1 6 (am_FA (gL g))) (am_FA (gL g)) 5 0 [some (.ref ((g.2.2 0 0))), some (qi (p1)), some (qi (p2)), some (qi (p3)), none] [] σ
  refine wq_aload_n C rfl dL_reset_0 ?_
  refine wq_iload_n C rfl dL_reset_1 ?_
  refine wq_iload_n C rfl dL_reset_2 ?_
  refine wq_iload_n C rfl dL_reset_3 ?_
  refine wq_xV C (av := [.inl (p1), .inl (p2), .inl (p3)]) (index := 9) (c_X5_reset l hl g (lC_inj hI) σ p1 p2 p3 hp1 hp2 hp3) (cwV 3 C.1.2.2.2.2 gL_reset_X5_reset rfl rfl rfl (by decide +kernel) ⟨Nat.le_of_ble_eq_true rfl, Nat.le_of_ble_eq_true rfl⟩) rfl rfl (Nat.le_of_ble_eq_true rfl) dL_reset_4 ⟨(Nat.le_of_ble_eq_true rfl), (Nat.le_of_ble_eq_true rfl)⟩ (E0 := "java/lang/IllegalArgumentException") htab (by decide) (by decide) (by decide +kernel) (by decide +kernel) (fun E z => z.1) (fun q9 hx4 => ?_) (fun u hp => ?_)
  · skip
    refine wq_astore C (by decide) (Nat.le_of_ble_eq_true rfl) rfl dL_reset_9 ?_
    refine wq_bipush C (n := -62) (by decide) dL_reset_11 ?_
    refine wq_iret C hr hlk (Nat.le_of_ble_eq_true rfl) (Nat.le_of_ble_eq_true rfl) dL_reset_13 ?_
    exact Or.inr ⟨rfl, hx4.2, rfl⟩
  · skip
    refine wq_iconst C dL_reset_7 ?_
    refine wq_iret C hr hlk (Nat.le_of_ble_eq_true rfl) (Nat.le_of_ble_eq_true rfl) dL_reset_8 ?_
    exact Or.inl ⟨rfl, hp.1, u, hp.2, rfl⟩

set_option maxRecDepth 100000 in
set_option maxHeartbeats 4000000 in
theorem w_addFlow (l : Launch) (hl : l.stackTraces = false) (g : am_g) (hI : am_inj (gL g)) (σ : am_M) (p1 p2 p3 p4 : Int) (hp1 : -2147483648 ≤ p1 ∧ p1 < 2147483648) (hp2 : -2147483648 ≤ p2 ∧ p2 < 2147483648) (hp3 : -2147483648 ≤ p3 ∧ p3 < 2147483648) (hp4 : -2147483648 ≤ p4 ∧ p4 < 2147483648) (S : ab_S) (b : Int) (hC : ab_C S σ) (hS : ab_I S b) : Met l yL_addFlow wsL_addFlow ({ frames := 8, cells := 3, slots := 18, locals := 126 }) (lP g σ [.ref ((g.2.2 0 0)), qi (p1), qi (p2), qi (p3), qi (p4)]) (lQ g (fun r σ' => (r = S 19 4 ∧ ab_okA p1 p2 p3 p4 ∧ S 19 4 < 24 ∧ ∃ u, ab_C (ab_add S p1 p2 p3 p4) u ∧ σ' = l_mix u σ) ∨ (r = -62 ∧ ¬ ab_okA p1 p2 p3 p4 ∧ σ' = σ) ∨ (r = -63 ∧ ab_okA p1 p2 p3 p4 ∧ ¬ S 19 4 < 24 ∧ σ' = σ))) 3 18 (am_FA (gL g)) := by
  refine wq_startW (cc := cL_addFlow) (nL := 6) (hh := [(0, 9, 10, 15), (0, 9, 15, 21)]) (by decide) rfl hI rfl (fun v hv => by simp only [List.mem_cons, List.not_mem_nil, or_false] at hv; rcases hv with rfl | rfl | rfl | rfl | rfl <;> rfl) (Nat.le_of_ble_eq_true rfl) ?_
  intro p e s m below meth c C htab hr hlk
  change wq g p l e (headSpec wsL_addFlow ({ frames := 8, cells := 3, slots := 18, locals := 126 })).room s m ([.ref ((g.2.2 0 0)), qi (p1), qi (p2), qi (p3), qi (p4)] : List Value).toArray below meth c (0) (0) (MQ below (lQ g (fun r σ' => (r = S 19 4 ∧ ab_okA p1 p2 p3 p4 ∧ S 19 4 < 24 ∧ ∃ u, ab_C (ab_add S p1 p2 p3 p4) u ∧ σ' = l_mix u σ) ∨ (r = -62 ∧ ¬ ab_okA p1 p2 p3 p4 ∧ σ' = σ) ∨ (r = -63 ∧ ab_okA p1 p2 p3 p4 ∧ ¬ S 19 4 < 24 ∧ σ' = σ))) ([.ref ((g.2.2 0 0)), qi (p1), qi (p2), qi (p3), qi (p4)] : List Value).toArray s 3 18 (am_FA (gL g))) (am_FA (gL g)) 6 0 [some (.ref ((g.2.2 0 0))), some (qi (p1)), some (qi (p2)), some (qi (p3)), some (qi (p4)), none] [] σ
  refine wq_aload_n C rfl dL_addFlow_0 ?_
  refine wq_iload_n C rfl dL_addFlow_1 ?_
  refine wq_iload_n C rfl dL_addFlow_2 ?_
  refine wq_iload_n C rfl dL_addFlow_3 ?_
  refine wq_iload C rfl dL_addFlow_4 ?_
  refine wq_xI2 C (av := [.inl (p1), .inl (p2), .inl (p3), .inl (p4)]) (index := 17) (c_X5_addFlow l hl g (lC_inj hI) σ p1 p2 p3 p4 hp1 hp2 hp3 hp4 S b hC hS) (cwV 4 C.1.2.2.2.2 gL_addFlow_X5_addFlow rfl rfl rfl (by decide +kernel) ⟨Nat.le_of_ble_eq_true rfl, Nat.le_of_ble_eq_true rfl⟩) rfl rfl (Nat.le_of_ble_eq_true rfl) dL_addFlow_6 ⟨(Nat.le_of_ble_eq_true rfl), (Nat.le_of_ble_eq_true rfl)⟩ htab (by decide) (by decide) (by decide) (by decide) (by decide +kernel) (by decide +kernel) (fun E z => z.elim (fun y => Or.inl y.1) (fun y => Or.inr y.1)) (fun q9 hx6 => ?_) (fun q9 hx6 => ?_) (fun r6 u hp => ?_)
  · skip
    refine wq_astore C (by decide) (Nat.le_of_ble_eq_true rfl) rfl dL_addFlow_10 ?_
    refine wq_bipush C (n := -62) (by decide) dL_addFlow_12 ?_
    refine wq_iret C hr hlk (Nat.le_of_ble_eq_true rfl) (Nat.le_of_ble_eq_true rfl) dL_addFlow_14 ?_
    exact Or.inr (Or.inl ⟨rfl, hx6.elim (fun y => y.2) (fun y => absurd y.1 (by decide)), rfl⟩)
  · skip
    refine wq_astore C (by decide) (Nat.le_of_ble_eq_true rfl) rfl dL_addFlow_15 ?_
    refine wq_bipush C (n := -63) (by decide) dL_addFlow_17 ?_
    refine wq_iret C hr hlk (Nat.le_of_ble_eq_true rfl) (Nat.le_of_ble_eq_true rfl) dL_addFlow_19 ?_
    exact Or.inr (Or.inr (hx6.elim (fun y => absurd y.1 (by decide)) (fun y => ⟨rfl, y.2.1, y.2.2, rfl⟩)))
  · skip
    refine wq_iret C hr hlk (Nat.le_of_ble_eq_true rfl) (Nat.le_of_ble_eq_true rfl) dL_addFlow_9 ?_
    exact Or.inl ⟨hp.2.2.2, hp.1, hp.2.1, u, hp.2.2.1, rfl⟩

set_option maxRecDepth 100000 in
set_option maxHeartbeats 4000000 in
theorem w_cut (l : Launch) (hl : l.stackTraces = false) (g : am_g) (hI : am_inj (gL g)) (σ : am_M) (p1 p2 : Int) (hp1 : -2147483648 ≤ p1 ∧ p1 < 2147483648) (hp2 : -2147483648 ≤ p2 ∧ p2 < 2147483648) (S : ab_S) (b : Int) (hC : ab_C S σ) (hS : ab_I S b) : Met l yL_cut wsL_cut ({ frames := 8, cells := 2, slots := 12, locals := 125 }) (lP g σ [.ref ((g.2.2 0 0)), qi (p1), qi (p2)]) (lQ g (fun r σ' => (r = S 14 (32 + 4 * p1.toNat + p2.toNat) + S 14 (48 + 4 * p2.toNat + p1.toNat) ∧ ((0 ≤ p1 ∧ p1 < 4) ∧ (0 ≤ p2 ∧ p2 < 4)) ∧ S 18 (4 * p1.toNat + p2.toNat) = 0 ∧ ∃ u, ab_C (ab_u S 18 (4 * p1.toNat + p2.toNat) 1) u ∧ σ' = l_mix u σ) ∨ (r = -62 ∧ ¬ ((0 ≤ p1 ∧ p1 < 4) ∧ (0 ≤ p2 ∧ p2 < 4)) ∧ σ' = σ) ∨ (r = -63 ∧ ((0 ≤ p1 ∧ p1 < 4) ∧ (0 ≤ p2 ∧ p2 < 4)) ∧ ¬ S 18 (4 * p1.toNat + p2.toNat) = 0 ∧ σ' = σ))) 2 12 (am_FA (gL g)) := by
  refine wq_startW (cc := cL_cut) (nL := 4) (hh := [(0, 6, 7, 15), (0, 6, 11, 21)]) (by decide) rfl hI rfl (fun v hv => by simp only [List.mem_cons, List.not_mem_nil, or_false] at hv; rcases hv with rfl | rfl | rfl <;> rfl) (Nat.le_of_ble_eq_true rfl) ?_
  intro p e s m below meth c C htab hr hlk
  change wq g p l e (headSpec wsL_cut ({ frames := 8, cells := 2, slots := 12, locals := 125 })).room s m ([.ref ((g.2.2 0 0)), qi (p1), qi (p2)] : List Value).toArray below meth c (0) (0) (MQ below (lQ g (fun r σ' => (r = S 14 (32 + 4 * p1.toNat + p2.toNat) + S 14 (48 + 4 * p2.toNat + p1.toNat) ∧ ((0 ≤ p1 ∧ p1 < 4) ∧ (0 ≤ p2 ∧ p2 < 4)) ∧ S 18 (4 * p1.toNat + p2.toNat) = 0 ∧ ∃ u, ab_C (ab_u S 18 (4 * p1.toNat + p2.toNat) 1) u ∧ σ' = l_mix u σ) ∨ (r = -62 ∧ ¬ ((0 ≤ p1 ∧ p1 < 4) ∧ (0 ≤ p2 ∧ p2 < 4)) ∧ σ' = σ) ∨ (r = -63 ∧ ((0 ≤ p1 ∧ p1 < 4) ∧ (0 ≤ p2 ∧ p2 < 4)) ∧ ¬ S 18 (4 * p1.toNat + p2.toNat) = 0 ∧ σ' = σ))) ([.ref ((g.2.2 0 0)), qi (p1), qi (p2)] : List Value).toArray s 2 12 (am_FA (gL g))) (am_FA (gL g)) 4 0 [some (.ref ((g.2.2 0 0))), some (qi (p1)), some (qi (p2)), none] [] σ
  refine wq_aload_n C rfl dL_cut_0 ?_
  refine wq_iload_n C rfl dL_cut_1 ?_
  refine wq_iload_n C rfl dL_cut_2 ?_
  refine wq_xI2 C (av := [.inl (p1), .inl (p2)]) (index := 23) (c_X5_cut l hl g (lC_inj hI) σ p1 p2 hp1 hp2 S b hC hS) (cwV 2 C.1.2.2.2.2 gL_cut_X5_cut rfl rfl rfl (by decide +kernel) ⟨Nat.le_of_ble_eq_true rfl, Nat.le_of_ble_eq_true rfl⟩) rfl rfl (Nat.le_of_ble_eq_true rfl) dL_cut_3 ⟨(Nat.le_of_ble_eq_true rfl), (Nat.le_of_ble_eq_true rfl)⟩ htab (by decide) (by decide) (by decide) (by decide) (by decide +kernel) (by decide +kernel) (fun E z => z.elim (fun y => Or.inl y.1) (fun y => Or.inr y.1)) (fun q9 hx3 => ?_) (fun q9 hx3 => ?_) (fun r3 u hp => ?_)
  · skip
    refine wq_astore_n C (by decide) (Nat.le_of_ble_eq_true rfl) rfl dL_cut_7 ?_
    refine wq_bipush C (n := -62) (by decide) dL_cut_8 ?_
    refine wq_iret C hr hlk (Nat.le_of_ble_eq_true rfl) (Nat.le_of_ble_eq_true rfl) dL_cut_10 ?_
    exact Or.inr (Or.inl ⟨rfl, hx3.elim (fun y => y.2) (fun y => absurd y.1 (by decide)), rfl⟩)
  · skip
    refine wq_astore_n C (by decide) (Nat.le_of_ble_eq_true rfl) rfl dL_cut_11 ?_
    refine wq_bipush C (n := -63) (by decide) dL_cut_12 ?_
    refine wq_iret C hr hlk (Nat.le_of_ble_eq_true rfl) (Nat.le_of_ble_eq_true rfl) dL_cut_14 ?_
    exact Or.inr (Or.inr (hx3.elim (fun y => absurd y.1 (by decide)) (fun y => ⟨rfl, y.2.1, y.2.2, rfl⟩)))
  · skip
    refine wq_iret C hr hlk (Nat.le_of_ble_eq_true rfl) (Nat.le_of_ble_eq_true rfl) dL_cut_6 ?_
    exact Or.inl ⟨hp.2.2.2, hp.1, hp.2.1, u, hp.2.2.1, rfl⟩

set_option maxRecDepth 100000 in
set_option maxHeartbeats 4000000 in
theorem w_restore (l : Launch) (hl : l.stackTraces = false) (g : am_g) (hI : am_inj (gL g)) (σ : am_M) (p1 p2 : Int) (hp1 : -2147483648 ≤ p1 ∧ p1 < 2147483648) (hp2 : -2147483648 ≤ p2 ∧ p2 < 2147483648) (S : ab_S) (b : Int) (hC : ab_C S σ) (hS : ab_I S b) : Met l yL_restore wsL_restore ({ frames := 8, cells := 2, slots := 12, locals := 127 }) (lP g σ [.ref ((g.2.2 0 0)), qi (p1), qi (p2)]) (lQ g (fun r σ' => (r = ab_cuts (ab_u S 18 (4 * p1.toNat + p2.toNat) 0) ∧ ((0 ≤ p1 ∧ p1 < 4) ∧ (0 ≤ p2 ∧ p2 < 4)) ∧ ¬ S 18 (4 * p1.toNat + p2.toNat) = 0 ∧ ∃ u, ab_C (ab_u S 18 (4 * p1.toNat + p2.toNat) 0) u ∧ σ' = l_mix u σ) ∨ (r = -62 ∧ ¬ ((0 ≤ p1 ∧ p1 < 4) ∧ (0 ≤ p2 ∧ p2 < 4)) ∧ σ' = σ) ∨ (r = -63 ∧ ((0 ≤ p1 ∧ p1 < 4) ∧ (0 ≤ p2 ∧ p2 < 4)) ∧ S 18 (4 * p1.toNat + p2.toNat) = 0 ∧ σ' = σ))) 2 12 (am_FA (gL g)) := by
  refine wq_startW (cc := cL_restore) (nL := 4) (hh := [(0, 6, 7, 15), (0, 6, 11, 21)]) (by decide) rfl hI rfl (fun v hv => by simp only [List.mem_cons, List.not_mem_nil, or_false] at hv; rcases hv with rfl | rfl | rfl <;> rfl) (Nat.le_of_ble_eq_true rfl) ?_
  intro p e s m below meth c C htab hr hlk
  change wq g p l e (headSpec wsL_restore ({ frames := 8, cells := 2, slots := 12, locals := 127 })).room s m ([.ref ((g.2.2 0 0)), qi (p1), qi (p2)] : List Value).toArray below meth c (0) (0) (MQ below (lQ g (fun r σ' => (r = ab_cuts (ab_u S 18 (4 * p1.toNat + p2.toNat) 0) ∧ ((0 ≤ p1 ∧ p1 < 4) ∧ (0 ≤ p2 ∧ p2 < 4)) ∧ ¬ S 18 (4 * p1.toNat + p2.toNat) = 0 ∧ ∃ u, ab_C (ab_u S 18 (4 * p1.toNat + p2.toNat) 0) u ∧ σ' = l_mix u σ) ∨ (r = -62 ∧ ¬ ((0 ≤ p1 ∧ p1 < 4) ∧ (0 ≤ p2 ∧ p2 < 4)) ∧ σ' = σ) ∨ (r = -63 ∧ ((0 ≤ p1 ∧ p1 < 4) ∧ (0 ≤ p2 ∧ p2 < 4)) ∧ S 18 (4 * p1.toNat + p2.toNat) = 0 ∧ σ' = σ))) ([.ref ((g.2.2 0 0)), qi (p1), qi (p2)] : List Value).toArray s 2 12 (am_FA (gL g))) (am_FA (gL g)) 4 0 [some (.ref ((g.2.2 0 0))), some (qi (p1)), some (qi (p2)), none] [] σ
  refine wq_aload_n C rfl dL_restore_0 ?_
  refine wq_iload_n C rfl dL_restore_1 ?_
  refine wq_iload_n C rfl dL_restore_2 ?_
  refine wq_xI2 C (av := [.inl (p1), .inl (p2)]) (index := 27) (c_X5_restore l hl g (lC_inj hI) σ p1 p2 hp1 hp2 S b hC hS) (cwV 2 C.1.2.2.2.2 gL_restore_X5_restore rfl rfl rfl (by decide +kernel) ⟨Nat.le_of_ble_eq_true rfl, Nat.le_of_ble_eq_true rfl⟩) rfl rfl (Nat.le_of_ble_eq_true rfl) dL_restore_3 ⟨(Nat.le_of_ble_eq_true rfl), (Nat.le_of_ble_eq_true rfl)⟩ htab (by decide) (by decide) (by decide) (by decide) (by decide +kernel) (by decide +kernel) (fun E z => z.elim (fun y => Or.inl y.1) (fun y => Or.inr y.1)) (fun q9 hx3 => ?_) (fun q9 hx3 => ?_) (fun r3 u hp => ?_)
  · skip
    refine wq_astore_n C (by decide) (Nat.le_of_ble_eq_true rfl) rfl dL_restore_7 ?_
    refine wq_bipush C (n := -62) (by decide) dL_restore_8 ?_
    refine wq_iret C hr hlk (Nat.le_of_ble_eq_true rfl) (Nat.le_of_ble_eq_true rfl) dL_restore_10 ?_
    exact Or.inr (Or.inl ⟨rfl, hx3.elim (fun y => y.2) (fun y => absurd y.1 (by decide)), rfl⟩)
  · skip
    refine wq_astore_n C (by decide) (Nat.le_of_ble_eq_true rfl) rfl dL_restore_11 ?_
    refine wq_bipush C (n := -63) (by decide) dL_restore_12 ?_
    refine wq_iret C hr hlk (Nat.le_of_ble_eq_true rfl) (Nat.le_of_ble_eq_true rfl) dL_restore_14 ?_
    exact Or.inr (Or.inr (hx3.elim (fun y => absurd y.1 (by decide)) (fun y => ⟨rfl, y.2.1, y.2.2, rfl⟩)))
  · skip
    refine wq_iret C hr hlk (Nat.le_of_ble_eq_true rfl) (Nat.le_of_ble_eq_true rfl) dL_restore_6 ?_
    exact Or.inl ⟨hp.2.2.2, hp.1, hp.2.1, u, hp.2.2.1, rfl⟩

set_option maxRecDepth 100000 in
set_option maxHeartbeats 4000000 in
theorem w_pass (l : Launch) (hl : l.stackTraces = false) (g : am_g) (hI : am_inj (gL g)) (σ : am_M) (p1 : Int) (hp1 : -2147483648 ≤ p1 ∧ p1 < 2147483648) (S : ab_S) (b : Int) (hC : ab_C S σ) (hS : ab_I S b) (hb : b + 9600 ≤ 100000000) : Met l yL_pass wsL_pass ({ frames := 7, cells := 1, slots := 6, locals := 157 }) (lP g σ [.ref ((g.2.2 0 0)), qi (p1)]) (lQ g (fun r σ' => (r = ab_passC S p1.toNat ∧ (1 ≤ p1 ∧ p1 ≤ 200) ∧ S 19 3 + p1 ≤ 100000 ∧ ∃ u, ab_C (ab_pass S p1.toNat) u ∧ σ' = l_mix u σ) ∨ (r = -62 ∧ ¬ (1 ≤ p1 ∧ p1 ≤ 200) ∧ σ' = σ) ∨ (r = -63 ∧ (1 ≤ p1 ∧ p1 ≤ 200) ∧ ¬ S 19 3 + p1 ≤ 100000 ∧ σ' = σ))) 1 6 (am_FA (gL g)) := by
  refine wq_startW (cc := cL_pass) (nL := 3) (hh := [(0, 5, 6, 15), (0, 5, 10, 21)]) (by decide) rfl hI rfl (fun v hv => by simp only [List.mem_cons, List.not_mem_nil, or_false] at hv; rcases hv with rfl | rfl <;> rfl) (Nat.le_of_ble_eq_true rfl) ?_
  intro p e s m below meth c C htab hr hlk
  change wq g p l e (headSpec wsL_pass ({ frames := 7, cells := 1, slots := 6, locals := 157 })).room s m ([.ref ((g.2.2 0 0)), qi (p1)] : List Value).toArray below meth c (0) (0) (MQ below (lQ g (fun r σ' => (r = ab_passC S p1.toNat ∧ (1 ≤ p1 ∧ p1 ≤ 200) ∧ S 19 3 + p1 ≤ 100000 ∧ ∃ u, ab_C (ab_pass S p1.toNat) u ∧ σ' = l_mix u σ) ∨ (r = -62 ∧ ¬ (1 ≤ p1 ∧ p1 ≤ 200) ∧ σ' = σ) ∨ (r = -63 ∧ (1 ≤ p1 ∧ p1 ≤ 200) ∧ ¬ S 19 3 + p1 ≤ 100000 ∧ σ' = σ))) ([.ref ((g.2.2 0 0)), qi (p1)] : List Value).toArray s 1 6 (am_FA (gL g))) (am_FA (gL g)) 3 0 [some (.ref ((g.2.2 0 0))), some (qi (p1)), none] [] σ
  refine wq_aload_n C rfl dL_pass_0 ?_
  refine wq_iload_n C rfl dL_pass_1 ?_
  refine wq_xI2 C (av := [.inl (p1)]) (index := 30) (c_X5_pass l hl g (lC_inj hI) σ p1 hp1 S b hC hS hb) (cwV 1 C.1.2.2.2.2 gL_pass_X5_pass rfl rfl rfl (by decide +kernel) ⟨Nat.le_of_ble_eq_true rfl, Nat.le_of_ble_eq_true rfl⟩) rfl rfl (Nat.le_of_ble_eq_true rfl) dL_pass_2 ⟨(Nat.le_of_ble_eq_true rfl), (Nat.le_of_ble_eq_true rfl)⟩ htab (by decide) (by decide) (by decide) (by decide) (by decide +kernel) (by decide +kernel) (fun E z => z.elim (fun y => Or.inl y.1) (fun y => Or.inr y.1)) (fun q9 hx2 => ?_) (fun q9 hx2 => ?_) (fun r2 u hp => ?_)
  · skip
    refine wq_astore_n C (by decide) (Nat.le_of_ble_eq_true rfl) rfl dL_pass_6 ?_
    refine wq_bipush C (n := -62) (by decide) dL_pass_7 ?_
    refine wq_iret C hr hlk (Nat.le_of_ble_eq_true rfl) (Nat.le_of_ble_eq_true rfl) dL_pass_9 ?_
    exact Or.inr (Or.inl ⟨rfl, hx2.elim (fun y => y.2) (fun y => absurd y.1 (by decide)), rfl⟩)
  · skip
    refine wq_astore_n C (by decide) (Nat.le_of_ble_eq_true rfl) rfl dL_pass_10 ?_
    refine wq_bipush C (n := -63) (by decide) dL_pass_11 ?_
    refine wq_iret C hr hlk (Nat.le_of_ble_eq_true rfl) (Nat.le_of_ble_eq_true rfl) dL_pass_13 ?_
    exact Or.inr (Or.inr (hx2.elim (fun y => absurd y.1 (by decide)) (fun y => ⟨rfl, y.2.1, y.2.2, rfl⟩)))
  · skip
    refine wq_iret C hr hlk (Nat.le_of_ble_eq_true rfl) (Nat.le_of_ble_eq_true rfl) dL_pass_5 ?_
    exact Or.inl ⟨hp.2.2.2, hp.1, hp.2.1, u, hp.2.2.1, rfl⟩

set_option maxRecDepth 100000 in
set_option maxHeartbeats 4000000 in
theorem w_of (l : Launch) (hl : l.stackTraces = false) (g : am_g) (hI : am_inj (gL g)) (σ : am_M) (p1 p2 : Int) (hp1 : -2147483648 ≤ p1 ∧ p1 < 2147483648) (hp2 : -2147483648 ≤ p2 ∧ p2 < 2147483648) (S : ab_S) (b : Int) (hC : ab_C S σ) (hS : ab_I S b) (hbad : ¬ (0 ≤ p2 ∧ p2 < S 19 4)) : Met l yL_of wsL_of ({ frames := 8, cells := 1, slots := 6, locals := 124 }) (lP g σ [.ref ((g.2.2 0 0)), qi (p1), qi (p2)]) (lQ g (fun r σ' => σ' = σ ∧ r = -61)) 1 6 (am_FA (gL g)) := by
  refine wq_startW (cc := cL_of) (nL := 4) (hh := [(0, 82, 83, 55)]) (by decide) rfl hI rfl (fun v hv => by simp only [List.mem_cons, List.not_mem_nil, or_false] at hv; rcases hv with rfl | rfl | rfl <;> rfl) (Nat.le_of_ble_eq_true rfl) ?_
  intro p e s m below meth c C htab hr hlk
  change wq g p l e (headSpec wsL_of ({ frames := 8, cells := 1, slots := 6, locals := 124 })).room s m ([.ref ((g.2.2 0 0)), qi (p1), qi (p2)] : List Value).toArray below meth c (0) (0) (MQ below (lQ g (fun r σ' => σ' = σ ∧ r = -61)) ([.ref ((g.2.2 0 0)), qi (p1), qi (p2)] : List Value).toArray s 1 6 (am_FA (gL g))) (am_FA (gL g)) 4 0 [some (.ref ((g.2.2 0 0))), some (qi (p1)), some (qi (p2)), none] [] σ
  refine wq_iload_n C rfl dL_of_0 ?_
  refine wq_if_ne C 12 (by omega) (by decide) dL_of_1 (fun hc1 => ?_) (fun hc1 => ?_)
  · skip
    refine wq_iload_n C rfl dL_of_12 ?_
    refine wq_iconst C dL_of_13 ?_
    refine wq_icmp_ne C 25 (by omega) (by omega) (by decide) dL_of_14 (fun hc14 => ?_) (fun hc14 => ?_)
    · skip
      refine wq_iload_n C rfl dL_of_25 ?_
      refine wq_iconst C dL_of_26 ?_
      refine wq_icmp_ne C 38 (by omega) (by omega) (by decide) dL_of_27 (fun hc27 => ?_) (fun hc27 => ?_)
      · skip
        refine wq_iload_n C rfl dL_of_38 ?_
        refine wq_iconst C dL_of_39 ?_
        refine wq_icmp_ne C 51 (by omega) (by omega) (by decide) dL_of_40 (fun hc40 => ?_) (fun hc40 => ?_)
        · skip
          refine wq_iload_n C rfl dL_of_51 ?_
          refine wq_iconst C dL_of_52 ?_
          refine wq_icmp_ne C 64 (by omega) (by omega) (by decide) dL_of_53 (fun hc53 => ?_) (fun hc53 => ?_)
          · skip
            refine wq_iload_n C rfl dL_of_64 ?_
            refine wq_iconst C dL_of_65 ?_
            refine wq_icmp_ne C 77 (by omega) (by omega) (by decide) dL_of_66 (fun hc66 => ?_) (fun hc66 => ?_)
            · skip
              refine wq_aload_n C rfl dL_of_77 ?_
              refine wq_iload_n C rfl dL_of_78 ?_
              refine wq_xI C (av := [.inl (p2)]) (index := 52) (c_X5_spineOf l hl g (lC_inj hI) σ p2 hp2 S b hC hS) (cwV 1 C.1.2.2.2.2 gL_of_X5_spineOf rfl rfl rfl (by decide +kernel) ⟨Nat.le_of_ble_eq_true rfl, Nat.le_of_ble_eq_true rfl⟩) rfl rfl (Nat.le_of_ble_eq_true rfl) dL_of_79 ⟨(Nat.le_of_ble_eq_true rfl), (Nat.le_of_ble_eq_true rfl)⟩ (E0 := "java/lang/IndexOutOfBoundsException") htab (by decide) (by decide) (by decide +kernel) (by decide +kernel) (fun E z => z.1) (fun q9 hx79 => ?_) (fun r79 u hp => ?_)
              · skip
                refine wq_astore_n C (by decide) (Nat.le_of_ble_eq_true rfl) rfl dL_of_83 ?_
                refine wq_bipush C (n := -61) (by decide) dL_of_84 ?_
                refine wq_iret C hr hlk (Nat.le_of_ble_eq_true rfl) (Nat.le_of_ble_eq_true rfl) dL_of_86 ?_
                exact ⟨rfl, rfl⟩
              · skip
                exact absurd hp.2.1 hbad
            · skip
              refine wq_aload_n C rfl dL_of_69 ?_
              refine wq_iload_n C rfl dL_of_70 ?_
              refine wq_xI C (av := [.inl (p2)]) (index := 49) (c_X5_flowlets l hl g (lC_inj hI) σ p2 hp2 S b hC hS) (cwV 1 C.1.2.2.2.2 gL_of_X5_flowlets rfl rfl rfl (by decide +kernel) ⟨Nat.le_of_ble_eq_true rfl, Nat.le_of_ble_eq_true rfl⟩) rfl rfl (Nat.le_of_ble_eq_true rfl) dL_of_71 ⟨(Nat.le_of_ble_eq_true rfl), (Nat.le_of_ble_eq_true rfl)⟩ (E0 := "java/lang/IndexOutOfBoundsException") htab (by decide) (by decide) (by decide +kernel) (by decide +kernel) (fun E z => z.1) (fun q9 hx71 => ?_) (fun r71 u hp => ?_)
              · skip
                refine wq_astore_n C (by decide) (Nat.le_of_ble_eq_true rfl) rfl dL_of_83 ?_
                refine wq_bipush C (n := -61) (by decide) dL_of_84 ?_
                refine wq_iret C hr hlk (Nat.le_of_ble_eq_true rfl) (Nat.le_of_ble_eq_true rfl) dL_of_86 ?_
                exact ⟨rfl, rfl⟩
              · skip
                exact absurd hp.2.1 hbad
          · skip
            refine wq_aload_n C rfl dL_of_56 ?_
            refine wq_iload_n C rfl dL_of_57 ?_
            refine wq_xI C (av := [.inl (p2)]) (index := 46) (c_X5_doneIn l hl g (lC_inj hI) σ p2 hp2 S b hC hS) (cwV 1 C.1.2.2.2.2 gL_of_X5_doneIn rfl rfl rfl (by decide +kernel) ⟨Nat.le_of_ble_eq_true rfl, Nat.le_of_ble_eq_true rfl⟩) rfl rfl (Nat.le_of_ble_eq_true rfl) dL_of_58 ⟨(Nat.le_of_ble_eq_true rfl), (Nat.le_of_ble_eq_true rfl)⟩ (E0 := "java/lang/IndexOutOfBoundsException") htab (by decide) (by decide) (by decide +kernel) (by decide +kernel) (fun E z => z.1) (fun q9 hx58 => ?_) (fun r58 u hp => ?_)
            · skip
              refine wq_astore_n C (by decide) (Nat.le_of_ble_eq_true rfl) rfl dL_of_83 ?_
              refine wq_bipush C (n := -61) (by decide) dL_of_84 ?_
              refine wq_iret C hr hlk (Nat.le_of_ble_eq_true rfl) (Nat.le_of_ble_eq_true rfl) dL_of_86 ?_
              exact ⟨rfl, rfl⟩
            · skip
              exact absurd hp.2.1 hbad
        · skip
          refine wq_aload_n C rfl dL_of_43 ?_
          refine wq_iload_n C rfl dL_of_44 ?_
          refine wq_xI C (av := [.inl (p2)]) (index := 43) (c_X5_outOfOrder l hl g (lC_inj hI) σ p2 hp2 S b hC hS) (cwV 1 C.1.2.2.2.2 gL_of_X5_outOfOrder rfl rfl rfl (by decide +kernel) ⟨Nat.le_of_ble_eq_true rfl, Nat.le_of_ble_eq_true rfl⟩) rfl rfl (Nat.le_of_ble_eq_true rfl) dL_of_45 ⟨(Nat.le_of_ble_eq_true rfl), (Nat.le_of_ble_eq_true rfl)⟩ (E0 := "java/lang/IndexOutOfBoundsException") htab (by decide) (by decide) (by decide +kernel) (by decide +kernel) (fun E z => z.1) (fun q9 hx45 => ?_) (fun r45 u hp => ?_)
          · skip
            refine wq_astore_n C (by decide) (Nat.le_of_ble_eq_true rfl) rfl dL_of_83 ?_
            refine wq_bipush C (n := -61) (by decide) dL_of_84 ?_
            refine wq_iret C hr hlk (Nat.le_of_ble_eq_true rfl) (Nat.le_of_ble_eq_true rfl) dL_of_86 ?_
            exact ⟨rfl, rfl⟩
          · skip
            exact absurd hp.2.1 hbad
      · skip
        refine wq_aload_n C rfl dL_of_30 ?_
        refine wq_iload_n C rfl dL_of_31 ?_
        refine wq_xI C (av := [.inl (p2)]) (index := 40) (c_X5_lost l hl g (lC_inj hI) σ p2 hp2 S b hC hS) (cwV 1 C.1.2.2.2.2 gL_of_X5_lost rfl rfl rfl (by decide +kernel) ⟨Nat.le_of_ble_eq_true rfl, Nat.le_of_ble_eq_true rfl⟩) rfl rfl (Nat.le_of_ble_eq_true rfl) dL_of_32 ⟨(Nat.le_of_ble_eq_true rfl), (Nat.le_of_ble_eq_true rfl)⟩ (E0 := "java/lang/IndexOutOfBoundsException") htab (by decide) (by decide) (by decide +kernel) (by decide +kernel) (fun E z => z.1) (fun q9 hx32 => ?_) (fun r32 u hp => ?_)
        · skip
          refine wq_astore_n C (by decide) (Nat.le_of_ble_eq_true rfl) rfl dL_of_83 ?_
          refine wq_bipush C (n := -61) (by decide) dL_of_84 ?_
          refine wq_iret C hr hlk (Nat.le_of_ble_eq_true rfl) (Nat.le_of_ble_eq_true rfl) dL_of_86 ?_
          exact ⟨rfl, rfl⟩
        · skip
          exact absurd hp.2.1 hbad
    · skip
      refine wq_aload_n C rfl dL_of_17 ?_
      refine wq_iload_n C rfl dL_of_18 ?_
      refine wq_xI C (av := [.inl (p2)]) (index := 37) (c_X5_delivered l hl g (lC_inj hI) σ p2 hp2 S b hC hS) (cwV 1 C.1.2.2.2.2 gL_of_X5_delivered rfl rfl rfl (by decide +kernel) ⟨Nat.le_of_ble_eq_true rfl, Nat.le_of_ble_eq_true rfl⟩) rfl rfl (Nat.le_of_ble_eq_true rfl) dL_of_19 ⟨(Nat.le_of_ble_eq_true rfl), (Nat.le_of_ble_eq_true rfl)⟩ (E0 := "java/lang/IndexOutOfBoundsException") htab (by decide) (by decide) (by decide +kernel) (by decide +kernel) (fun E z => z.1) (fun q9 hx19 => ?_) (fun r19 u hp => ?_)
      · skip
        refine wq_astore_n C (by decide) (Nat.le_of_ble_eq_true rfl) rfl dL_of_83 ?_
        refine wq_bipush C (n := -61) (by decide) dL_of_84 ?_
        refine wq_iret C hr hlk (Nat.le_of_ble_eq_true rfl) (Nat.le_of_ble_eq_true rfl) dL_of_86 ?_
        exact ⟨rfl, rfl⟩
      · skip
        exact absurd hp.2.1 hbad
  · skip
    refine wq_aload_n C rfl dL_of_4 ?_
    refine wq_iload_n C rfl dL_of_5 ?_
    refine wq_xI C (av := [.inl (p2)]) (index := 34) (c_X5_sent l hl g (lC_inj hI) σ p2 hp2 S b hC hS) (cwV 1 C.1.2.2.2.2 gL_of_X5_sent rfl rfl rfl (by decide +kernel) ⟨Nat.le_of_ble_eq_true rfl, Nat.le_of_ble_eq_true rfl⟩) rfl rfl (Nat.le_of_ble_eq_true rfl) dL_of_6 ⟨(Nat.le_of_ble_eq_true rfl), (Nat.le_of_ble_eq_true rfl)⟩ (E0 := "java/lang/IndexOutOfBoundsException") htab (by decide) (by decide) (by decide +kernel) (by decide +kernel) (fun E z => z.1) (fun q9 hx6 => ?_) (fun r6 u hp => ?_)
    · skip
      refine wq_astore_n C (by decide) (Nat.le_of_ble_eq_true rfl) rfl dL_of_83 ?_
      refine wq_bipush C (n := -61) (by decide) dL_of_84 ?_
      refine wq_iret C hr hlk (Nat.le_of_ble_eq_true rfl) (Nat.le_of_ble_eq_true rfl) dL_of_86 ?_
      exact ⟨rfl, rfl⟩
    · skip
      exact absurd hp.2.1 hbad

set_option maxRecDepth 100000 in
set_option maxHeartbeats 4000000 in
theorem w_ask (l : Launch) (hl : l.stackTraces = false) (g : am_g) (hI : am_inj (gL g)) (σ : am_M) (p1 p2 p3 : Int) (hp1 : -2147483648 ≤ p1 ∧ p1 < 2147483648) (hp2 : -2147483648 ≤ p2 ∧ p2 < 2147483648) (hp3 : -2147483648 ≤ p3 ∧ p3 < 2147483648) (S : ab_S) (b : Int) (hC : ab_C S σ) (hS : ab_I S b) (hbad : (0 ≤ p1 ∧ p1 < 4 ∧ ¬ (0 ≤ p2 ∧ p2 < 16)) ∨ (4 ≤ p1 ∧ p1 < 7 ∧ ¬ ((0 ≤ p2 ∧ p2 < 4) ∧ (0 ≤ p3 ∧ p3 < 4))) ∨ (7 = p1 ∧ ¬ ((0 ≤ p2 ∧ p2 < 4) ∧ (0 ≤ p3 ∧ p3 < 4) ∧ ¬ p2 = p3))) : Met l yL_ask wsL_ask ({ frames := 8, cells := 1, slots := 6, locals := 125 }) (lP g σ [.ref ((g.2.2 0 0)), qi (p1), qi (p2), qi (p3)]) (lQ g (fun r σ' => σ' = σ ∧ r = -62)) 1 6 (am_FA (gL g)) := by
  refine wq_startW (cc := cL_ask) (nL := 5) (hh := [(0, 100, 101, 15)]) (by decide) rfl hI rfl (fun v hv => by simp only [List.mem_cons, List.not_mem_nil, or_false] at hv; rcases hv with rfl | rfl | rfl | rfl <;> rfl) (Nat.le_of_ble_eq_true rfl) ?_
  intro p e s m below meth c C htab hr hlk
  change wq g p l e (headSpec wsL_ask ({ frames := 8, cells := 1, slots := 6, locals := 125 })).room s m ([.ref ((g.2.2 0 0)), qi (p1), qi (p2), qi (p3)] : List Value).toArray below meth c (0) (0) (MQ below (lQ g (fun r σ' => σ' = σ ∧ r = -62)) ([.ref ((g.2.2 0 0)), qi (p1), qi (p2), qi (p3)] : List Value).toArray s 1 6 (am_FA (gL g))) (am_FA (gL g)) 5 0 [some (.ref ((g.2.2 0 0))), some (qi (p1)), some (qi (p2)), some (qi (p3)), none] [] σ
  refine wq_iload_n C rfl dL_ask_0 ?_
  refine wq_if_ne C 12 (by omega) (by decide) dL_ask_1 (fun hc1 => ?_) (fun hc1 => ?_)
  · skip
    refine wq_iload_n C rfl dL_ask_12 ?_
    refine wq_iconst C dL_ask_13 ?_
    refine wq_icmp_ne C 25 (by omega) (by omega) (by decide) dL_ask_14 (fun hc14 => ?_) (fun hc14 => ?_)
    · skip
      refine wq_iload_n C rfl dL_ask_25 ?_
      refine wq_iconst C dL_ask_26 ?_
      refine wq_icmp_ne C 38 (by omega) (by omega) (by decide) dL_ask_27 (fun hc27 => ?_) (fun hc27 => ?_)
      · skip
        refine wq_iload_n C rfl dL_ask_38 ?_
        refine wq_iconst C dL_ask_39 ?_
        refine wq_icmp_ne C 51 (by omega) (by omega) (by decide) dL_ask_40 (fun hc40 => ?_) (fun hc40 => ?_)
        · skip
          refine wq_iload_n C rfl dL_ask_51 ?_
          refine wq_iconst C dL_ask_52 ?_
          refine wq_icmp_ne C 65 (by omega) (by omega) (by decide) dL_ask_53 (fun hc53 => ?_) (fun hc53 => ?_)
          · skip
            refine wq_iload_n C rfl dL_ask_65 ?_
            refine wq_iconst C dL_ask_66 ?_
            refine wq_icmp_ne C 79 (by omega) (by omega) (by decide) dL_ask_67 (fun hc67 => ?_) (fun hc67 => ?_)
            · skip
              refine wq_iload_n C rfl dL_ask_79 ?_
              refine wq_bipush C (n := 6) (by decide) dL_ask_80 ?_
              refine wq_icmp_ne C 94 (by omega) (by omega) (by decide) dL_ask_82 (fun hc82 => ?_) (fun hc82 => ?_)
              · skip
                refine wq_aload_n C rfl dL_ask_94 ?_
                refine wq_iload_n C rfl dL_ask_95 ?_
                refine wq_iload_n C rfl dL_ask_96 ?_
                refine wq_xI C (av := [.inl (p2), .inl (p3)]) (index := 78) (c_X5_usable l hl g (lC_inj hI) σ p2 p3 hp2 hp3 S b hC hS) (cwV 2 C.1.2.2.2.2 gL_ask_X5_usable rfl rfl rfl (by decide +kernel) ⟨Nat.le_of_ble_eq_true rfl, Nat.le_of_ble_eq_true rfl⟩) rfl rfl (Nat.le_of_ble_eq_true rfl) dL_ask_97 ⟨(Nat.le_of_ble_eq_true rfl), (Nat.le_of_ble_eq_true rfl)⟩ (E0 := "java/lang/IllegalArgumentException") htab (by decide) (by decide) (by decide +kernel) (by decide +kernel) (fun E z => z.1) (fun q9 hx97 => ?_) (fun r97 u hp => ?_)
                · skip
                  refine wq_astore C (by decide) (Nat.le_of_ble_eq_true rfl) rfl dL_ask_101 ?_
                  refine wq_bipush C (n := -62) (by decide) dL_ask_103 ?_
                  refine wq_iret C hr hlk (Nat.le_of_ble_eq_true rfl) (Nat.le_of_ble_eq_true rfl) dL_ask_105 ?_
                  exact ⟨rfl, rfl⟩
                · skip
                  exfalso
                  have hp := hp.2.1
                  omega
              · skip
                refine wq_aload_n C rfl dL_ask_85 ?_
                refine wq_iload_n C rfl dL_ask_86 ?_
                refine wq_iload_n C rfl dL_ask_87 ?_
                refine wq_xI C (av := [.inl (p2), .inl (p3)]) (index := 75) (c_X5_northCredits l hl g (lC_inj hI) σ p2 p3 hp2 hp3 S b hC hS) (cwV 2 C.1.2.2.2.2 gL_ask_X5_northCredits rfl rfl rfl (by decide +kernel) ⟨Nat.le_of_ble_eq_true rfl, Nat.le_of_ble_eq_true rfl⟩) rfl rfl (Nat.le_of_ble_eq_true rfl) dL_ask_88 ⟨(Nat.le_of_ble_eq_true rfl), (Nat.le_of_ble_eq_true rfl)⟩ (E0 := "java/lang/IllegalArgumentException") htab (by decide) (by decide) (by decide +kernel) (by decide +kernel) (fun E z => z.1) (fun q9 hx88 => ?_) (fun r88 u hp => ?_)
                · skip
                  refine wq_astore C (by decide) (Nat.le_of_ble_eq_true rfl) rfl dL_ask_101 ?_
                  refine wq_bipush C (n := -62) (by decide) dL_ask_103 ?_
                  refine wq_iret C hr hlk (Nat.le_of_ble_eq_true rfl) (Nat.le_of_ble_eq_true rfl) dL_ask_105 ?_
                  exact ⟨rfl, rfl⟩
                · skip
                  exfalso
                  have hp := hp.2.1
                  omega
            · skip
              refine wq_aload_n C rfl dL_ask_70 ?_
              refine wq_iload_n C rfl dL_ask_71 ?_
              refine wq_iload_n C rfl dL_ask_72 ?_
              refine wq_xI C (av := [.inl (p2), .inl (p3)]) (index := 72) (c_X5_southQueue l hl g (lC_inj hI) σ p2 p3 hp2 hp3 S b hC hS) (cwV 2 C.1.2.2.2.2 gL_ask_X5_southQueue rfl rfl rfl (by decide +kernel) ⟨Nat.le_of_ble_eq_true rfl, Nat.le_of_ble_eq_true rfl⟩) rfl rfl (Nat.le_of_ble_eq_true rfl) dL_ask_73 ⟨(Nat.le_of_ble_eq_true rfl), (Nat.le_of_ble_eq_true rfl)⟩ (E0 := "java/lang/IllegalArgumentException") htab (by decide) (by decide) (by decide +kernel) (by decide +kernel) (fun E z => z.1) (fun q9 hx73 => ?_) (fun r73 u hp => ?_)
              · skip
                refine wq_astore C (by decide) (Nat.le_of_ble_eq_true rfl) rfl dL_ask_101 ?_
                refine wq_bipush C (n := -62) (by decide) dL_ask_103 ?_
                refine wq_iret C hr hlk (Nat.le_of_ble_eq_true rfl) (Nat.le_of_ble_eq_true rfl) dL_ask_105 ?_
                exact ⟨rfl, rfl⟩
              · skip
                exfalso
                have hp := hp.2.1
                omega
          · skip
            refine wq_aload_n C rfl dL_ask_56 ?_
            refine wq_iload_n C rfl dL_ask_57 ?_
            refine wq_iload_n C rfl dL_ask_58 ?_
            refine wq_xI C (av := [.inl (p2), .inl (p3)]) (index := 69) (c_X5_northQueue l hl g (lC_inj hI) σ p2 p3 hp2 hp3 S b hC hS) (cwV 2 C.1.2.2.2.2 gL_ask_X5_northQueue rfl rfl rfl (by decide +kernel) ⟨Nat.le_of_ble_eq_true rfl, Nat.le_of_ble_eq_true rfl⟩) rfl rfl (Nat.le_of_ble_eq_true rfl) dL_ask_59 ⟨(Nat.le_of_ble_eq_true rfl), (Nat.le_of_ble_eq_true rfl)⟩ (E0 := "java/lang/IllegalArgumentException") htab (by decide) (by decide) (by decide +kernel) (by decide +kernel) (fun E z => z.1) (fun q9 hx59 => ?_) (fun r59 u hp => ?_)
            · skip
              refine wq_astore C (by decide) (Nat.le_of_ble_eq_true rfl) rfl dL_ask_101 ?_
              refine wq_bipush C (n := -62) (by decide) dL_ask_103 ?_
              refine wq_iret C hr hlk (Nat.le_of_ble_eq_true rfl) (Nat.le_of_ble_eq_true rfl) dL_ask_105 ?_
              exact ⟨rfl, rfl⟩
            · skip
              exfalso
              have hp := hp.2.1
              omega
        · skip
          refine wq_aload_n C rfl dL_ask_43 ?_
          refine wq_iload_n C rfl dL_ask_44 ?_
          refine wq_xI C (av := [.inl (p2)]) (index := 66) (c_X5_open l hl g (lC_inj hI) σ p2 hp2 S b hC hS) (cwV 1 C.1.2.2.2.2 gL_ask_X5_open rfl rfl rfl (by decide +kernel) ⟨Nat.le_of_ble_eq_true rfl, Nat.le_of_ble_eq_true rfl⟩) rfl rfl (Nat.le_of_ble_eq_true rfl) dL_ask_45 ⟨(Nat.le_of_ble_eq_true rfl), (Nat.le_of_ble_eq_true rfl)⟩ (E0 := "java/lang/IllegalArgumentException") htab (by decide) (by decide) (by decide +kernel) (by decide +kernel) (fun E z => z.1) (fun q9 hx45 => ?_) (fun r45 u hp => ?_)
          · skip
            refine wq_astore C (by decide) (Nat.le_of_ble_eq_true rfl) rfl dL_ask_101 ?_
            refine wq_bipush C (n := -62) (by decide) dL_ask_103 ?_
            refine wq_iret C hr hlk (Nat.le_of_ble_eq_true rfl) (Nat.le_of_ble_eq_true rfl) dL_ask_105 ?_
            exact ⟨rfl, rfl⟩
          · skip
            exfalso
            have hp := hp.2.1
            omega
      · skip
        refine wq_aload_n C rfl dL_ask_30 ?_
        refine wq_iload_n C rfl dL_ask_31 ?_
        refine wq_xI C (av := [.inl (p2)]) (index := 63) (c_X5_upCredits l hl g (lC_inj hI) σ p2 hp2 S b hC hS) (cwV 1 C.1.2.2.2.2 gL_ask_X5_upCredits rfl rfl rfl (by decide +kernel) ⟨Nat.le_of_ble_eq_true rfl, Nat.le_of_ble_eq_true rfl⟩) rfl rfl (Nat.le_of_ble_eq_true rfl) dL_ask_32 ⟨(Nat.le_of_ble_eq_true rfl), (Nat.le_of_ble_eq_true rfl)⟩ (E0 := "java/lang/IllegalArgumentException") htab (by decide) (by decide) (by decide +kernel) (by decide +kernel) (fun E z => z.1) (fun q9 hx32 => ?_) (fun r32 u hp => ?_)
        · skip
          refine wq_astore C (by decide) (Nat.le_of_ble_eq_true rfl) rfl dL_ask_101 ?_
          refine wq_bipush C (n := -62) (by decide) dL_ask_103 ?_
          refine wq_iret C hr hlk (Nat.le_of_ble_eq_true rfl) (Nat.le_of_ble_eq_true rfl) dL_ask_105 ?_
          exact ⟨rfl, rfl⟩
        · skip
          exfalso
          have hp := hp.2.1
          omega
    · skip
      refine wq_aload_n C rfl dL_ask_17 ?_
      refine wq_iload_n C rfl dL_ask_18 ?_
      refine wq_xI C (av := [.inl (p2)]) (index := 60) (c_X5_downQueue l hl g (lC_inj hI) σ p2 hp2 S b hC hS) (cwV 1 C.1.2.2.2.2 gL_ask_X5_downQueue rfl rfl rfl (by decide +kernel) ⟨Nat.le_of_ble_eq_true rfl, Nat.le_of_ble_eq_true rfl⟩) rfl rfl (Nat.le_of_ble_eq_true rfl) dL_ask_19 ⟨(Nat.le_of_ble_eq_true rfl), (Nat.le_of_ble_eq_true rfl)⟩ (E0 := "java/lang/IllegalArgumentException") htab (by decide) (by decide) (by decide +kernel) (by decide +kernel) (fun E z => z.1) (fun q9 hx19 => ?_) (fun r19 u hp => ?_)
      · skip
        refine wq_astore C (by decide) (Nat.le_of_ble_eq_true rfl) rfl dL_ask_101 ?_
        refine wq_bipush C (n := -62) (by decide) dL_ask_103 ?_
        refine wq_iret C hr hlk (Nat.le_of_ble_eq_true rfl) (Nat.le_of_ble_eq_true rfl) dL_ask_105 ?_
        exact ⟨rfl, rfl⟩
      · skip
        exfalso
        have hp := hp.2.1
        omega
  · skip
    refine wq_aload_n C rfl dL_ask_4 ?_
    refine wq_iload_n C rfl dL_ask_5 ?_
    refine wq_xI C (av := [.inl (p2)]) (index := 57) (c_X5_upQueue l hl g (lC_inj hI) σ p2 hp2 S b hC hS) (cwV 1 C.1.2.2.2.2 gL_ask_X5_upQueue rfl rfl rfl (by decide +kernel) ⟨Nat.le_of_ble_eq_true rfl, Nat.le_of_ble_eq_true rfl⟩) rfl rfl (Nat.le_of_ble_eq_true rfl) dL_ask_6 ⟨(Nat.le_of_ble_eq_true rfl), (Nat.le_of_ble_eq_true rfl)⟩ (E0 := "java/lang/IllegalArgumentException") htab (by decide) (by decide) (by decide +kernel) (by decide +kernel) (fun E z => z.1) (fun q9 hx6 => ?_) (fun r6 u hp => ?_)
    · skip
      refine wq_astore C (by decide) (Nat.le_of_ble_eq_true rfl) rfl dL_ask_101 ?_
      refine wq_bipush C (n := -62) (by decide) dL_ask_103 ?_
      refine wq_iret C hr hlk (Nat.le_of_ble_eq_true rfl) (Nat.le_of_ble_eq_true rfl) dL_ask_105 ?_
      exact ⟨rfl, rfl⟩
    · skip
      exfalso
      have hp := hp.2.1
      omega
