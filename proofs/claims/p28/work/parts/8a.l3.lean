set_option maxRecDepth 100000 in
set_option maxHeartbeats 4000000 in
theorem w_areFlows (l : Launch) (hl : l.stackTraces = false) (g : am_g) (hI : am_inj (gL g)) (σ : am_M)  (S : ab_S) (hw : lW S σ) : Met l yL_areFlows wsL_areFlows ({ frames := 9, cells := 2, slots := 12, locals := 147 }) (lP g σ [.ref ((g.2.2 0 0)), .ref ((g.2.2 60 0)), .ref ((g.2.2 61 0))]) (lQ g (fun r σ' => σ' = σ ∧ r = 1)) 2 12 (am_FA (gL g)) := by
  refine wq_start (cc := cL_areFlows) (nL := 9) (ret := (some .boolean)) (by decide) rfl hI rfl (fun v hv => by simp only [List.mem_cons, List.not_mem_nil, or_false] at hv; rcases hv with rfl | rfl | rfl <;> rfl) (Nat.le_of_ble_eq_true rfl) ?_
  intro p e s m below meth c C hr hlk
  change wq g p l e (headSpec wsL_areFlows ({ frames := 9, cells := 2, slots := 12, locals := 147 })).room s m ([.ref ((g.2.2 0 0)), .ref ((g.2.2 60 0)), .ref ((g.2.2 61 0))] : List Value).toArray below meth c (0) (0) (MQ below (lQ g (fun r σ' => σ' = σ ∧ r = 1)) ([.ref ((g.2.2 0 0)), .ref ((g.2.2 60 0)), .ref ((g.2.2 61 0))] : List Value).toArray s 2 12 (am_FA (gL g))) (am_FA (gL g)) 9 0 [some (.ref ((g.2.2 0 0))), some (.ref ((g.2.2 60 0))), some (.ref ((g.2.2 61 0))), none, none, none, none, none, none] [] σ
  obtain ⟨hC, hS, hJ, hp, hcl, hfn, hm0, hm1, hm2, hm3⟩ := id hw
  have hn24 := hS.2.1.2.2.2.2
  have hn : ((ab_n S : Nat) : Int) = S 19 4 := Int.toNat_of_nonneg hn24.1
  have hc0 := hS.2.1.2.2.2.1
  have hwd := hS.2.1.2.2.1
  have hdl := hS.2.1.1
  refine wq_aload_n C rfl dL_areFlows_0 ?_
  refine wq_aload_n C rfl dL_areFlows_1 ?_
  refine wq_cI C (av := []) (index := 98) (c_X5_clock l g (lC_inj hI) σ S (48 * S 19 3) hC hS) (cwV 0 C.1.2.2.2.2 gL_areFlows_X5_clock rfl rfl rfl (by decide +kernel) ⟨Nat.le_of_ble_eq_true rfl, Nat.le_of_ble_eq_true rfl⟩) rfl rfl (Nat.le_of_ble_eq_true rfl) dL_areFlows_2 ⟨(Nat.le_of_ble_eq_true rfl), (Nat.le_of_ble_eq_true rfl)⟩ (fun r2 σ2 hp2 => ?_)
  obtain ⟨hsg2, hr2⟩ := hp2
  rw [hsg2, l_mix_s]
  obtain rfl : r2 = S 19 3 := hr2.trans (by first | rfl | (congr 1; omega))
  refine wq_bipush C (n := 7) (by decide) dL_areFlows_5 ?_
  refine wq_irem C (by omega) (by omega) dL_areFlows_7 ?_
  refine wq_aload_n C rfl dL_areFlows_8 ?_
  refine wq_cI C (av := []) (index := 92) (c_X5_flows l g (lC_inj hI) σ S (48 * S 19 3) hC hS) (cwV 0 C.1.2.2.2.2 gL_areFlows_X5_flows rfl rfl rfl (by decide +kernel) ⟨Nat.le_of_ble_eq_true rfl, Nat.le_of_ble_eq_true rfl⟩) rfl rfl (Nat.le_of_ble_eq_true rfl) dL_areFlows_9 ⟨(Nat.le_of_ble_eq_true rfl), (Nat.le_of_ble_eq_true rfl)⟩ (fun r9 σ9 hp9 => ?_)
  obtain ⟨hsg9, hr9⟩ := hp9
  rw [hsg9, l_mix_s]
  obtain rfl : r9 = S 19 4 := hr9.trans (by first | rfl | (congr 1; omega))
  refine wq_sW C (av := [.ref ((g.2.2 0 0)), qi ((S 19 3) % (7)), qi (S 19 4)]) (index := 137) (w_of l hl g hI σ _ _ (by omega) (by omega) S (48 * S 19 3) hC hS (by omega)) (vx_cwSW 3 C.1.2.2.2.2 gL_areFlows_L_of rfl rfl rfl (by decide +kernel) ⟨Nat.le_of_ble_eq_true rfl, Nat.le_of_ble_eq_true rfl⟩) rfl rfl (Nat.le_of_ble_eq_true rfl) dL_areFlows_12 ⟨(Nat.le_of_ble_eq_true rfl), (Nat.le_of_ble_eq_true rfl)⟩ (fun r12 σ12 hp12 => ?_)
  obtain ⟨hsg12, rfl⟩ := hp12
  rw [hsg12]
  refine wq_bipush C (n := -61) (by decide) dL_areFlows_15 ?_
  refine wq_icmp_ne C 41 (by omega) (by omega) (by decide) dL_areFlows_17 (fun hc17 => ?_) (fun hc17 => ?_)
  · skip
    exfalso; omega
  · skip
    refine wq_aload_n C rfl dL_areFlows_20 ?_
    refine wq_aload_n C rfl dL_areFlows_21 ?_
    refine wq_cI C (av := []) (index := 98) (c_X5_clock l g (lC_inj hI) σ S (48 * S 19 3) hC hS) (cwV 0 C.1.2.2.2.2 gL_areFlows_X5_clock rfl rfl rfl (by decide +kernel) ⟨Nat.le_of_ble_eq_true rfl, Nat.le_of_ble_eq_true rfl⟩) rfl rfl (Nat.le_of_ble_eq_true rfl) dL_areFlows_22 ⟨(Nat.le_of_ble_eq_true rfl), (Nat.le_of_ble_eq_true rfl)⟩ (fun r22 σ22 hp22 => ?_)
    obtain ⟨hsg22, hr22⟩ := hp22
    rw [hsg22, l_mix_s]
    obtain rfl : r22 = S 19 3 := hr22.trans (by first | rfl | (congr 1; omega))
    refine wq_bipush C (n := 7) (by decide) dL_areFlows_25 ?_
    refine wq_irem C (by omega) (by omega) dL_areFlows_27 ?_
    refine wq_iconst C dL_areFlows_28 ?_
    refine wq_sW C (av := [.ref ((g.2.2 0 0)), qi ((S 19 3) % (7)), qi (-1)]) (index := 137) (w_of l hl g hI σ _ _ (by omega) (by omega) S (48 * S 19 3) hC hS (by omega)) (vx_cwSW 3 C.1.2.2.2.2 gL_areFlows_L_of rfl rfl rfl (by decide +kernel) ⟨Nat.le_of_ble_eq_true rfl, Nat.le_of_ble_eq_true rfl⟩) rfl rfl (Nat.le_of_ble_eq_true rfl) dL_areFlows_29 ⟨(Nat.le_of_ble_eq_true rfl), (Nat.le_of_ble_eq_true rfl)⟩ (fun r29 σ29 hp29 => ?_)
    obtain ⟨hsg29, rfl⟩ := hp29
    rw [hsg29]
    refine wq_bipush C (n := -61) (by decide) dL_areFlows_32 ?_
    refine wq_icmp_ne C 41 (by omega) (by omega) (by decide) dL_areFlows_34 (fun hc34 => ?_) (fun hc34 => ?_)
    · skip
      exfalso; omega
    · skip
      refine wq_iconst C dL_areFlows_37 ?_
      refine wq_goto C 42 (by decide) dL_areFlows_38 ?_
      refine wq_istore_n C (by decide) (Nat.le_of_ble_eq_true rfl) rfl dL_areFlows_42 ?_
      refine wq_iconst C dL_areFlows_43 ?_
      refine wq_istore C (by decide) (Nat.le_of_ble_eq_true rfl) rfl dL_areFlows_44 ?_
      have hl46 : ∀ (dk k : Nat), ab_n S + 1 ≤ k + dk → k ≤ ab_n S → wq g p l e (headSpec wsL_areFlows ({ frames := 9, cells := 2, slots := 12, locals := 147 })).room s m ([.ref ((g.2.2 0 0)), .ref ((g.2.2 60 0)), .ref ((g.2.2 61 0))] : List Value).toArray below meth c (2) (12) (MQ below (lQ g (fun r σ' => σ' = σ ∧ r = 1)) ([.ref ((g.2.2 0 0)), .ref ((g.2.2 60 0)), .ref ((g.2.2 61 0))] : List Value).toArray s 2 12 (am_FA (gL g))) (am_FA (gL g)) 9 46 [some (.ref ((g.2.2 0 0))), some (.ref ((g.2.2 60 0))), some (.ref ((g.2.2 61 0))), some (qi (1)), some (qi (((k : Nat) : Int))), none, none, none, none] [] σ := by
        intro dk
        induction dk with
        | zero => intro k h1 h2; omega
        | succ dk ihk =>
          intro k h1k h2k
          refine wq_iload C rfl dL_areFlows_46 ?_
          refine wq_aload_n C rfl dL_areFlows_48 ?_
          refine wq_cI C (av := []) (index := 92) (c_X5_flows l g (lC_inj hI) σ S (48 * S 19 3) hC hS) (cwV 0 C.1.2.2.2.2 gL_areFlows_X5_flows rfl rfl rfl (by decide +kernel) ⟨Nat.le_of_ble_eq_true rfl, Nat.le_of_ble_eq_true rfl⟩) rfl rfl (Nat.le_of_ble_eq_true rfl) dL_areFlows_49 ⟨(Nat.le_of_ble_eq_true rfl), (Nat.le_of_ble_eq_true rfl)⟩ (fun r49 σ49 hp49 => ?_)
          obtain ⟨hsg49, hr49⟩ := hp49
          rw [hsg49, l_mix_s]
          obtain rfl : r49 = S 19 4 := hr49.trans (by first | rfl | (congr 1; omega))
          refine wq_icmp_ge C 363 (by omega) (by omega) (by decide) dL_areFlows_52 (fun hc52 => ?_) (fun hc52 => ?_)
          · skip
            refine wq_iconst C dL_areFlows_363 ?_
            refine wq_istore C (by decide) (Nat.le_of_ble_eq_true rfl) rfl dL_areFlows_364 ?_
            have hl366 : ∀ (dh h : Nat), 17 ≤ h + dh → h ≤ 16 → wq g p l e (headSpec wsL_areFlows ({ frames := 9, cells := 2, slots := 12, locals := 147 })).room s m ([.ref ((g.2.2 0 0)), .ref ((g.2.2 60 0)), .ref ((g.2.2 61 0))] : List Value).toArray below meth c (2) (12) (MQ below (lQ g (fun r σ' => σ' = σ ∧ r = 1)) ([.ref ((g.2.2 0 0)), .ref ((g.2.2 60 0)), .ref ((g.2.2 61 0))] : List Value).toArray s 2 12 (am_FA (gL g))) (am_FA (gL g)) 9 366 [some (.ref ((g.2.2 0 0))), some (.ref ((g.2.2 60 0))), some (.ref ((g.2.2 61 0))), some (qi (1)), some (qi (((h : Nat) : Int))), none, none, none, none] [] σ := by
              intro dh
              induction dh with
              | zero => intro h h1 h2; omega
              | succ dh ihh =>
                intro h h1h h2h
                refine wq_iload C rfl dL_areFlows_366 ?_
                refine wq_bipush C (n := 16) (by decide) dL_areFlows_368 ?_
                refine wq_icmp_ge C 469 (by omega) (by omega) (by decide) dL_areFlows_370 (fun hc370 => ?_) (fun hc370 => ?_)
                · skip
                  refine wq_iload_n C rfl dL_areFlows_469 ?_
                  refine wq_zret C hr hlk (Nat.le_of_ble_eq_true rfl) (Nat.le_of_ble_eq_true rfl) (by omega) dL_areFlows_470 ?_
                  exact ⟨rfl, rfl⟩
                · skip
                  refine wq_iload_n C rfl dL_areFlows_373 ?_
                  refine wq_if_eq C 469 (by omega) (by decide) dL_areFlows_374 (fun hc374 => ?_) (fun hc374 => ?_)
                  · skip
                    exfalso; omega
                  · skip
                    refine wq_iconst C dL_areFlows_377 ?_
                    refine wq_istore C (by decide) (Nat.le_of_ble_eq_true rfl) rfl dL_areFlows_378 ?_
                    refine wq_iconst C dL_areFlows_380 ?_
                    refine wq_istore C (by decide) (Nat.le_of_ble_eq_true rfl) rfl dL_areFlows_381 ?_
                    have hl383 : ∀ (dj j : Nat), ab_n S + 1 ≤ j + dj → j ≤ ab_n S → wq g p l e (headSpec wsL_areFlows ({ frames := 9, cells := 2, slots := 12, locals := 147 })).room s m ([.ref ((g.2.2 0 0)), .ref ((g.2.2 60 0)), .ref ((g.2.2 61 0))] : List Value).toArray below meth c (2) (12) (MQ below (lQ g (fun r σ' => σ' = σ ∧ r = 1)) ([.ref ((g.2.2 0 0)), .ref ((g.2.2 60 0)), .ref ((g.2.2 61 0))] : List Value).toArray s 2 12 (am_FA (gL g))) (am_FA (gL g)) 9 383 [some (.ref ((g.2.2 0 0))), some (.ref ((g.2.2 60 0))), some (.ref ((g.2.2 61 0))), some (qi (1)), some (qi (((h : Nat) : Int))), some (qi (am_sum (fun f => if S 1 f = ((h : Nat) : Int) then S 4 f - S 5 f - S 6 f else 0) j)), some (qi (((j : Nat) : Int))), none, none] [] σ := by
                      intro dj
                      induction dj with
                      | zero => intro j h1 h2; omega
                      | succ dj ihj =>
                        intro j h1j h2j
                        refine wq_iload C rfl dL_areFlows_383 ?_
                        refine wq_aload_n C rfl dL_areFlows_385 ?_
                        refine wq_cI C (av := []) (index := 92) (c_X5_flows l g (lC_inj hI) σ S (48 * S 19 3) hC hS) (cwV 0 C.1.2.2.2.2 gL_areFlows_X5_flows rfl rfl rfl (by decide +kernel) ⟨Nat.le_of_ble_eq_true rfl, Nat.le_of_ble_eq_true rfl⟩) rfl rfl (Nat.le_of_ble_eq_true rfl) dL_areFlows_386 ⟨(Nat.le_of_ble_eq_true rfl), (Nat.le_of_ble_eq_true rfl)⟩ (fun r386 σ386 hp386 => ?_)
                        obtain ⟨hsg386, hr386⟩ := hp386
                        rw [hsg386, l_mix_s]
                        obtain rfl : r386 = S 19 4 := hr386.trans (by first | rfl | (congr 1; omega))
                        refine wq_icmp_ge C 438 (by omega) (by omega) (by decide) dL_areFlows_389 (fun hc389 => ?_) (fun hc389 => ?_)
                        · skip
                          obtain rfl : j = ab_n S := by omega
                          have hs : am_sum (fun f => if S 1 f = ((h : Nat) : Int) then S 4 f - S 5 f - S 6 f else 0) (ab_n S) = S 16 h := (hp.1.2.1 h (by omega)).symm
                          rw [hs]
                          have h16 := (hS.2.2.2.2.2.1 h (by omega)).1
                          have hwn := hp.1.2.2 h (by omega)
                          refine wq_aload_n C rfl dL_areFlows_438 ?_
                          refine wq_iload C rfl dL_areFlows_439 ?_
                          refine wq_cI C (av := [.inl (((h : Nat) : Int))]) (index := 66) (z_X5_open l g (lC_inj hI) σ (((h : Nat) : Int)) S (48 * S 19 3) hC hS (by omega)) (cwV 1 C.1.2.2.2.2 gL_areFlows_X5_open rfl rfl rfl (by decide +kernel) ⟨Nat.le_of_ble_eq_true rfl, Nat.le_of_ble_eq_true rfl⟩) rfl rfl (Nat.le_of_ble_eq_true rfl) dL_areFlows_441 ⟨(Nat.le_of_ble_eq_true rfl), (Nat.le_of_ble_eq_true rfl)⟩ (fun r441 σ441 hp441 => ?_)
                          obtain ⟨hsg441, hr441⟩ := hp441
                          rw [hsg441, l_mix_s]
                          obtain rfl : r441 = S 16 h := hr441.trans (by first | rfl | (congr 1; omega))
                          refine wq_iload C rfl dL_areFlows_444 ?_
                          refine wq_icmp_ne C 461 (by omega) (by omega) (by decide) dL_areFlows_446 (fun hc446 => ?_) (fun hc446 => ?_)
                          · skip
                            exfalso; omega
                          · skip
                            refine wq_iload C rfl dL_areFlows_449 ?_
                            refine wq_aload_n C rfl dL_areFlows_451 ?_
                            refine wq_iconst C dL_areFlows_452 ?_
                            refine wq_iald C (k := 61) (n := 4) rfl (by decide) (by decide) (2) rfl (by omega) dL_areFlows_453 ?_
                            rw [hm2]
                            refine wq_icmp_gt C 461 (by omega) (by omega) (by decide) dL_areFlows_454 (fun hc454 => ?_) (fun hc454 => ?_)
                            · skip
                              exfalso; omega
                            · skip
                              refine wq_iconst C dL_areFlows_457 ?_
                              refine wq_goto C 462 (by decide) dL_areFlows_458 ?_
                              refine wq_istore_n C (by decide) (Nat.le_of_ble_eq_true rfl) rfl dL_areFlows_462 ?_
                              refine wq_iinc C rfl (by decide) rfl dL_areFlows_463 ?_
                              refine wq_goto C 366 (by decide) dL_areFlows_466 ?_
                              refine wq_lz (lw := [some (.ref ((g.2.2 0 0))), some (.ref ((g.2.2 60 0))), some (.ref ((g.2.2 61 0))), some (qi (1)), some (qi ((((h + 1 : Nat) : Nat) : Int))), none, none, none, none]) ?_ (ihh (h + 1) (by omega) (by omega))
                              repeat (first | exact lz_0 | refine lz_s ?_ | refine lz_n ?_)
                        · skip
                          have hk : ((j : Nat) : Int) < S 19 4 := by omega
                          obtain ⟨e0, e1, e2, e3, -⟩ := enc_f hw hk
                          have i := hS.2.2.1 j hk
                          unfold ab_If at i
                          obtain ⟨-, -, -, -, i4, i5, i6, -⟩ := i
                          refine wq_iload C rfl dL_areFlows_392 ?_
                          refine wq_aload_n C rfl dL_areFlows_394 ?_
                          refine wq_iload C rfl dL_areFlows_395 ?_
                          refine wq_sI C (av := [.ref ((g.2.2 60 0)), qi (((j : Nat) : Int))]) (index := 87) (w_target l hl g hI σ j S hw hk) (va_cwS 2 C.1.2.2.2.2 gL_areFlows_L_target rfl rfl rfl (by decide +kernel) ⟨Nat.le_of_ble_eq_true rfl, Nat.le_of_ble_eq_true rfl⟩) rfl rfl (Nat.le_of_ble_eq_true rfl) dL_areFlows_397 ⟨(Nat.le_of_ble_eq_true rfl), (Nat.le_of_ble_eq_true rfl)⟩ (fun r397 σ397 hp397 => ?_)
                          obtain ⟨hsg397, rfl⟩ := hp397
                          rw [hsg397]
                          refine wq_iload C rfl dL_areFlows_400 ?_
                          refine wq_icmp_ne C 428 (by omega) (by omega) (by decide) dL_areFlows_402 (fun hc402 => ?_) (fun hc402 => ?_)
                          · skip
                            refine wq_iconst C dL_areFlows_428 ?_
                            refine wq_iadd C dL_areFlows_429 ?_
                            refine wq_istore C (by decide) (Nat.le_of_ble_eq_true rfl) rfl dL_areFlows_430 ?_
                            refine wq_iinc C rfl (by decide) rfl dL_areFlows_432 ?_
                            refine wq_goto C 383 (by decide) dL_areFlows_435 ?_
                            have hag : (am_sum (fun f => if S 1 f = ((h : Nat) : Int) then S 4 f - S 5 f - S 6 f else 0) j) + (0) = am_sum (fun f => if S 1 f = ((h : Nat) : Int) then S 4 f - S 5 f - S 6 f else 0) (j + 1) := by
                              rw [am_sum]
                              first | rw [if_pos (by omega)] | rw [if_neg (by omega)]
                            rw [hag]
                            exact ihj (j + 1) (by omega) (by omega)
                          · skip
                            refine wq_aload_n C rfl dL_areFlows_405 ?_
                            refine wq_iload C rfl dL_areFlows_406 ?_
                            refine wq_cI C (av := [.inl (((j : Nat) : Int))]) (index := 34) (z_X5_sent l g (lC_inj hI) σ (((j : Nat) : Int)) S (48 * S 19 3) hC hS (by omega)) (cwV 1 C.1.2.2.2.2 gL_areFlows_X5_sent rfl rfl rfl (by decide +kernel) ⟨Nat.le_of_ble_eq_true rfl, Nat.le_of_ble_eq_true rfl⟩) rfl rfl (Nat.le_of_ble_eq_true rfl) dL_areFlows_408 ⟨(Nat.le_of_ble_eq_true rfl), (Nat.le_of_ble_eq_true rfl)⟩ (fun r408 σ408 hp408 => ?_)
                            obtain ⟨hsg408, hr408⟩ := hp408
                            rw [hsg408, l_mix_s]
                            obtain rfl : r408 = S 4 j := hr408.trans (by first | rfl | (congr 1; omega))
                            refine wq_aload_n C rfl dL_areFlows_411 ?_
                            refine wq_iload C rfl dL_areFlows_412 ?_
                            refine wq_cI C (av := [.inl (((j : Nat) : Int))]) (index := 37) (z_X5_delivered l g (lC_inj hI) σ (((j : Nat) : Int)) S (48 * S 19 3) hC hS (by omega)) (cwV 1 C.1.2.2.2.2 gL_areFlows_X5_delivered rfl rfl rfl (by decide +kernel) ⟨Nat.le_of_ble_eq_true rfl, Nat.le_of_ble_eq_true rfl⟩) rfl rfl (Nat.le_of_ble_eq_true rfl) dL_areFlows_414 ⟨(Nat.le_of_ble_eq_true rfl), (Nat.le_of_ble_eq_true rfl)⟩ (fun r414 σ414 hp414 => ?_)
                            obtain ⟨hsg414, hr414⟩ := hp414
                            rw [hsg414, l_mix_s]
                            obtain rfl : r414 = S 5 j := hr414.trans (by first | rfl | (congr 1; omega))
                            refine wq_isub C dL_areFlows_417 ?_
                            refine wq_aload_n C rfl dL_areFlows_418 ?_
                            refine wq_iload C rfl dL_areFlows_419 ?_
                            refine wq_cI C (av := [.inl (((j : Nat) : Int))]) (index := 40) (z_X5_lost l g (lC_inj hI) σ (((j : Nat) : Int)) S (48 * S 19 3) hC hS (by omega)) (cwV 1 C.1.2.2.2.2 gL_areFlows_X5_lost rfl rfl rfl (by decide +kernel) ⟨Nat.le_of_ble_eq_true rfl, Nat.le_of_ble_eq_true rfl⟩) rfl rfl (Nat.le_of_ble_eq_true rfl) dL_areFlows_421 ⟨(Nat.le_of_ble_eq_true rfl), (Nat.le_of_ble_eq_true rfl)⟩ (fun r421 σ421 hp421 => ?_)
                            obtain ⟨hsg421, hr421⟩ := hp421
                            rw [hsg421, l_mix_s]
                            obtain rfl : r421 = S 6 j := hr421.trans (by first | rfl | (congr 1; omega))
                            refine wq_isub C dL_areFlows_424 ?_
                            refine wq_goto C 429 (by decide) dL_areFlows_425 ?_
                            refine wq_iadd C dL_areFlows_429 ?_
                            refine wq_istore C (by decide) (Nat.le_of_ble_eq_true rfl) rfl dL_areFlows_430 ?_
                            refine wq_iinc C rfl (by decide) rfl dL_areFlows_432 ?_
                            refine wq_goto C 383 (by decide) dL_areFlows_435 ?_
                            have hag : (am_sum (fun f => if S 1 f = ((h : Nat) : Int) then S 4 f - S 5 f - S 6 f else 0) j) + (((S 4 j) - (S 5 j)) - (S 6 j)) = am_sum (fun f => if S 1 f = ((h : Nat) : Int) then S 4 f - S 5 f - S 6 f else 0) (j + 1) := by
                              rw [am_sum]
                              first | rw [if_pos (by omega)] | rw [if_neg (by omega)]
                            rw [hag]
                            exact ihj (j + 1) (by omega) (by omega)
                    exact hl383 (ab_n S + 1) 0 (by omega) (by omega)
            exact hl366 (17) 0 (by omega) (by omega)
          · skip
            have hk : ((k : Nat) : Int) < S 19 4 := by omega
            obtain ⟨e0, e1, e2, e3, -⟩ := enc_f hw hk
            obtain ⟨a1, a2, -, a4, a5, a6, a7, a8⟩ := (hp.1.1 k hk).1
            have tn := tt_nn S k
            have hj := hJ k hk
            have i := hS.2.2.1 k hk
            unfold ab_If at i
            obtain ⟨-, -, -, -, i4, i5, i6, i7, i8, i9, i10, i11, i12, i13, i14⟩ := i
            have c5 : S 7 k = 0 ∨ S 7 k < S 5 k := by
              rcases (by omega : S 5 k = 0 ∨ 0 < S 5 k) with z | z
              · exact Or.inl (a5.1 z).1
              · exact Or.inr (a5.2 z)
            have c4 : (S 5 k = S 2 k ∧ S 3 k + S 2 k + 1 ≤ S 9 k ∧ S 9 k < S 19 3) ∨ (¬ S 5 k = S 2 k ∧ S 9 k = -1) := by
              by_cases z : S 5 k = S 2 k
              · exact Or.inl ⟨z, a4.1 z⟩
              · exact Or.inr ⟨z, a4.2 z⟩
            have c2 : S 4 k = 0 ∨ S 4 k ≤ S 19 3 - S 3 k := by
              rcases (by omega : S 4 k = 0 ∨ 0 < S 4 k) with z | z
              · exact Or.inl z
              · exact Or.inr (a2 z)
            refine wq_iload_n C rfl dL_areFlows_55 ?_
            refine wq_if_eq C 363 (by omega) (by decide) dL_areFlows_56 (fun hc56 => ?_) (fun hc56 => ?_)
            · skip
              exfalso; omega
            · skip
              refine wq_aload_n C rfl dL_areFlows_59 ?_
              refine wq_iload C rfl dL_areFlows_60 ?_
              refine wq_cI C (av := [.inl (((k : Nat) : Int))]) (index := 34) (z_X5_sent l g (lC_inj hI) σ (((k : Nat) : Int)) S (48 * S 19 3) hC hS (by omega)) (cwV 1 C.1.2.2.2.2 gL_areFlows_X5_sent rfl rfl rfl (by decide +kernel) ⟨Nat.le_of_ble_eq_true rfl, Nat.le_of_ble_eq_true rfl⟩) rfl rfl (Nat.le_of_ble_eq_true rfl) dL_areFlows_62 ⟨(Nat.le_of_ble_eq_true rfl), (Nat.le_of_ble_eq_true rfl)⟩ (fun r62 σ62 hp62 => ?_)
              obtain ⟨hsg62, hr62⟩ := hp62
              rw [hsg62, l_mix_s]
              obtain rfl : r62 = S 4 k := hr62.trans (by first | rfl | (congr 1; omega))
              refine wq_istore C (by decide) (Nat.le_of_ble_eq_true rfl) rfl dL_areFlows_65 ?_
              refine wq_aload_n C rfl dL_areFlows_67 ?_
              refine wq_iload C rfl dL_areFlows_68 ?_
              refine wq_cI C (av := [.inl (((k : Nat) : Int))]) (index := 37) (z_X5_delivered l g (lC_inj hI) σ (((k : Nat) : Int)) S (48 * S 19 3) hC hS (by omega)) (cwV 1 C.1.2.2.2.2 gL_areFlows_X5_delivered rfl rfl rfl (by decide +kernel) ⟨Nat.le_of_ble_eq_true rfl, Nat.le_of_ble_eq_true rfl⟩) rfl rfl (Nat.le_of_ble_eq_true rfl) dL_areFlows_70 ⟨(Nat.le_of_ble_eq_true rfl), (Nat.le_of_ble_eq_true rfl)⟩ (fun r70 σ70 hp70 => ?_)
              obtain ⟨hsg70, hr70⟩ := hp70
              rw [hsg70, l_mix_s]
              obtain rfl : r70 = S 5 k := hr70.trans (by first | rfl | (congr 1; omega))
              refine wq_istore C (by decide) (Nat.le_of_ble_eq_true rfl) rfl dL_areFlows_73 ?_
              refine wq_aload_n C rfl dL_areFlows_75 ?_
              refine wq_iload C rfl dL_areFlows_76 ?_
              refine wq_cI C (av := [.inl (((k : Nat) : Int))]) (index := 40) (z_X5_lost l g (lC_inj hI) σ (((k : Nat) : Int)) S (48 * S 19 3) hC hS (by omega)) (cwV 1 C.1.2.2.2.2 gL_areFlows_X5_lost rfl rfl rfl (by decide +kernel) ⟨Nat.le_of_ble_eq_true rfl, Nat.le_of_ble_eq_true rfl⟩) rfl rfl (Nat.le_of_ble_eq_true rfl) dL_areFlows_78 ⟨(Nat.le_of_ble_eq_true rfl), (Nat.le_of_ble_eq_true rfl)⟩ (fun r78 σ78 hp78 => ?_)
              obtain ⟨hsg78, hr78⟩ := hp78
              rw [hsg78, l_mix_s]
              obtain rfl : r78 = S 6 k := hr78.trans (by first | rfl | (congr 1; omega))
              refine wq_istore C (by decide) (Nat.le_of_ble_eq_true rfl) rfl dL_areFlows_81 ?_
              refine wq_aload_n C rfl dL_areFlows_83 ?_
              refine wq_iload C rfl dL_areFlows_84 ?_
              refine wq_cI C (av := [.inl (((k : Nat) : Int))]) (index := 46) (z_X5_doneIn l g (lC_inj hI) σ (((k : Nat) : Int)) S (48 * S 19 3) hC hS (by omega)) (cwV 1 C.1.2.2.2.2 gL_areFlows_X5_doneIn rfl rfl rfl (by decide +kernel) ⟨Nat.le_of_ble_eq_true rfl, Nat.le_of_ble_eq_true rfl⟩) rfl rfl (Nat.le_of_ble_eq_true rfl) dL_areFlows_86 ⟨(Nat.le_of_ble_eq_true rfl), (Nat.le_of_ble_eq_true rfl)⟩ (fun r86 σ86 hp86 => ?_)
              obtain ⟨hsg86, hr86⟩ := hp86
              rw [hsg86, l_mix_s]
              obtain rfl : r86 = S 9 k := hr86.trans (by first | rfl | (congr 1; omega))
              refine wq_istore C (by decide) (Nat.le_of_ble_eq_true rfl) rfl dL_areFlows_89 ?_
              have hj351 :  wq g p l e (headSpec wsL_areFlows ({ frames := 9, cells := 2, slots := 12, locals := 147 })).room s m ([.ref ((g.2.2 0 0)), .ref ((g.2.2 60 0)), .ref ((g.2.2 61 0))] : List Value).toArray below meth c (2) (12) (MQ below (lQ g (fun r σ' => σ' = σ ∧ r = 1)) ([.ref ((g.2.2 0 0)), .ref ((g.2.2 60 0)), .ref ((g.2.2 61 0))] : List Value).toArray s 2 12 (am_FA (gL g))) (am_FA (gL g)) 9 351 [some (.ref ((g.2.2 0 0))), some (.ref ((g.2.2 60 0))), some (.ref ((g.2.2 61 0))), some (qi (1)), some (qi (((k : Nat) : Int))), some (qi (S 4 k)), some (qi (S 5 k)), some (qi (S 6 k)), some (qi (S 9 k))] [] σ := by
                refine wq_iconst C dL_areFlows_351 ?_
                refine wq_goto C 356 (by decide) dL_areFlows_352 ?_
                refine wq_istore_n C (by decide) (Nat.le_of_ble_eq_true rfl) rfl dL_areFlows_356 ?_
                refine wq_iinc C rfl (by decide) rfl dL_areFlows_357 ?_
                refine wq_goto C 46 (by decide) dL_areFlows_360 ?_
                refine wq_lz (lw := [some (.ref ((g.2.2 0 0))), some (.ref ((g.2.2 60 0))), some (.ref ((g.2.2 61 0))), some (qi (1)), some (qi ((((k + 1 : Nat) : Nat) : Int))), none, none, none, none]) ?_ (ihk (k + 1) (by omega) (by omega))
                repeat (first | exact lz_0 | refine lz_s ?_ | refine lz_n ?_)
              have hj267 : ab_far S k = true → ((S 4 k = 0 ∧ S 10 k = 0 ∧ S 11 k = -1) ∨ (0 < S 4 k ∧ 0 < S 10 k ∧ 0 ≤ S 11 k)) → wq g p l e (headSpec wsL_areFlows ({ frames := 9, cells := 2, slots := 12, locals := 147 })).room s m ([.ref ((g.2.2 0 0)), .ref ((g.2.2 60 0)), .ref ((g.2.2 61 0))] : List Value).toArray below meth c (2) (12) (MQ below (lQ g (fun r σ' => σ' = σ ∧ r = 1)) ([.ref ((g.2.2 0 0)), .ref ((g.2.2 60 0)), .ref ((g.2.2 61 0))] : List Value).toArray s 2 12 (am_FA (gL g))) (am_FA (gL g)) 9 267 [some (.ref ((g.2.2 0 0))), some (.ref ((g.2.2 60 0))), some (.ref ((g.2.2 61 0))), some (qi (1)), some (qi (((k : Nat) : Int))), some (qi (S 4 k)), some (qi (S 5 k)), some (qi (S 6 k)), some (qi (S 9 k))] [] σ := by
                intro hf c6
                obtain ⟨f1, f2, f3⟩ := a6 hf
                refine wq_aload_n C rfl dL_areFlows_267 ?_
                refine wq_iload C rfl dL_areFlows_268 ?_
                refine wq_cI C (av := [.inl (((k : Nat) : Int))]) (index := 49) (z_X5_flowlets l g (lC_inj hI) σ (((k : Nat) : Int)) S (48 * S 19 3) hC hS (by omega)) (cwV 1 C.1.2.2.2.2 gL_areFlows_X5_flowlets rfl rfl rfl (by decide +kernel) ⟨Nat.le_of_ble_eq_true rfl, Nat.le_of_ble_eq_true rfl⟩) rfl rfl (Nat.le_of_ble_eq_true rfl) dL_areFlows_270 ⟨(Nat.le_of_ble_eq_true rfl), (Nat.le_of_ble_eq_true rfl)⟩ (fun r270 σ270 hp270 => ?_)
                obtain ⟨hsg270, hr270⟩ := hp270
                rw [hsg270, l_mix_s]
                obtain rfl : r270 = S 10 k := hr270.trans (by first | rfl | (congr 1; omega))
                refine wq_iload C rfl dL_areFlows_273 ?_
                refine wq_icmp_gt C 355 (by omega) (by omega) (by decide) dL_areFlows_275 (fun hc275 => ?_) (fun hc275 => ?_)
                · skip
                  exfalso; omega
                · skip
                  refine wq_iload C rfl dL_areFlows_278 ?_
                  refine wq_if_ne C 296 (by omega) (by decide) dL_areFlows_280 (fun hc280 => ?_) (fun hc280 => ?_)
                  · skip
                    refine wq_aload_n C rfl dL_areFlows_296 ?_
                    refine wq_iload C rfl dL_areFlows_297 ?_
                    refine wq_cI C (av := [.inl (((k : Nat) : Int))]) (index := 52) (z_X5_spineOf l g (lC_inj hI) σ (((k : Nat) : Int)) S (48 * S 19 3) hC hS (by omega)) (cwV 1 C.1.2.2.2.2 gL_areFlows_X5_spineOf rfl rfl rfl (by decide +kernel) ⟨Nat.le_of_ble_eq_true rfl, Nat.le_of_ble_eq_true rfl⟩) rfl rfl (Nat.le_of_ble_eq_true rfl) dL_areFlows_299 ⟨(Nat.le_of_ble_eq_true rfl), (Nat.le_of_ble_eq_true rfl)⟩ (fun r299 σ299 hp299 => ?_)
                    obtain ⟨hsg299, hr299⟩ := hp299
                    rw [hsg299, l_mix_s]
                    obtain rfl : r299 = S 11 k := hr299.trans (by first | rfl | (congr 1; omega))
                    refine wq_if_lt C 355 (by omega) (by decide) dL_areFlows_302 (fun hc302 => ?_) (fun hc302 => ?_)
                    · skip
                      exfalso; omega
                    · skip
                      refine wq_aload_n C rfl dL_areFlows_305 ?_
                      refine wq_iload C rfl dL_areFlows_306 ?_
                      refine wq_cI C (av := [.inl (((k : Nat) : Int))]) (index := 52) (z_X5_spineOf l g (lC_inj hI) σ (((k : Nat) : Int)) S (48 * S 19 3) hC hS (by omega)) (cwV 1 C.1.2.2.2.2 gL_areFlows_X5_spineOf rfl rfl rfl (by decide +kernel) ⟨Nat.le_of_ble_eq_true rfl, Nat.le_of_ble_eq_true rfl⟩) rfl rfl (Nat.le_of_ble_eq_true rfl) dL_areFlows_308 ⟨(Nat.le_of_ble_eq_true rfl), (Nat.le_of_ble_eq_true rfl)⟩ (fun r308 σ308 hp308 => ?_)
                      obtain ⟨hsg308, hr308⟩ := hp308
                      rw [hsg308, l_mix_s]
                      obtain rfl : r308 = S 11 k := hr308.trans (by first | rfl | (congr 1; omega))
                      refine wq_iconst C dL_areFlows_311 ?_
                      refine wq_icmp_ge C 355 (by omega) (by omega) (by decide) dL_areFlows_312 (fun hc312 => ?_) (fun hc312 => ?_)
                      · skip
                        exfalso; omega
                      · skip
                        refine wq_goto C 351 (by decide) dL_areFlows_315 ?_
                        exact hj351
                  · skip
                    refine wq_aload_n C rfl dL_areFlows_283 ?_
                    refine wq_iload C rfl dL_areFlows_284 ?_
                    refine wq_cI C (av := [.inl (((k : Nat) : Int))]) (index := 52) (z_X5_spineOf l g (lC_inj hI) σ (((k : Nat) : Int)) S (48 * S 19 3) hC hS (by omega)) (cwV 1 C.1.2.2.2.2 gL_areFlows_X5_spineOf rfl rfl rfl (by decide +kernel) ⟨Nat.le_of_ble_eq_true rfl, Nat.le_of_ble_eq_true rfl⟩) rfl rfl (Nat.le_of_ble_eq_true rfl) dL_areFlows_286 ⟨(Nat.le_of_ble_eq_true rfl), (Nat.le_of_ble_eq_true rfl)⟩ (fun r286 σ286 hp286 => ?_)
                    obtain ⟨hsg286, hr286⟩ := hp286
                    rw [hsg286, l_mix_s]
                    obtain rfl : r286 = S 11 k := hr286.trans (by first | rfl | (congr 1; omega))
                    refine wq_iconst C dL_areFlows_289 ?_
                    refine wq_icmp_ne C 355 (by omega) (by omega) (by decide) dL_areFlows_290 (fun hc290 => ?_) (fun hc290 => ?_)
                    · skip
                      exfalso; omega
                    · skip
                      refine wq_goto C 351 (by decide) dL_areFlows_293 ?_
                      exact hj351
              have hj227 :  wq g p l e (headSpec wsL_areFlows ({ frames := 9, cells := 2, slots := 12, locals := 147 })).room s m ([.ref ((g.2.2 0 0)), .ref ((g.2.2 60 0)), .ref ((g.2.2 61 0))] : List Value).toArray below meth c (2) (12) (MQ below (lQ g (fun r σ' => σ' = σ ∧ r = 1)) ([.ref ((g.2.2 0 0)), .ref ((g.2.2 60 0)), .ref ((g.2.2 61 0))] : List Value).toArray s 2 12 (am_FA (gL g))) (am_FA (gL g)) 9 227 [some (.ref ((g.2.2 0 0))), some (.ref ((g.2.2 60 0))), some (.ref ((g.2.2 61 0))), some (qi (1)), some (qi (((k : Nat) : Int))), some (qi (S 4 k)), some (qi (S 5 k)), some (qi (S 6 k)), some (qi (S 9 k))] [] σ := by
                refine wq_iload_n C rfl dL_areFlows_227 ?_
                refine wq_if_eq C 355 (by omega) (by decide) dL_areFlows_228 (fun hc228 => ?_) (fun hc228 => ?_)
                · skip
                  exfalso; omega
                · skip
                  refine wq_aload_n C rfl dL_areFlows_231 ?_
                  refine wq_iload C rfl dL_areFlows_232 ?_
                  refine wq_sI C (av := [.ref ((g.2.2 60 0)), qi (((k : Nat) : Int))]) (index := 147) (w_isFar l hl g hI σ k S hw hk) (va_cwS 2 C.1.2.2.2.2 gL_areFlows_L_isFar rfl rfl rfl (by decide +kernel) ⟨Nat.le_of_ble_eq_true rfl, Nat.le_of_ble_eq_true rfl⟩) rfl rfl (Nat.le_of_ble_eq_true rfl) dL_areFlows_234 ⟨(Nat.le_of_ble_eq_true rfl), (Nat.le_of_ble_eq_true rfl)⟩ (fun r234 σ234 hp234 => ?_)
                  obtain ⟨hsg234, rfl⟩ := hp234
                  rw [hsg234]
                  have hfr := ab_1r (ab_far S k)
                  refine wq_if_eq C 318 (by omega) (by decide) dL_areFlows_237 (fun hc237 => ?_) (fun hc237 => ?_)
                  · skip
                    have hf : ab_far S k = false := by
                      cases h : ab_far S k with
                      | true => rw [h] at hc237; exact absurd hc237 (by decide)
                      | false => rfl
                    have b14 := i14 hf
                    have b7 := a7 hf
                    refine wq_aload_n C rfl dL_areFlows_318 ?_
                    refine wq_iload C rfl dL_areFlows_319 ?_
                    refine wq_cI C (av := [.inl (((k : Nat) : Int))]) (index := 49) (z_X5_flowlets l g (lC_inj hI) σ (((k : Nat) : Int)) S (48 * S 19 3) hC hS (by omega)) (cwV 1 C.1.2.2.2.2 gL_areFlows_X5_flowlets rfl rfl rfl (by decide +kernel) ⟨Nat.le_of_ble_eq_true rfl, Nat.le_of_ble_eq_true rfl⟩) rfl rfl (Nat.le_of_ble_eq_true rfl) dL_areFlows_321 ⟨(Nat.le_of_ble_eq_true rfl), (Nat.le_of_ble_eq_true rfl)⟩ (fun r321 σ321 hp321 => ?_)
                    obtain ⟨hsg321, hr321⟩ := hp321
                    rw [hsg321, l_mix_s]
                    obtain rfl : r321 = S 10 k := hr321.trans (by first | rfl | (congr 1; omega))
                    refine wq_if_ne C 355 (by omega) (by decide) dL_areFlows_324 (fun hc324 => ?_) (fun hc324 => ?_)
                    · skip
                      exfalso; omega
                    · skip
                      refine wq_aload_n C rfl dL_areFlows_327 ?_
                      refine wq_iload C rfl dL_areFlows_328 ?_
                      refine wq_cI C (av := [.inl (((k : Nat) : Int))]) (index := 52) (z_X5_spineOf l g (lC_inj hI) σ (((k : Nat) : Int)) S (48 * S 19 3) hC hS (by omega)) (cwV 1 C.1.2.2.2.2 gL_areFlows_X5_spineOf rfl rfl rfl (by decide +kernel) ⟨Nat.le_of_ble_eq_true rfl, Nat.le_of_ble_eq_true rfl⟩) rfl rfl (Nat.le_of_ble_eq_true rfl) dL_areFlows_330 ⟨(Nat.le_of_ble_eq_true rfl), (Nat.le_of_ble_eq_true rfl)⟩ (fun r330 σ330 hp330 => ?_)
                      obtain ⟨hsg330, hr330⟩ := hp330
                      rw [hsg330, l_mix_s]
                      obtain rfl : r330 = S 11 k := hr330.trans (by first | rfl | (congr 1; omega))
                      refine wq_iconst C dL_areFlows_333 ?_
                      refine wq_icmp_ne C 355 (by omega) (by omega) (by decide) dL_areFlows_334 (fun hc334 => ?_) (fun hc334 => ?_)
                      · skip
                        exfalso; omega
                      · skip
                        refine wq_iload C rfl dL_areFlows_337 ?_
                        refine wq_if_ne C 355 (by omega) (by decide) dL_areFlows_339 (fun hc339 => ?_) (fun hc339 => ?_)
                        · skip
                          exfalso; omega
                        · skip
                          refine wq_aload_n C rfl dL_areFlows_342 ?_
                          refine wq_iload C rfl dL_areFlows_343 ?_
                          refine wq_cI C (av := [.inl (((k : Nat) : Int))]) (index := 43) (z_X5_outOfOrder l g (lC_inj hI) σ (((k : Nat) : Int)) S (48 * S 19 3) hC hS (by omega)) (cwV 1 C.1.2.2.2.2 gL_areFlows_X5_outOfOrder rfl rfl rfl (by decide +kernel) ⟨Nat.le_of_ble_eq_true rfl, Nat.le_of_ble_eq_true rfl⟩) rfl rfl (Nat.le_of_ble_eq_true rfl) dL_areFlows_345 ⟨(Nat.le_of_ble_eq_true rfl), (Nat.le_of_ble_eq_true rfl)⟩ (fun r345 σ345 hp345 => ?_)
                          obtain ⟨hsg345, hr345⟩ := hp345
                          rw [hsg345, l_mix_s]
                          obtain rfl : r345 = S 7 k := hr345.trans (by first | rfl | (congr 1; omega))
                          refine wq_if_ne C 355 (by omega) (by decide) dL_areFlows_348 (fun hc348 => ?_) (fun hc348 => ?_)
                          · skip
                            exfalso; omega
                          · skip
                            exact hj351
                  · skip
                    have hf : ab_far S k = true := by
                      cases h : ab_far S k with
                      | true => rfl
                      | false => rw [h] at hc237; exact absurd (show ab_1 false = 0 from rfl) hc237
                    obtain ⟨f1, f2, f3⟩ := a6 hf
                    obtain ⟨g1, g2⟩ := i13 hf
                    have c6 : (S 4 k = 0 ∧ S 10 k = 0 ∧ S 11 k = -1) ∨ (0 < S 4 k ∧ 0 < S 10 k ∧ 0 ≤ S 11 k) := by
                      rcases (by omega : S 4 k = 0 ∨ 0 < S 4 k) with z | z
                      · exact Or.inl ⟨z, by omega, f2 z⟩
                      · exact Or.inr ⟨z, f3 z, g2 (f3 z)⟩
                    refine wq_aload_n C rfl dL_areFlows_240 ?_
                    refine wq_iload C rfl dL_areFlows_241 ?_
                    refine wq_cI C (av := [.inl (((k : Nat) : Int))]) (index := 49) (z_X5_flowlets l g (lC_inj hI) σ (((k : Nat) : Int)) S (48 * S 19 3) hC hS (by omega)) (cwV 1 C.1.2.2.2.2 gL_areFlows_X5_flowlets rfl rfl rfl (by decide +kernel) ⟨Nat.le_of_ble_eq_true rfl, Nat.le_of_ble_eq_true rfl⟩) rfl rfl (Nat.le_of_ble_eq_true rfl) dL_areFlows_243 ⟨(Nat.le_of_ble_eq_true rfl), (Nat.le_of_ble_eq_true rfl)⟩ (fun r243 σ243 hp243 => ?_)
                    obtain ⟨hsg243, hr243⟩ := hp243
                    rw [hsg243, l_mix_s]
                    obtain rfl : r243 = S 10 k := hr243.trans (by first | rfl | (congr 1; omega))
                    refine wq_if_le C 253 (by omega) (by decide) dL_areFlows_246 (fun hc246 => ?_) (fun hc246 => ?_)
                    · skip
                      refine wq_iconst C dL_areFlows_253 ?_
                      refine wq_iload C rfl dL_areFlows_254 ?_
                      refine wq_if_le C 263 (by omega) (by decide) dL_areFlows_256 (fun hc256 => ?_) (fun hc256 => ?_)
                      · skip
                        refine wq_iconst C dL_areFlows_263 ?_
                        refine wq_icmp_ne C 355 (by omega) (by omega) (by decide) dL_areFlows_264 (fun hc264 => ?_) (fun hc264 => ?_)
                        · skip
                          exfalso; omega
                        · skip
                          exact hj267 hf c6
                      · skip
                        refine wq_iconst C dL_areFlows_259 ?_
                        refine wq_goto C 264 (by decide) dL_areFlows_260 ?_
                        refine wq_icmp_ne C 355 (by omega) (by omega) (by decide) dL_areFlows_264 (fun hc264 => ?_) (fun hc264 => ?_)
                        · skip
                          exfalso; omega
                        · skip
                          exact hj267 hf c6
                    · skip
                      refine wq_iconst C dL_areFlows_249 ?_
                      refine wq_goto C 254 (by decide) dL_areFlows_250 ?_
                      refine wq_iload C rfl dL_areFlows_254 ?_
                      refine wq_if_le C 263 (by omega) (by decide) dL_areFlows_256 (fun hc256 => ?_) (fun hc256 => ?_)
                      · skip
                        refine wq_iconst C dL_areFlows_263 ?_
                        refine wq_icmp_ne C 355 (by omega) (by omega) (by decide) dL_areFlows_264 (fun hc264 => ?_) (fun hc264 => ?_)
                        · skip
                          exfalso; omega
                        · skip
                          exact hj267 hf c6
                      · skip
                        refine wq_iconst C dL_areFlows_259 ?_
                        refine wq_goto C 264 (by decide) dL_areFlows_260 ?_
                        refine wq_icmp_ne C 355 (by omega) (by omega) (by decide) dL_areFlows_264 (fun hc264 => ?_) (fun hc264 => ?_)
                        · skip
                          exfalso; omega
                        · skip
                          exact hj267 hf c6
              have hj203 :  wq g p l e (headSpec wsL_areFlows ({ frames := 9, cells := 2, slots := 12, locals := 147 })).room s m ([.ref ((g.2.2 0 0)), .ref ((g.2.2 60 0)), .ref ((g.2.2 61 0))] : List Value).toArray below meth c (2) (12) (MQ below (lQ g (fun r σ' => σ' = σ ∧ r = 1)) ([.ref ((g.2.2 0 0)), .ref ((g.2.2 60 0)), .ref ((g.2.2 61 0))] : List Value).toArray s 2 12 (am_FA (gL g))) (am_FA (gL g)) 9 203 [some (.ref ((g.2.2 0 0))), some (.ref ((g.2.2 60 0))), some (.ref ((g.2.2 61 0))), some (qi (1)), some (qi (((k : Nat) : Int))), some (qi (S 4 k)), some (qi (S 5 k)), some (qi (S 6 k)), some (qi (S 9 k))] [] σ := by
                refine wq_iload C rfl dL_areFlows_203 ?_
                refine wq_if_eq C 221 (by omega) (by decide) dL_areFlows_205 (fun hc205 => ?_) (fun hc205 => ?_)
                · skip
                  refine wq_iconst C dL_areFlows_221 ?_
                  refine wq_goto C 226 (by decide) dL_areFlows_222 ?_
                  refine wq_istore_n C (by decide) (Nat.le_of_ble_eq_true rfl) rfl dL_areFlows_226 ?_
                  exact hj227
                · skip
                  refine wq_aload_n C rfl dL_areFlows_208 ?_
                  refine wq_cI C (av := []) (index := 98) (c_X5_clock l g (lC_inj hI) σ S (48 * S 19 3) hC hS) (cwV 0 C.1.2.2.2.2 gL_areFlows_X5_clock rfl rfl rfl (by decide +kernel) ⟨Nat.le_of_ble_eq_true rfl, Nat.le_of_ble_eq_true rfl⟩) rfl rfl (Nat.le_of_ble_eq_true rfl) dL_areFlows_209 ⟨(Nat.le_of_ble_eq_true rfl), (Nat.le_of_ble_eq_true rfl)⟩ (fun r209 σ209 hp209 => ?_)
                  obtain ⟨hsg209, hr209⟩ := hp209
                  rw [hsg209, l_mix_s]
                  obtain rfl : r209 = S 19 3 := hr209.trans (by first | rfl | (congr 1; omega))
                  refine wq_aload_n C rfl dL_areFlows_212 ?_
                  refine wq_iload C rfl dL_areFlows_213 ?_
                  refine wq_sI C (av := [.ref ((g.2.2 60 0)), qi (((k : Nat) : Int))]) (index := 144) (w_start l hl g hI σ k S hw hk) (va_cwS 2 C.1.2.2.2.2 gL_areFlows_L_start rfl rfl rfl (by decide +kernel) ⟨Nat.le_of_ble_eq_true rfl, Nat.le_of_ble_eq_true rfl⟩) rfl rfl (Nat.le_of_ble_eq_true rfl) dL_areFlows_215 ⟨(Nat.le_of_ble_eq_true rfl), (Nat.le_of_ble_eq_true rfl)⟩ (fun r215 σ215 hp215 => ?_)
                  obtain ⟨hsg215, rfl⟩ := hp215
                  rw [hsg215]
                  refine wq_icmp_le C 225 (by omega) (by omega) (by decide) dL_areFlows_218 (fun hc218 => ?_) (fun hc218 => ?_)
                  · skip
                    exfalso; omega
                  · skip
                    refine wq_iconst C dL_areFlows_221 ?_
                    refine wq_goto C 226 (by decide) dL_areFlows_222 ?_
                    refine wq_istore_n C (by decide) (Nat.le_of_ble_eq_true rfl) rfl dL_areFlows_226 ?_
                    exact hj227
              have hj154 :  wq g p l e (headSpec wsL_areFlows ({ frames := 9, cells := 2, slots := 12, locals := 147 })).room s m ([.ref ((g.2.2 0 0)), .ref ((g.2.2 60 0)), .ref ((g.2.2 61 0))] : List Value).toArray below meth c (2) (12) (MQ below (lQ g (fun r σ' => σ' = σ ∧ r = 1)) ([.ref ((g.2.2 0 0)), .ref ((g.2.2 60 0)), .ref ((g.2.2 61 0))] : List Value).toArray s 2 12 (am_FA (gL g))) (am_FA (gL g)) 9 154 [some (.ref ((g.2.2 0 0))), some (.ref ((g.2.2 60 0))), some (.ref ((g.2.2 61 0))), some (qi (1)), some (qi (((k : Nat) : Int))), some (qi (S 4 k)), some (qi (S 5 k)), some (qi (S 6 k)), some (qi (S 9 k))] [] σ := by
                refine wq_iload C rfl dL_areFlows_154 ?_
                refine wq_aload_n C rfl dL_areFlows_156 ?_
                refine wq_iload C rfl dL_areFlows_157 ?_
                refine wq_sI C (av := [.ref ((g.2.2 60 0)), qi (((k : Nat) : Int))]) (index := 141) (w_packets l hl g hI σ k S hw hk) (va_cwS 2 C.1.2.2.2.2 gL_areFlows_L_packets rfl rfl rfl (by decide +kernel) ⟨Nat.le_of_ble_eq_true rfl, Nat.le_of_ble_eq_true rfl⟩) rfl rfl (Nat.le_of_ble_eq_true rfl) dL_areFlows_159 ⟨(Nat.le_of_ble_eq_true rfl), (Nat.le_of_ble_eq_true rfl)⟩ (fun r159 σ159 hp159 => ?_)
                obtain ⟨hsg159, rfl⟩ := hp159
                rw [hsg159]
                refine wq_icmp_ne C 197 (by omega) (by omega) (by decide) dL_areFlows_162 (fun hc162 => ?_) (fun hc162 => ?_)
                · skip
                  refine wq_iload C rfl dL_areFlows_197 ?_
                  refine wq_iconst C dL_areFlows_199 ?_
                  refine wq_icmp_ne C 225 (by omega) (by omega) (by decide) dL_areFlows_200 (fun hc200 => ?_) (fun hc200 => ?_)
                  · skip
                    exfalso; omega
                  · skip
                    exact hj203
                · skip
                  refine wq_iload C rfl dL_areFlows_165 ?_
                  refine wq_aload_n C rfl dL_areFlows_167 ?_
                  refine wq_iload C rfl dL_areFlows_168 ?_
                  refine wq_sI C (av := [.ref ((g.2.2 60 0)), qi (((k : Nat) : Int))]) (index := 144) (w_start l hl g hI σ k S hw hk) (va_cwS 2 C.1.2.2.2.2 gL_areFlows_L_start rfl rfl rfl (by decide +kernel) ⟨Nat.le_of_ble_eq_true rfl, Nat.le_of_ble_eq_true rfl⟩) rfl rfl (Nat.le_of_ble_eq_true rfl) dL_areFlows_170 ⟨(Nat.le_of_ble_eq_true rfl), (Nat.le_of_ble_eq_true rfl)⟩ (fun r170 σ170 hp170 => ?_)
                  obtain ⟨hsg170, rfl⟩ := hp170
                  rw [hsg170]
                  refine wq_aload_n C rfl dL_areFlows_173 ?_
                  refine wq_iload C rfl dL_areFlows_174 ?_
                  refine wq_sI C (av := [.ref ((g.2.2 60 0)), qi (((k : Nat) : Int))]) (index := 141) (w_packets l hl g hI σ k S hw hk) (va_cwS 2 C.1.2.2.2.2 gL_areFlows_L_packets rfl rfl rfl (by decide +kernel) ⟨Nat.le_of_ble_eq_true rfl, Nat.le_of_ble_eq_true rfl⟩) rfl rfl (Nat.le_of_ble_eq_true rfl) dL_areFlows_176 ⟨(Nat.le_of_ble_eq_true rfl), (Nat.le_of_ble_eq_true rfl)⟩ (fun r176 σ176 hp176 => ?_)
                  obtain ⟨hsg176, rfl⟩ := hp176
                  rw [hsg176]
                  refine wq_iadd C dL_areFlows_179 ?_
                  refine wq_iconst C dL_areFlows_180 ?_
                  refine wq_iadd C dL_areFlows_181 ?_
                  refine wq_icmp_lt C 225 (by omega) (by omega) (by decide) dL_areFlows_182 (fun hc182 => ?_) (fun hc182 => ?_)
                  · skip
                    exfalso; omega
                  · skip
                    refine wq_iload C rfl dL_areFlows_185 ?_
                    refine wq_aload_n C rfl dL_areFlows_187 ?_
                    refine wq_cI C (av := []) (index := 98) (c_X5_clock l g (lC_inj hI) σ S (48 * S 19 3) hC hS) (cwV 0 C.1.2.2.2.2 gL_areFlows_X5_clock rfl rfl rfl (by decide +kernel) ⟨Nat.le_of_ble_eq_true rfl, Nat.le_of_ble_eq_true rfl⟩) rfl rfl (Nat.le_of_ble_eq_true rfl) dL_areFlows_188 ⟨(Nat.le_of_ble_eq_true rfl), (Nat.le_of_ble_eq_true rfl)⟩ (fun r188 σ188 hp188 => ?_)
                    obtain ⟨hsg188, hr188⟩ := hp188
                    rw [hsg188, l_mix_s]
                    obtain rfl : r188 = S 19 3 := hr188.trans (by first | rfl | (congr 1; omega))
                    refine wq_icmp_ge C 225 (by omega) (by omega) (by decide) dL_areFlows_191 (fun hc191 => ?_) (fun hc191 => ?_)
                    · skip
                      exfalso; omega
                    · skip
                      refine wq_goto C 203 (by decide) dL_areFlows_194 ?_
                      exact hj203
              refine wq_iload C rfl dL_areFlows_91 ?_
              refine wq_iload C rfl dL_areFlows_93 ?_
              refine wq_iload C rfl dL_areFlows_95 ?_
              refine wq_iadd C dL_areFlows_97 ?_
              refine wq_icmp_lt C 225 (by omega) (by omega) (by decide) dL_areFlows_98 (fun hc98 => ?_) (fun hc98 => ?_)
              · skip
                exfalso; omega
              · skip
                refine wq_iload C rfl dL_areFlows_101 ?_
                refine wq_if_lt C 225 (by omega) (by decide) dL_areFlows_103 (fun hc103 => ?_) (fun hc103 => ?_)
                · skip
                  exfalso; omega
                · skip
                  refine wq_iload C rfl dL_areFlows_106 ?_
                  refine wq_if_lt C 225 (by omega) (by decide) dL_areFlows_108 (fun hc108 => ?_) (fun hc108 => ?_)
                  · skip
                    exfalso; omega
                  · skip
                    refine wq_iload C rfl dL_areFlows_111 ?_
                    refine wq_iload C rfl dL_areFlows_113 ?_
                    refine wq_isub C dL_areFlows_115 ?_
                    refine wq_aload_n C rfl dL_areFlows_116 ?_
                    refine wq_iload C rfl dL_areFlows_117 ?_
                    refine wq_sI C (av := [.ref ((g.2.2 60 0)), qi (((k : Nat) : Int))]) (index := 141) (w_packets l hl g hI σ k S hw hk) (va_cwS 2 C.1.2.2.2.2 gL_areFlows_L_packets rfl rfl rfl (by decide +kernel) ⟨Nat.le_of_ble_eq_true rfl, Nat.le_of_ble_eq_true rfl⟩) rfl rfl (Nat.le_of_ble_eq_true rfl) dL_areFlows_119 ⟨(Nat.le_of_ble_eq_true rfl), (Nat.le_of_ble_eq_true rfl)⟩ (fun r119 σ119 hp119 => ?_)
                    obtain ⟨hsg119, rfl⟩ := hp119
                    rw [hsg119]
                    refine wq_icmp_gt C 225 (by omega) (by omega) (by decide) dL_areFlows_122 (fun hc122 => ?_) (fun hc122 => ?_)
                    · skip
                      exfalso; omega
                    · skip
                      refine wq_aload_n C rfl dL_areFlows_125 ?_
                      refine wq_iload C rfl dL_areFlows_126 ?_
                      refine wq_cI C (av := [.inl (((k : Nat) : Int))]) (index := 43) (z_X5_outOfOrder l g (lC_inj hI) σ (((k : Nat) : Int)) S (48 * S 19 3) hC hS (by omega)) (cwV 1 C.1.2.2.2.2 gL_areFlows_X5_outOfOrder rfl rfl rfl (by decide +kernel) ⟨Nat.le_of_ble_eq_true rfl, Nat.le_of_ble_eq_true rfl⟩) rfl rfl (Nat.le_of_ble_eq_true rfl) dL_areFlows_128 ⟨(Nat.le_of_ble_eq_true rfl), (Nat.le_of_ble_eq_true rfl)⟩ (fun r128 σ128 hp128 => ?_)
                      obtain ⟨hsg128, hr128⟩ := hp128
                      rw [hsg128, l_mix_s]
                      obtain rfl : r128 = S 7 k := hr128.trans (by first | rfl | (congr 1; omega))
                      refine wq_if_lt C 225 (by omega) (by decide) dL_areFlows_131 (fun hc131 => ?_) (fun hc131 => ?_)
                      · skip
                        exfalso; omega
                      · skip
                        refine wq_aload_n C rfl dL_areFlows_134 ?_
                        refine wq_iload C rfl dL_areFlows_135 ?_
                        refine wq_cI C (av := [.inl (((k : Nat) : Int))]) (index := 43) (z_X5_outOfOrder l g (lC_inj hI) σ (((k : Nat) : Int)) S (48 * S 19 3) hC hS (by omega)) (cwV 1 C.1.2.2.2.2 gL_areFlows_X5_outOfOrder rfl rfl rfl (by decide +kernel) ⟨Nat.le_of_ble_eq_true rfl, Nat.le_of_ble_eq_true rfl⟩) rfl rfl (Nat.le_of_ble_eq_true rfl) dL_areFlows_137 ⟨(Nat.le_of_ble_eq_true rfl), (Nat.le_of_ble_eq_true rfl)⟩ (fun r137 σ137 hp137 => ?_)
                        obtain ⟨hsg137, hr137⟩ := hp137
                        rw [hsg137, l_mix_s]
                        obtain rfl : r137 = S 7 k := hr137.trans (by first | rfl | (congr 1; omega))
                        refine wq_if_eq C 154 (by omega) (by decide) dL_areFlows_140 (fun hc140 => ?_) (fun hc140 => ?_)
                        · skip
                          exact hj154
                        · skip
                          refine wq_aload_n C rfl dL_areFlows_143 ?_
                          refine wq_iload C rfl dL_areFlows_144 ?_
                          refine wq_cI C (av := [.inl (((k : Nat) : Int))]) (index := 43) (z_X5_outOfOrder l g (lC_inj hI) σ (((k : Nat) : Int)) S (48 * S 19 3) hC hS (by omega)) (cwV 1 C.1.2.2.2.2 gL_areFlows_X5_outOfOrder rfl rfl rfl (by decide +kernel) ⟨Nat.le_of_ble_eq_true rfl, Nat.le_of_ble_eq_true rfl⟩) rfl rfl (Nat.le_of_ble_eq_true rfl) dL_areFlows_146 ⟨(Nat.le_of_ble_eq_true rfl), (Nat.le_of_ble_eq_true rfl)⟩ (fun r146 σ146 hp146 => ?_)
                          obtain ⟨hsg146, hr146⟩ := hp146
                          rw [hsg146, l_mix_s]
                          obtain rfl : r146 = S 7 k := hr146.trans (by first | rfl | (congr 1; omega))
                          refine wq_iload C rfl dL_areFlows_149 ?_
                          refine wq_icmp_ge C 225 (by omega) (by omega) (by decide) dL_areFlows_151 (fun hc151 => ?_) (fun hc151 => ?_)
                          · skip
                            exfalso; omega
                          · skip
                            exact hj154
      exact hl46 (ab_n S + 1) 0 (by omega) (by omega)
