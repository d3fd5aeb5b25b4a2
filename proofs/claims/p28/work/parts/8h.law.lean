def lB (s : State) : Nat → Prop := fun q => s.heap.size ≤ q
/-! the law's own body -/
set_option maxRecDepth 100000 in
set_option maxHeartbeats 8000000 in
theorem law_body {p : Program} {e : Env} {s : State} {m : MethodId} {below : List Frame} {meth : Method} {c : Code} {Q : State → Prop} (l : Launch) (hl : l.stackTraces = false) (g : am_g) (hI : am_inj (gL g)) {b L : Nat} {xs : Nat → Int32} (C : lq_C g p s m #[Value.ref b] c cL_law 14 lw_tbl (lB s)) (hX : va_X b L xs s s.heap) (hbl : b < s.heap.size) (hbF : ¬ am_FA (gL g) b) (hL : L ≤ 260) (hQ : ∀ (H : Heap) (ls : Array Slot), W p l e room_1 s m #[Value.ref b] below meth c H [] 664514 7108083 Q (F0 m 652 ls [qi 1])) (σ : am_M) (hC0 : ab_C (ab_new0 0 5 8) σ) (hz : ∀ j, σ 61 0 j = 0) : wq g p l e room_1 s m #[Value.ref b] below meth c (531) (2909) Q (lB s) 14 17 [some (.ref (b)), some (.ref ((g.2.2 0 0))), some (.ref ((g.2.2 60 0))), some (.ref ((g.2.2 61 0))), none, none, none, none, none, none, none, none, none, none] [] σ := by
  refine wq_aload_n C rfl dL_law_17 ?_
  refine wq_iconst C dL_law_18 ?_
  refine wq_iconst C dL_law_19 ?_
  refine wq_iast C (k := 61) (n := 4) rfl (by decide) (by decide) (1) rfl (by omega) dL_law_20 ?_
  refine wq_aload_n C rfl dL_law_21 ?_
  refine wq_iconst C dL_law_22 ?_
  refine wq_bipush C (n := 8) (by decide) dL_law_23 ?_
  refine wq_iast C (k := 61) (n := 4) rfl (by decide) (by decide) (2) rfl (by omega) dL_law_25 ?_
  obtain ⟨σ25, hσ25⟩ : ∃ σ25, σ25 = (am_up (am_up σ 61 0 (1) (5)) 61 0 (2) (8)) := ⟨_, rfl⟩
  rw [← hσ25]
  have h0 : ∀ j, ¬ j = 1 → ¬ j = 2 → σ25 61 0 j = 0 := fun j h1 h2 => by rw [hσ25, am_up_app, if_neg (fun z => h2 z.2.2), am_up_app, if_neg (fun z => h1 z.2.2)]; exact hz j
  have hwn : lW (ab_new0 0 5 8) σ25 := by
    refine lW_new0 (by unfold ab_okR; omega) (C_hi hC0 (fun k hk => by rw [hσ25, up_lo _ (by omega), up_lo _ (by omega)])) (h0 0 (by decide) (by decide)) ?_ ?_ (h0 3 (by decide) (by decide))
    · rw [hσ25, am_up_app, if_neg (by decide), am_up_app, if_pos ⟨rfl, rfl, rfl⟩]
    · rw [hσ25, am_up_app, if_pos ⟨rfl, rfl, rfl⟩]
  obtain ⟨S, hw, h193⟩ : ∃ S, lW S σ25 ∧ S 19 3 = 0 := ⟨_, hwn, (new0_v 0 5 8 0).2.2.2.2.2.2.1⟩
  obtain ⟨hC, hS, hJ, hp, hcl, hfn, hm0, hm1, hm2, hm3⟩ := id hw
  have hn24 := hS.2.1.2.2.2.2
  have hnn : ((ab_n S : Nat) : Int) = S 19 4 := Int.toNat_of_nonneg hn24.1
  have hc0 := hS.2.1.2.2.2.1
  refine wq_aload_n C rfl dL_law_26 ?_
  refine wq_cI C (av := []) (index := 98) (c_X5_clock l g (lC_inj hI) σ25 S (48 * S 19 3) hC hS) (cwV 0 C.1.2.2.2.2 hX_clock rfl rfl rfl (by decide +kernel) ⟨Nat.le_of_ble_eq_true rfl, Nat.le_of_ble_eq_true rfl⟩) rfl rfl (Nat.le_of_ble_eq_true rfl) dL_law_27 ⟨(Nat.le_of_ble_eq_true rfl), (Nat.le_of_ble_eq_true rfl)⟩ (fun r27 σ27 hp27 => ?_)
  obtain ⟨hsg27, hr27⟩ := hp27
  rw [hsg27, l_mix_s]
  obtain rfl : r27 = S 19 3 := hr27.trans (by first | rfl | (congr 1; omega))
  refine wq_if_ne C 53 (by omega) (by decide) dL_law_30 (fun hc30 => ?_) (fun hc30 => ?_)
  · skip
    exfalso; omega
  · skip
    refine wq_aload_n C rfl dL_law_33 ?_
    refine wq_iconst C dL_law_34 ?_
    refine wq_sI C (av := [.ref ((g.2.2 0 0)), qi (0)]) (index := 177) (w_isRefused l hl g hI σ25 (0) S hw (by omega)) (va_cwS 2 C.1.2.2.2.2 hL_isRefused rfl rfl rfl (by decide +kernel) ⟨Nat.le_of_ble_eq_true rfl, Nat.le_of_ble_eq_true rfl⟩) rfl rfl (Nat.le_of_ble_eq_true rfl) dL_law_35 ⟨(Nat.le_of_ble_eq_true rfl), (Nat.le_of_ble_eq_true rfl)⟩ (fun r35 σ35 hp35 => ?_)
    obtain ⟨hsg35, rfl⟩ := hp35
    rw [hsg35]
    refine wq_if_eq C 53 (by omega) (by decide) dL_law_38 (fun hc38 => ?_) (fun hc38 => ?_)
    · exfalso; omega
    · skip
      refine wq_aload_n C rfl dL_law_41 ?_
      refine wq_iconst C dL_law_42 ?_
      refine wq_sI C (av := [.ref ((g.2.2 0 0)), qi (1)]) (index := 177) (w_isRefused l hl g hI σ25 (1) S hw (by omega)) (va_cwS 2 C.1.2.2.2.2 hL_isRefused rfl rfl rfl (by decide +kernel) ⟨Nat.le_of_ble_eq_true rfl, Nat.le_of_ble_eq_true rfl⟩) rfl rfl (Nat.le_of_ble_eq_true rfl) dL_law_43 ⟨(Nat.le_of_ble_eq_true rfl), (Nat.le_of_ble_eq_true rfl)⟩ (fun r43 σ43 hp43 => ?_)
      obtain ⟨hsg43, rfl⟩ := hp43
      rw [hsg43]
      refine wq_if_eq C 53 (by omega) (by decide) dL_law_46 (fun hc46 => ?_) (fun hc46 => ?_)
      · exfalso; omega
      · skip
        refine wq_iconst C dL_law_49 ?_
        refine wq_goto C 54 (by decide) dL_law_50 ?_
        refine wq_istore C (by decide) (Nat.le_of_ble_eq_true rfl) rfl dL_law_54 ?_
        refine wq_iconst C dL_law_56 ?_
        refine wq_istore C (by decide) (Nat.le_of_ble_eq_true rfl) rfl dL_law_57 ?_
        have hl59 : ∀ (d n : Nat) (S : ab_S) (σ : am_M), 151 ≤ n + d → n ≤ 150 → lW S σ → S 19 3 ≤ 30 * ((n : Nat) : Int) → wq g p l e room_1 s m #[Value.ref b] below meth c (1000 + 100 * n) (10000 + 600 * n) Q (lB s) 14 59 [some (.ref (b)), some (.ref ((g.2.2 0 0))), some (.ref ((g.2.2 60 0))), some (.ref ((g.2.2 61 0))), some (qi (1)), some (qi (((n : Nat) : Int))), none, none, none, none, none, none, none, none] [] σ := by
          intro d
          induction d with
          | zero => intro n S σ h1 h2; omega
          | succ d ih =>
            intro n S σ hd hn hw h193
            obtain ⟨hC, hS, hJ, hp, hcl, hfn, hm0, hm1, hm2, hm3⟩ := id hw
            have hn24 := hS.2.1.2.2.2.2
            have hnn : ((ab_n S : Nat) : Int) = S 19 4 := Int.toNat_of_nonneg hn24.1
            have hc0 := hS.2.1.2.2.2.1
            refine wq_iload C rfl dL_law_59 ?_
            refine wq_sipush C (n := 150) (by decide) dL_law_61 ?_
            refine wq_icmp_ge C 650 (by omega) (by omega) (by decide) dL_law_64 (fun hc64 => ?_) (fun hc64 => ?_)
            · skip
              refine wq_iload C rfl dL_law_650 ?_
              intro H locs ls hW hS9 hLc
              refine va_forget (fun q hq => hS9.2.2 q hq) ?_
              refine W.widen (k := 664514) (n := 7108083) (by omega) (by omega) ?_
              exact hQ H ls
            · skip
              refine wq_iload C rfl dL_law_67 ?_
              refine wq_if_eq C 650 (by omega) (by decide) dL_law_69 (fun hc69 => ?_) (fun hc69 => ?_)
              · exfalso; omega
              · skip
                refine wq_aload_n C rfl dL_law_72 ?_
                refine wq_iload C rfl dL_law_73 ?_
                refine wq_sD C hX hbl (Nat.not_le.mpr hbl) hbF (av := [.ref (b), qi (((n : Nat) : Int))]) (index := 181) (w_dice l g hI σ b L xs n (by omega) hL) (va_cwS 2 C.1.2.2.2.2 hL_dice rfl rfl rfl (by decide +kernel) ⟨Nat.le_of_ble_eq_true rfl, Nat.le_of_ble_eq_true rfl⟩) rfl rfl (Nat.le_of_ble_eq_true rfl) dL_law_75 ⟨(by show 1000 + 100 * n + 0 ≤ 664514; omega), (by show 10000 + 600 * n + 0 ≤ 7108083; omega)⟩ (fun r75 σ75 hp75 => ?_)
                obtain ⟨hsg75, hr75a, hr75b⟩ := hp75
                rw [hsg75]
                refine wq_istore C (by decide) (Nat.le_of_ble_eq_true rfl) rfl dL_law_78 ?_
                refine wq_iload C rfl dL_law_80 ?_
                refine wq_bipush C (n := 32) (by decide) dL_law_82 ?_
                refine wq_idiv C (by omega) (by omega) dL_law_84 ?_
                refine wq_istore C (by decide) (Nat.le_of_ble_eq_true rfl) rfl dL_law_85 ?_
                refine wq_iload C rfl dL_law_87 ?_
                refine wq_bipush C (n := 32) (by decide) dL_law_89 ?_
                refine wq_irem C (by omega) (by omega) dL_law_91 ?_
                refine wq_istore C (by decide) (Nat.le_of_ble_eq_true rfl) rfl dL_law_92 ?_
                obtain ⟨y, hy⟩ : ∃ y : Int, y = (r75) / (32) := ⟨_, rfl⟩
                rw [← hy]
                obtain ⟨wy, hwy⟩ : ∃ wy : Int, wy = (r75) % (32) := ⟨_, rfl⟩
                rw [← hwy]
                have hyb : 0 ≤ y ∧ y ≤ 67108863 := by omega
                have hwb : 0 ≤ wy ∧ wy ≤ 31 := by omega
                have hj587 : ∀ (S2 : ab_S) (σ2 : am_M), lW S2 σ2 → S2 19 3 ≤ 30 * ((n : Nat) : Int) + 30 → wq g p l e room_1 s m #[Value.ref b] below meth c (1000 + 100 * n + 9) (10000 + 600 * n + 54) Q (lB s) 14 587 [some (.ref (b)), some (.ref ((g.2.2 0 0))), some (.ref ((g.2.2 60 0))), some (.ref ((g.2.2 61 0))), some (qi (1)), some (qi (((n : Nat) : Int))), some (qi (r75)), none, none, none, none, none, none, none] [] σ2 := by
                  intro S2 σ2 hw2 h32
                  refine wq_iload C rfl dL_law_587 ?_
                  refine wq_if_eq C 641 (by omega) (by decide) dL_law_589 (fun hc589 => ?_) (fun hc589 => ?_)
                  · exfalso; omega
                  · skip
                    refine wq_aload_n C rfl dL_law_592 ?_
                    refine wq_aload_n C rfl dL_law_593 ?_
                    refine wq_aload_n C rfl dL_law_594 ?_
                    refine wq_sI C (av := [.ref ((g.2.2 0 0)), .ref ((g.2.2 60 0)), .ref ((g.2.2 61 0))]) (index := 196) (w_areFlows l hl g hI σ2 S2 hw2) (va_cwS 3 C.1.2.2.2.2 hL_areFlows rfl rfl rfl (by decide +kernel) ⟨Nat.le_of_ble_eq_true rfl, Nat.le_of_ble_eq_true rfl⟩) rfl rfl (Nat.le_of_ble_eq_true rfl) dL_law_595 ⟨(by show 1000 + 100 * n + 9 + 2 ≤ 664514; omega), (by show 10000 + 600 * n + 54 + 12 ≤ 7108083; omega)⟩ (fun r595 σ595 hp595 => ?_)
                    obtain ⟨hsg595, rfl⟩ := hp595
                    rw [hsg595]
                    refine wq_if_eq C 641 (by omega) (by decide) dL_law_598 (fun hc598 => ?_) (fun hc598 => ?_)
                    · exfalso; omega
                    · skip
                      refine wq_aload_n C rfl dL_law_601 ?_
                      refine wq_aload_n C rfl dL_law_602 ?_
                      refine wq_sI C (av := [.ref ((g.2.2 0 0)), .ref ((g.2.2 61 0))]) (index := 199) (w_areLinks l hl g hI σ2 S2 hw2) (va_cwS 2 C.1.2.2.2.2 hL_areLinks rfl rfl rfl (by decide +kernel) ⟨Nat.le_of_ble_eq_true rfl, Nat.le_of_ble_eq_true rfl⟩) rfl rfl (Nat.le_of_ble_eq_true rfl) dL_law_603 ⟨(by show 1000 + 100 * n + 9 + 2 + 16 ≤ 664514; omega), (by show 10000 + 600 * n + 54 + 12 + 96 ≤ 7108083; omega)⟩ (fun r603 σ603 hp603 => ?_)
                      obtain ⟨hsg603, rfl⟩ := hp603
                      rw [hsg603]
                      refine wq_if_eq C 641 (by omega) (by decide) dL_law_606 (fun hc606 => ?_) (fun hc606 => ?_)
                      · exfalso; omega
                      · skip
                        refine wq_aload_n C rfl dL_law_609 ?_
                        refine wq_aload_n C rfl dL_law_610 ?_
                        refine wq_aload_n C rfl dL_law_611 ?_
                        refine wq_sI C (av := [.ref ((g.2.2 0 0)), .ref ((g.2.2 60 0)), .ref ((g.2.2 61 0))]) (index := 203) (w_isLeast l hl g hI σ2 S2 hw2) (va_cwS 3 C.1.2.2.2.2 hL_isLeast rfl rfl rfl (by decide +kernel) ⟨Nat.le_of_ble_eq_true rfl, Nat.le_of_ble_eq_true rfl⟩) rfl rfl (Nat.le_of_ble_eq_true rfl) dL_law_612 ⟨(by show 1000 + 100 * n + 9 + 2 + 16 + 0 ≤ 664514; omega), (by show 10000 + 600 * n + 54 + 12 + 96 + 0 ≤ 7108083; omega)⟩ (fun r612 σ612 hp612 => ?_)
                        obtain ⟨hsg612, rfl⟩ := hp612
                        rw [hsg612]
                        refine wq_if_eq C 641 (by omega) (by decide) dL_law_615 (fun hc615 => ?_) (fun hc615 => ?_)
                        · exfalso; omega
                        · skip
                          refine wq_iload C rfl dL_law_618 ?_
                          refine wq_bipush C (n := 25) (by decide) dL_law_620 ?_
                          refine wq_irem C (by omega) (by omega) dL_law_622 ?_
                          refine wq_if_gt C 637 (by omega) (by decide) dL_law_623 (fun hc623 => ?_) (fun hc623 => ?_)
                          · skip
                            refine wq_iconst C dL_law_637 ?_
                            refine wq_goto C 642 (by decide) dL_law_638 ?_
                            refine wq_istore C (by decide) (Nat.le_of_ble_eq_true rfl) rfl dL_law_642 ?_
                            refine wq_iinc C rfl (by decide) rfl dL_law_644 ?_
                            refine wq_goto C 59 (by decide) dL_law_647 ?_
                            refine wq_wide (c1 := 1000 + 100 * (n + 1)) (s1 := 10000 + 600 * (n + 1)) (by omega) (by omega) ?_
                            refine wq_lz (lw := [some (.ref (b)), some (.ref ((g.2.2 0 0))), some (.ref ((g.2.2 60 0))), some (.ref ((g.2.2 61 0))), some (qi (1)), some (qi ((((n + 1 : Nat) : Nat) : Int))), none, none, none, none, none, none, none, none]) ?_ (ih (n + 1) S2 σ2 (by omega) (by omega) hw2 (by omega))
                            repeat (first | exact lz_0 | refine lz_s ?_ | refine lz_n ?_)
                          · skip
                            refine wq_aload_n C rfl dL_law_626 ?_
                            refine wq_iload C rfl dL_law_627 ?_
                            refine wq_iconst C dL_law_629 ?_
                            refine wq_idiv C (by omega) (by omega) dL_law_630 ?_
                            refine wq_sI C (av := [.ref ((g.2.2 0 0)), qi ((r75) / (3))]) (index := 177) (w_isRefused l hl g hI σ2 ((r75) / (3)) S2 hw2 (by omega)) (va_cwS 2 C.1.2.2.2.2 hL_isRefused rfl rfl rfl (by decide +kernel) ⟨Nat.le_of_ble_eq_true rfl, Nat.le_of_ble_eq_true rfl⟩) rfl rfl (Nat.le_of_ble_eq_true rfl) dL_law_631 ⟨(by show 1000 + 100 * n + 9 + 2 + 16 + 54 ≤ 664514; omega), (by show 10000 + 600 * n + 54 + 12 + 96 + 324 ≤ 7108083; omega)⟩ (fun r631 σ631 hp631 => ?_)
                            obtain ⟨hsg631, rfl⟩ := hp631
                            rw [hsg631]
                            refine wq_if_eq C 641 (by omega) (by decide) dL_law_634 (fun hc634 => ?_) (fun hc634 => ?_)
                            · exfalso; omega
                            · skip
                              refine wq_iconst C dL_law_637 ?_
                              refine wq_goto C 642 (by decide) dL_law_638 ?_
                              refine wq_istore C (by decide) (Nat.le_of_ble_eq_true rfl) rfl dL_law_642 ?_
                              refine wq_iinc C rfl (by decide) rfl dL_law_644 ?_
                              refine wq_goto C 59 (by decide) dL_law_647 ?_
                              refine wq_wide (c1 := 1000 + 100 * (n + 1)) (s1 := 10000 + 600 * (n + 1)) (by omega) (by omega) ?_
                              refine wq_lz (lw := [some (.ref (b)), some (.ref ((g.2.2 0 0))), some (.ref ((g.2.2 60 0))), some (.ref ((g.2.2 61 0))), some (qi (1)), some (qi ((((n + 1 : Nat) : Nat) : Int))), none, none, none, none, none, none, none, none]) ?_ (ih (n + 1) S2 σ2 (by omega) (by omega) hw2 (by omega))
                              repeat (first | exact lz_0 | refine lz_s ?_ | refine lz_n ?_)
                have hj212 :  wq g p l e room_1 s m #[Value.ref b] below meth c (1000 + 100 * n) (10000 + 600 * n) Q (lB s) 14 212 [some (.ref (b)), some (.ref ((g.2.2 0 0))), some (.ref ((g.2.2 60 0))), some (.ref ((g.2.2 61 0))), some (qi (1)), some (qi (((n : Nat) : Int))), some (qi (r75)), some (qi (y)), some (qi (wy)), none, none, none, none, none] [] σ := by
                  refine wq_iload C rfl dL_law_212 ?_
                  refine wq_bipush C (n := 9) (by decide) dL_law_214 ?_
                  refine wq_icmp_ge C 308 (by omega) (by omega) (by decide) dL_law_216 (fun hc216 => ?_) (fun hc216 => ?_)
                  · skip
                    refine wq_iload C rfl dL_law_308 ?_
                    refine wq_bipush C (n := 14) (by decide) dL_law_310 ?_
                    refine wq_icmp_ge C 410 (by omega) (by omega) (by decide) dL_law_312 (fun hc312 => ?_) (fun hc312 => ?_)
                    · skip
                      refine wq_iload C rfl dL_law_410 ?_
                      refine wq_bipush C (n := 28) (by decide) dL_law_412 ?_
                      refine wq_icmp_ge C 470 (by omega) (by omega) (by decide) dL_law_414 (fun hc414 => ?_) (fun hc414 => ?_)
                      · skip
                        refine wq_aload_n C rfl dL_law_470 ?_
                        refine wq_cI C (av := []) (index := 98) (c_X5_clock l g (lC_inj hI) σ S (48 * S 19 3) hC hS) (cwV 0 C.1.2.2.2.2 hX_clock rfl rfl rfl (by decide +kernel) ⟨Nat.le_of_ble_eq_true rfl, Nat.le_of_ble_eq_true rfl⟩) rfl rfl (Nat.le_of_ble_eq_true rfl) dL_law_471 ⟨(by show 1000 + 100 * n + 0 ≤ 664514; omega), (by show 10000 + 600 * n + 0 ≤ 7108083; omega)⟩ (fun r471 σ471 hp471 => ?_)
                        obtain ⟨hsg471, hr471⟩ := hp471
                        rw [hsg471, l_mix_s]
                        obtain rfl : r471 = S 19 3 := hr471.trans (by first | rfl | (congr 1; omega))
                        refine wq_istore C (by decide) (Nat.le_of_ble_eq_true rfl) rfl dL_law_474 ?_
                        refine wq_iconst C dL_law_476 ?_
                        refine wq_istore C (by decide) (Nat.le_of_ble_eq_true rfl) rfl dL_law_477 ?_
                        refine wq_iconst C dL_law_479 ?_
                        refine wq_istore C (by decide) (Nat.le_of_ble_eq_true rfl) rfl dL_law_480 ?_
                        refine wq_iconst C dL_law_482 ?_
                        refine wq_istore C (by decide) (Nat.le_of_ble_eq_true rfl) rfl dL_law_483 ?_
                        have hl485 : ∀ (d k : Nat), ab_n S + 1 ≤ k + d → k ≤ ab_n S → wq g p l e room_1 s m #[Value.ref b] below meth c (1000 + 100 * n) (10000 + 600 * n) Q (lB s) 14 485 [some (.ref (b)), some (.ref ((g.2.2 0 0))), some (.ref ((g.2.2 60 0))), some (.ref ((g.2.2 61 0))), some (qi (1)), some (qi (((n : Nat) : Int))), some (qi (r75)), some (qi (y)), some (qi (wy)), some (qi (S 19 3)), some (qi (am_sum (fun f => S 5 f) k)), some (qi (0)), some (qi (((k : Nat) : Int))), none] [] σ := by
                          intro d
                          induction d with
                          | zero => intro k h1 h2; omega
                          | succ d ihk =>
                            intro k hdk hkk
                            refine wq_iload C rfl dL_law_485 ?_
                            refine wq_aload_n C rfl dL_law_487 ?_
                            refine wq_cI C (av := []) (index := 92) (c_X5_flows l g (lC_inj hI) σ S (48 * S 19 3) hC hS) (cwV 0 C.1.2.2.2.2 hX_flows rfl rfl rfl (by decide +kernel) ⟨Nat.le_of_ble_eq_true rfl, Nat.le_of_ble_eq_true rfl⟩) rfl rfl (Nat.le_of_ble_eq_true rfl) dL_law_488 ⟨(by show 1000 + 100 * n + 0 ≤ 664514; omega), (by show 10000 + 600 * n + 0 ≤ 7108083; omega)⟩ (fun r488 σ488 hp488 => ?_)
                            obtain ⟨hsg488, hr488⟩ := hp488
                            rw [hsg488, l_mix_s]
                            obtain rfl : r488 = S 19 4 := hr488.trans (by first | rfl | (congr 1; omega))
                            refine wq_icmp_ge C 511 (by omega) (by omega) (by decide) dL_law_491 (fun hc491 => ?_) (fun hc491 => ?_)
                            · skip
                              obtain rfl : k = ab_n S := by omega
                              refine wq_aload_n C rfl dL_law_511 ?_
                              refine wq_iconst C dL_law_512 ?_
                              refine wq_iload C rfl dL_law_513 ?_
                              refine wq_bipush C (n := 30) (by decide) dL_law_515 ?_
                              refine wq_irem C (by omega) (by omega) dL_law_517 ?_
                              refine wq_iadd C dL_law_518 ?_
                              obtain ⟨N9, hN9⟩ : ∃ N9 : Nat, (1) + ((y) % (30)) = ((N9 : Nat) : Int) := ⟨((1) + ((y) % (30))).toNat, by omega⟩
                              rw [hN9]
                              refine wq_sW C (av := [.ref ((g.2.2 0 0)), qi (((N9 : Nat) : Int))]) (index := 169) (w_pass l hl g hI σ ((N9 : Nat) : Int) (by omega) S (48 * S 19 3) hC hS (by omega)) (vx_cwSW 2 C.1.2.2.2.2 hL_pass rfl rfl rfl (by decide +kernel) ⟨Nat.le_of_ble_eq_true rfl, Nat.le_of_ble_eq_true rfl⟩) rfl rfl (Nat.le_of_ble_eq_true rfl) dL_law_519 ⟨(by show 1000 + 100 * n + 1 ≤ 664514; omega), (by show 10000 + 600 * n + 6 ≤ 7108083; omega)⟩ (fun r519 σ519 hp519 => ?_)
                              rw [Int.toNat_natCast] at hp519
                              obtain ⟨hr519, u, hu, hs519⟩ : r519 = ab_passC S N9 ∧ ∃ u, ab_C (ab_pass S N9) u ∧ σ519 = l_mix u σ := by
                                rcases hp519 with ⟨h1, -, -, u, h2, h3⟩ | ⟨-, hk, -⟩ | ⟨-, -, hk, -⟩
                                · exact ⟨h1, u, h2, h3⟩
                                · exact absurd hk (by omega)
                                · exact absurd hk (by omega)
                              have hw8 : lW (ab_pass S N9) σ519 := by rw [hs519]; exact lW_pass hw (by omega) hu
                              have hsum := (pv_pass hS hJ hp N9 (by omega) (by omega)).2
                              have p93 := (pass_193 S N9).1
                              obtain ⟨S8, hS8e⟩ : ∃ S8, S8 = ab_pass S N9 := ⟨_, rfl⟩
                              rw [← hS8e] at hw8 hsum p93
                              obtain ⟨hC8, hS8, hJ8, hp8, hcl8, hfn8, hm08, hm18, hm28, hm38⟩ := id hw8
                              have hn248 := hS8.2.1.2.2.2.2
                              have hnn8 : ((ab_n S8 : Nat) : Int) = S8 19 4 := Int.toNat_of_nonneg hn248.1
                              have hc08 := hS8.2.1.2.2.2.1
                              have r8 := s5_r hw8
                              have r0 := s5_r hw
                              have e8 : am_sum (fun f => S8 5 f) (ab_n S8) = s5 S8 := rfl
                              have e0 : am_sum (fun f => S 5 f) (ab_n S) = s5 S := rfl
                              refine wq_istore C (by decide) (Nat.le_of_ble_eq_true rfl) rfl dL_law_522 ?_
                              refine wq_iconst C dL_law_524 ?_
                              refine wq_istore C (by decide) (Nat.le_of_ble_eq_true rfl) rfl dL_law_525 ?_
                              have hl527 : ∀ (d k : Nat), ab_n S8 + 1 ≤ k + d → k ≤ ab_n S8 → wq g p l e room_1 s m #[Value.ref b] below meth c (1000 + 100 * n + 1) (10000 + 600 * n + 6) Q (lB s) 14 527 [some (.ref (b)), some (.ref ((g.2.2 0 0))), some (.ref ((g.2.2 60 0))), some (.ref ((g.2.2 61 0))), some (qi (1)), some (qi (((n : Nat) : Int))), some (qi (r75)), some (qi (y)), some (qi (wy)), some (qi (S 19 3)), some (qi (am_sum (fun f => S 5 f) (ab_n S))), some (qi (am_sum (fun f => S8 5 f) k)), some (qi (r519)), some (qi (((k : Nat) : Int)))] [] σ519 := by
                                intro d
                                induction d with
                                | zero => intro k h1 h2; omega
                                | succ d ihk8 =>
                                  intro k hdk hkk
                                  refine wq_iload C rfl dL_law_527 ?_
                                  refine wq_aload_n C rfl dL_law_529 ?_
                                  refine wq_cI C (av := []) (index := 92) (c_X5_flows l g (lC_inj hI) σ519 S8 (48 * S8 19 3) hC8 hS8) (cwV 0 C.1.2.2.2.2 hX_flows rfl rfl rfl (by decide +kernel) ⟨Nat.le_of_ble_eq_true rfl, Nat.le_of_ble_eq_true rfl⟩) rfl rfl (Nat.le_of_ble_eq_true rfl) dL_law_530 ⟨(by show 1000 + 100 * n + 1 + 0 ≤ 664514; omega), (by show 10000 + 600 * n + 6 + 0 ≤ 7108083; omega)⟩ (fun r530 σ530 hp530 => ?_)
                                  obtain ⟨hsg530, hr530⟩ := hp530
                                  rw [hsg530, l_mix_s]
                                  obtain rfl : r530 = S8 19 4 := hr530.trans (by first | rfl | (congr 1; omega))
                                  refine wq_icmp_ge C 553 (by omega) (by omega) (by decide) dL_law_533 (fun hc533 => ?_) (fun hc533 => ?_)
                                  · skip
                                    obtain rfl : k = ab_n S8 := by omega
                                    refine wq_iload C rfl dL_law_553 ?_
                                    refine wq_iload C rfl dL_law_555 ?_
                                    refine wq_iload C rfl dL_law_557 ?_
                                    refine wq_isub C dL_law_559 ?_
                                    refine wq_icmp_ne C 584 (by omega) (by omega) (by decide) dL_law_560 (fun hc560 => ?_) (fun hc560 => ?_)
                                    · skip
                                      exfalso; omega
                                    · skip
                                      refine wq_aload_n C rfl dL_law_563 ?_
                                      refine wq_cI C (av := []) (index := 98) (c_X5_clock l g (lC_inj hI) σ519 S8 (48 * S8 19 3) hC8 hS8) (cwV 0 C.1.2.2.2.2 hX_clock rfl rfl rfl (by decide +kernel) ⟨Nat.le_of_ble_eq_true rfl, Nat.le_of_ble_eq_true rfl⟩) rfl rfl (Nat.le_of_ble_eq_true rfl) dL_law_564 ⟨(by show 1000 + 100 * n + 1 + 0 ≤ 664514; omega), (by show 10000 + 600 * n + 6 + 0 ≤ 7108083; omega)⟩ (fun r564 σ564 hp564 => ?_)
                                      obtain ⟨hsg564, hr564⟩ := hp564
                                      rw [hsg564, l_mix_s]
                                      obtain rfl : r564 = S8 19 3 := hr564.trans (by first | rfl | (congr 1; omega))
                                      refine wq_iload C rfl dL_law_567 ?_
                                      refine wq_iconst C dL_law_569 ?_
                                      refine wq_iadd C dL_law_570 ?_
                                      refine wq_iload C rfl dL_law_571 ?_
                                      refine wq_bipush C (n := 30) (by decide) dL_law_573 ?_
                                      refine wq_irem C (by omega) (by omega) dL_law_575 ?_
                                      refine wq_iadd C dL_law_576 ?_
                                      refine wq_icmp_ne C 584 (by omega) (by omega) (by decide) dL_law_577 (fun hc577 => ?_) (fun hc577 => ?_)
                                      · skip
                                        exfalso; omega
                                      · skip
                                        refine wq_iconst C dL_law_580 ?_
                                        refine wq_goto C 585 (by decide) dL_law_581 ?_
                                        refine wq_istore C (by decide) (Nat.le_of_ble_eq_true rfl) rfl dL_law_585 ?_
                                        refine wq_wide (c1 := 1000 + 100 * n + 9) (s1 := 10000 + 600 * n + 54) (by omega) (by omega) ?_
                                        refine wq_lz (lw := [some (.ref (b)), some (.ref ((g.2.2 0 0))), some (.ref ((g.2.2 60 0))), some (.ref ((g.2.2 61 0))), some (qi (1)), some (qi (((n : Nat) : Int))), some (qi (r75)), none, none, none, none, none, none, none]) ?_ (hj587 S8 σ519 hw8 (by omega))
                                        repeat (first | exact lz_0 | refine lz_s ?_ | refine lz_n ?_)
                                  · skip
                                    refine wq_iload C rfl dL_law_536 ?_
                                    refine wq_aload_n C rfl dL_law_538 ?_
                                    refine wq_iload C rfl dL_law_539 ?_
                                    refine wq_cI C (av := [.inl (((k : Nat) : Int))]) (index := 37) (z_X5_delivered l g (lC_inj hI) σ519 (((k : Nat) : Int)) S8 (48 * S8 19 3) hC8 hS8 (by omega)) (cwV 1 C.1.2.2.2.2 hX_delivered rfl rfl rfl (by decide +kernel) ⟨Nat.le_of_ble_eq_true rfl, Nat.le_of_ble_eq_true rfl⟩) rfl rfl (Nat.le_of_ble_eq_true rfl) dL_law_541 ⟨(by show 1000 + 100 * n + 1 + 0 ≤ 664514; omega), (by show 10000 + 600 * n + 6 + 0 ≤ 7108083; omega)⟩ (fun r541 σ541 hp541 => ?_)
                                    obtain ⟨hsg541, hr541⟩ := hp541
                                    rw [hsg541, l_mix_s]
                                    obtain rfl : r541 = S8 5 k := hr541.trans (by first | rfl | (congr 1; omega))
                                    refine wq_iadd C dL_law_544 ?_
                                    refine wq_istore C (by decide) (Nat.le_of_ble_eq_true rfl) rfl dL_law_545 ?_
                                    refine wq_iinc C rfl (by decide) rfl dL_law_547 ?_
                                    refine wq_goto C 527 (by decide) dL_law_550 ?_
                                    have hag : (am_sum (fun f => S8 5 f) k) + (S8 5 k) = am_sum (fun f => S8 5 f) (k + 1) := rfl
                                    rw [hag]
                                    exact ihk8 (k + 1) (by omega) (by omega)
                              exact hl527 (ab_n S8 + 1) 0 (by omega) (by omega)
                            · skip
                              refine wq_iload C rfl dL_law_494 ?_
                              refine wq_aload_n C rfl dL_law_496 ?_
                              refine wq_iload C rfl dL_law_497 ?_
                              refine wq_cI C (av := [.inl (((k : Nat) : Int))]) (index := 37) (z_X5_delivered l g (lC_inj hI) σ (((k : Nat) : Int)) S (48 * S 19 3) hC hS (by omega)) (cwV 1 C.1.2.2.2.2 hX_delivered rfl rfl rfl (by decide +kernel) ⟨Nat.le_of_ble_eq_true rfl, Nat.le_of_ble_eq_true rfl⟩) rfl rfl (Nat.le_of_ble_eq_true rfl) dL_law_499 ⟨(by show 1000 + 100 * n + 0 ≤ 664514; omega), (by show 10000 + 600 * n + 0 ≤ 7108083; omega)⟩ (fun r499 σ499 hp499 => ?_)
                              obtain ⟨hsg499, hr499⟩ := hp499
                              rw [hsg499, l_mix_s]
                              obtain rfl : r499 = S 5 k := hr499.trans (by first | rfl | (congr 1; omega))
                              refine wq_iadd C dL_law_502 ?_
                              refine wq_istore C (by decide) (Nat.le_of_ble_eq_true rfl) rfl dL_law_503 ?_
                              refine wq_iinc C rfl (by decide) rfl dL_law_505 ?_
                              refine wq_goto C 485 (by decide) dL_law_508 ?_
                              have hag : (am_sum (fun f => S 5 f) k) + (S 5 k) = am_sum (fun f => S 5 f) (k + 1) := rfl
                              rw [hag]
                              exact ihk (k + 1) (by omega) (by omega)
                        exact hl485 (ab_n S + 1) 0 (by omega) (by omega)
                      · skip
                        refine wq_iconst C dL_law_417 ?_
                        refine wq_istore C (by decide) (Nat.le_of_ble_eq_true rfl) rfl dL_law_418 ?_
                        have hl420 : ∀ (d j : Nat) (S3 : ab_S) (σ3 : am_M), 4 ≤ j + d → j ≤ 3 → lW S3 σ3 → S3 19 3 ≤ 30 * ((n : Nat) : Int) + ((j : Nat) : Int) → wq g p l e room_1 s m #[Value.ref b] below meth c (1000 + 100 * n + 3 * j) (10000 + 600 * n + 18 * j) Q (lB s) 14 420 [some (.ref (b)), some (.ref ((g.2.2 0 0))), some (.ref ((g.2.2 60 0))), some (.ref ((g.2.2 61 0))), some (qi (1)), some (qi (((n : Nat) : Int))), some (qi (r75)), some (qi (y)), some (qi (wy)), some (qi (((j : Nat) : Int))), none, none, none, none] [] σ3 := by
                          intro d
                          induction d with
                          | zero => intro j S3 σ3 h1 h2; omega
                          | succ d ihj =>
                            intro j S3 σ3 hdj hjj hw3 h33
                            refine wq_iload C rfl dL_law_420 ?_
                            refine wq_iconst C dL_law_422 ?_
                            refine wq_iload C rfl dL_law_423 ?_
                            refine wq_iconst C dL_law_425 ?_
                            refine wq_irem C (by omega) (by omega) dL_law_426 ?_
                            refine wq_iadd C dL_law_427 ?_
                            refine wq_icmp_ge C 467 (by omega) (by omega) (by decide) dL_law_428 (fun hc428 => ?_) (fun hc428 => ?_)
                            · skip
                              refine wq_goto C 587 (by decide) dL_law_467 ?_
                              refine wq_wide (c1 := 1000 + 100 * n + 9) (s1 := 10000 + 600 * n + 54) (by omega) (by omega) ?_
                              refine wq_lz (lw := [some (.ref (b)), some (.ref ((g.2.2 0 0))), some (.ref ((g.2.2 60 0))), some (.ref ((g.2.2 61 0))), some (qi (1)), some (qi (((n : Nat) : Int))), some (qi (r75)), none, none, none, none, none, none, none]) ?_ (hj587 S3 σ3 hw3 (by omega))
                              repeat (first | exact lz_0 | refine lz_s ?_ | refine lz_n ?_)
                            · skip
                              refine wq_iload C rfl dL_law_431 ?_
                              refine wq_if_eq C 467 (by omega) (by decide) dL_law_433 (fun hc433 => ?_) (fun hc433 => ?_)
                              · exfalso; omega
                              · skip
                                refine wq_aload_n C rfl dL_law_436 ?_
                                refine wq_aload_n C rfl dL_law_437 ?_
                                refine wq_aload_n C rfl dL_law_438 ?_
                                refine wq_sI C (av := [.ref ((g.2.2 0 0)), .ref ((g.2.2 60 0)), .ref ((g.2.2 61 0))]) (index := 192) (w_isTick l hl g hI σ3 S3 hw3 (by omega)) (va_cwS 3 C.1.2.2.2.2 hL_isTick rfl rfl rfl (by decide +kernel) ⟨Nat.le_of_ble_eq_true rfl, Nat.le_of_ble_eq_true rfl⟩) rfl rfl (Nat.le_of_ble_eq_true rfl) dL_law_439 ⟨(by show 1000 + 100 * n + 3 * j + 1 ≤ 664514; omega), (by show 10000 + 600 * n + 18 * j + 6 ≤ 7108083; omega)⟩ (fun r439 σ439 hp439 => ?_)
                                obtain ⟨rfl, hw4⟩ := hp439
                                have t93 := (tick_193 S3).1
                                refine wq_if_eq C 458 (by omega) (by decide) dL_law_442 (fun hc442 => ?_) (fun hc442 => ?_)
                                · exfalso; omega
                                · skip
                                  refine wq_aload_n C rfl dL_law_445 ?_
                                  refine wq_aload_n C rfl dL_law_446 ?_
                                  refine wq_aload_n C rfl dL_law_447 ?_
                                  refine wq_sI C (av := [.ref ((g.2.2 0 0)), .ref ((g.2.2 60 0)), .ref ((g.2.2 61 0))]) (index := 196) (w_areFlows l hl g hI σ439 (ab_tick S3) hw4) (va_cwS 3 C.1.2.2.2.2 hL_areFlows rfl rfl rfl (by decide +kernel) ⟨Nat.le_of_ble_eq_true rfl, Nat.le_of_ble_eq_true rfl⟩) rfl rfl (Nat.le_of_ble_eq_true rfl) dL_law_448 ⟨(by show 1000 + 100 * n + 3 * j + 1 + 2 ≤ 664514; omega), (by show 10000 + 600 * n + 18 * j + 6 + 12 ≤ 7108083; omega)⟩ (fun r448 σ448 hp448 => ?_)
                                  obtain ⟨hsg448, rfl⟩ := hp448
                                  rw [hsg448]
                                  refine wq_if_eq C 458 (by omega) (by decide) dL_law_451 (fun hc451 => ?_) (fun hc451 => ?_)
                                  · exfalso; omega
                                  · skip
                                    refine wq_iconst C dL_law_454 ?_
                                    refine wq_goto C 459 (by decide) dL_law_455 ?_
                                    refine wq_istore C (by decide) (Nat.le_of_ble_eq_true rfl) rfl dL_law_459 ?_
                                    refine wq_iinc C rfl (by decide) rfl dL_law_461 ?_
                                    refine wq_goto C 420 (by decide) dL_law_464 ?_
                                    refine wq_wide (c1 := 1000 + 100 * n + 3 * (j + 1)) (s1 := 10000 + 600 * n + 18 * (j + 1)) (by omega) (by omega) ?_
                                    exact ihj (j + 1) (ab_tick S3) σ439 (by omega) (by omega) hw4 (by omega)
                        refine wq_wide (c1 := 1000 + 100 * n + 3 * 0) (s1 := 10000 + 600 * n + 18 * 0) (by omega) (by omega) ?_
                        exact hl420 4 0 S σ (by omega) (by omega) hw (by omega)
                    · skip
                      refine wq_iload C rfl dL_law_315 ?_
                      refine wq_bipush C (n := 16) (by decide) dL_law_317 ?_
                      refine wq_irem C (by omega) (by omega) dL_law_319 ?_
                      refine wq_istore C (by decide) (Nat.le_of_ble_eq_true rfl) rfl dL_law_320 ?_
                      refine wq_iconst C dL_law_322 ?_
                      refine wq_istore C (by decide) (Nat.le_of_ble_eq_true rfl) rfl dL_law_323 ?_
                      have hl325 : ∀ (d k : Nat) (at0 : Int), 17 ≤ k + d → k ≤ 16 → 0 ≤ at0 ∧ at0 < 16 → wq g p l e room_1 s m #[Value.ref b] below meth c (1000 + 100 * n) (10000 + 600 * n) Q (lB s) 14 325 [some (.ref (b)), some (.ref ((g.2.2 0 0))), some (.ref ((g.2.2 60 0))), some (.ref ((g.2.2 61 0))), some (qi (1)), some (qi (((n : Nat) : Int))), some (qi (r75)), some (qi (y)), some (qi (wy)), some (qi (at0)), some (qi (((k : Nat) : Int))), none, none, none] [] σ := by
                        intro d
                        induction d with
                        | zero => intro k at0 h1 h2; omega
                        | succ d ihk =>
                          intro k at0 hdk hkk hat
                          refine wq_iload C rfl dL_law_325 ?_
                          refine wq_bipush C (n := 16) (by decide) dL_law_327 ?_
                          refine wq_icmp_ge C 380 (by omega) (by omega) (by decide) dL_law_329 (fun hc329 => ?_) (fun hc329 => ?_)
                          · skip
                            obtain ⟨q, rfl⟩ : ∃ q : Nat, at0 = ((q : Nat) : Int) := ⟨at0.toNat, (Int.toNat_of_nonneg hat.1).symm⟩
                            refine wq_aload_n C rfl dL_law_380 ?_
                            refine wq_aload_n C rfl dL_law_381 ?_
                            refine wq_iload C rfl dL_law_382 ?_
                            refine wq_iconst C dL_law_384 ?_
                            refine wq_idiv C (by omega) (by omega) dL_law_385 ?_
                            rw [show (((q : Nat) : Int)) / (4) = ((q / 4 : Nat) : Int) by omega]
                            refine wq_iload C rfl dL_law_386 ?_
                            refine wq_iconst C dL_law_388 ?_
                            refine wq_irem C (by omega) (by omega) dL_law_389 ?_
                            rw [show (((q : Nat) : Int)) % (4) = ((q % 4 : Nat) : Int) by omega]
                            refine wq_iload C rfl dL_law_390 ?_
                            refine wq_bipush C (n := 12) (by decide) dL_law_392 ?_
                            refine wq_icmp_ge C 401 (by omega) (by omega) (by decide) dL_law_394 (fun hc394 => ?_) (fun hc394 => ?_)
                            · skip
                              refine wq_iconst C dL_law_401 ?_
                              refine wq_sI C (av := [.ref ((g.2.2 0 0)), .ref ((g.2.2 61 0)), qi (((q / 4 : Nat) : Int)), qi (((q % 4 : Nat) : Int)), qi (0)]) (index := 188) (w_isCutting0 l hl g hI σ (q / 4) (q % 4) S hw (by omega) (by omega)) (va_cwS 5 C.1.2.2.2.2 hL_isCutting rfl rfl rfl (by decide +kernel) ⟨Nat.le_of_ble_eq_true rfl, Nat.le_of_ble_eq_true rfl⟩) rfl rfl (Nat.le_of_ble_eq_true rfl) dL_law_402 ⟨(by show 1000 + 100 * n + 6 ≤ 664514; omega), (by show 10000 + 600 * n + 36 ≤ 7108083; omega)⟩ (fun r402 σ402 hp402 => ?_)
                              obtain ⟨rfl, S3, hw3, h33⟩ := hp402
                              refine wq_istore C (by decide) (Nat.le_of_ble_eq_true rfl) rfl dL_law_405 ?_
                              refine wq_goto C 587 (by decide) dL_law_407 ?_
                              refine wq_wide (c1 := 1000 + 100 * n + 9) (s1 := 10000 + 600 * n + 54) (by omega) (by omega) ?_
                              refine wq_lz (lw := [some (.ref (b)), some (.ref ((g.2.2 0 0))), some (.ref ((g.2.2 60 0))), some (.ref ((g.2.2 61 0))), some (qi (1)), some (qi (((n : Nat) : Int))), some (qi (r75)), none, none, none, none, none, none, none]) ?_ (hj587 S3 σ402 hw3 (by omega))
                              repeat (first | exact lz_0 | refine lz_s ?_ | refine lz_n ?_)
                            · skip
                              refine wq_iconst C dL_law_397 ?_
                              refine wq_goto C 402 (by decide) dL_law_398 ?_
                              refine wq_sI C (av := [.ref ((g.2.2 0 0)), .ref ((g.2.2 61 0)), qi (((q / 4 : Nat) : Int)), qi (((q % 4 : Nat) : Int)), qi (1)]) (index := 188) (w_isCutting1 l hl g hI σ (q / 4) (q % 4) S hw (by omega) (by omega)) (va_cwS 5 C.1.2.2.2.2 hL_isCutting rfl rfl rfl (by decide +kernel) ⟨Nat.le_of_ble_eq_true rfl, Nat.le_of_ble_eq_true rfl⟩) rfl rfl (Nat.le_of_ble_eq_true rfl) dL_law_402 ⟨(by show 1000 + 100 * n + 6 ≤ 664514; omega), (by show 10000 + 600 * n + 36 ≤ 7108083; omega)⟩ (fun r402 σ402 hp402 => ?_)
                              obtain ⟨rfl, S3, hw3, h33⟩ := hp402
                              refine wq_istore C (by decide) (Nat.le_of_ble_eq_true rfl) rfl dL_law_405 ?_
                              refine wq_goto C 587 (by decide) dL_law_407 ?_
                              refine wq_wide (c1 := 1000 + 100 * n + 9) (s1 := 10000 + 600 * n + 54) (by omega) (by omega) ?_
                              refine wq_lz (lw := [some (.ref (b)), some (.ref ((g.2.2 0 0))), some (.ref ((g.2.2 60 0))), some (.ref ((g.2.2 61 0))), some (qi (1)), some (qi (((n : Nat) : Int))), some (qi (r75)), none, none, none, none, none, none, none]) ?_ (hj587 S3 σ402 hw3 (by omega))
                              repeat (first | exact lz_0 | refine lz_s ?_ | refine lz_n ?_)
                          · skip
                            refine wq_iload C rfl dL_law_332 ?_
                            refine wq_bipush C (n := 11) (by decide) dL_law_334 ?_
                            refine wq_icmp_le C 370 (by omega) (by omega) (by decide) dL_law_336 (fun hc336 => ?_) (fun hc336 => ?_)
                            · skip
                              refine wq_iload C rfl dL_law_370 ?_
                              refine wq_istore C (by decide) (Nat.le_of_ble_eq_true rfl) rfl dL_law_372 ?_
                              refine wq_iinc C rfl (by decide) rfl dL_law_374 ?_
                              refine wq_goto C 325 (by decide) dL_law_377 ?_
                              exact ihk (k + 1) (at0) (by omega) (by omega) (by omega)
                            · skip
                              refine wq_aload_n C rfl dL_law_339 ?_
                              refine wq_iconst C dL_law_340 ?_
                              refine wq_iald C (k := 61) (n := 4) rfl (by decide) (by decide) (3) rfl (by omega) dL_law_341 ?_
                              rw [hm3]
                              refine wq_iload C rfl dL_law_342 ?_
                              refine wq_ishr C (((lcm S / 2 ^ k : Nat) : Int)) (l_shr (Nat.lt_trans (lcm_lt S) (by decide)) (by omega)) dL_law_344 ?_
                              refine wq_iconst C dL_law_345 ?_
                              refine wq_iand C ((((ub S k).toNat : Nat) : Int)) ((l_mask (lcm S / 2 ^ k) 1).trans (congrArg (fun n : Nat => Int32.ofInt (n : Int)) (lm_bit (u := ub S) (q := k) (by omega)))) dL_law_346 ?_
                              obtain ⟨z9, hz9⟩ : ∃ z9 : Int, z9 = (((ub S k).toNat : Nat) : Int) := ⟨_, rfl⟩
                              rw [← hz9]
                              have hz1 : 0 ≤ z9 ∧ z9 ≤ 1 := by rw [hz9]; cases ub S k <;> decide
                              refine wq_iconst C dL_law_347 ?_
                              refine wq_icmp_ne C 370 (by omega) (by omega) (by decide) dL_law_348 (fun hc348 => ?_) (fun hc348 => ?_)
                              · skip
                                refine wq_iload C rfl dL_law_370 ?_
                                refine wq_istore C (by decide) (Nat.le_of_ble_eq_true rfl) rfl dL_law_372 ?_
                                refine wq_iinc C rfl (by decide) rfl dL_law_374 ?_
                                refine wq_goto C 325 (by decide) dL_law_377 ?_
                                exact ihk (k + 1) (at0) (by omega) (by omega) (by omega)
                              · skip
                                refine wq_iload C rfl dL_law_351 ?_
                                refine wq_iconst C dL_law_353 ?_
                                refine wq_irem C (by omega) (by omega) dL_law_354 ?_
                                refine wq_iload C rfl dL_law_355 ?_
                                refine wq_bipush C (n := 16) (by decide) dL_law_357 ?_
                                refine wq_idiv C (by omega) (by omega) dL_law_359 ?_
                                refine wq_iconst C dL_law_360 ?_
                                refine wq_irem C (by omega) (by omega) dL_law_361 ?_
                                refine wq_icmp_ne C 370 (by omega) (by omega) (by decide) dL_law_362 (fun hc362 => ?_) (fun hc362 => ?_)
                                · skip
                                  refine wq_iload C rfl dL_law_370 ?_
                                  refine wq_istore C (by decide) (Nat.le_of_ble_eq_true rfl) rfl dL_law_372 ?_
                                  refine wq_iinc C rfl (by decide) rfl dL_law_374 ?_
                                  refine wq_goto C 325 (by decide) dL_law_377 ?_
                                  exact ihk (k + 1) (at0) (by omega) (by omega) (by omega)
                                · skip
                                  refine wq_iload C rfl dL_law_365 ?_
                                  refine wq_goto C 372 (by decide) dL_law_367 ?_
                                  refine wq_istore C (by decide) (Nat.le_of_ble_eq_true rfl) rfl dL_law_372 ?_
                                  refine wq_iinc C rfl (by decide) rfl dL_law_374 ?_
                                  refine wq_goto C 325 (by decide) dL_law_377 ?_
                                  exact ihk (k + 1) (((k : Nat) : Int)) (by omega) (by omega) (by omega)
                      exact hl325 17 0 ((y) % (16)) (by omega) (by omega) (by omega)
                  · skip
                    refine wq_aload_n C rfl dL_law_219 ?_
                    refine wq_aload_n C rfl dL_law_220 ?_
                    refine wq_iload C rfl dL_law_221 ?_
                    refine wq_bipush C (n := 16) (by decide) dL_law_223 ?_
                    refine wq_irem C (by omega) (by omega) dL_law_225 ?_
                    refine wq_iload C rfl dL_law_226 ?_
                    refine wq_iconst C dL_law_228 ?_
                    refine wq_irem C (by omega) (by omega) dL_law_229 ?_
                    refine wq_if_ne C 245 (by omega) (by decide) dL_law_230 (fun hc230 => ?_) (fun hc230 => ?_)
                    · skip
                      refine wq_iload C rfl dL_law_245 ?_
                      refine wq_bipush C (n := 16) (by decide) dL_law_247 ?_
                      refine wq_idiv C (by omega) (by omega) dL_law_249 ?_
                      refine wq_bipush C (n := 16) (by decide) dL_law_250 ?_
                      refine wq_irem C (by omega) (by omega) dL_law_252 ?_
                      refine wq_iconst C dL_law_253 ?_
                      refine wq_iload C rfl dL_law_254 ?_
                      refine wq_sipush C (n := 256) (by decide) dL_law_256 ?_
                      refine wq_idiv C (by omega) (by omega) dL_law_259 ?_
                      refine wq_iload C rfl dL_law_260 ?_
                      refine wq_iconst C dL_law_262 ?_
                      refine wq_irem C (by omega) (by omega) dL_law_263 ?_
                      refine wq_if_ne C 272 (by omega) (by decide) dL_law_264 (fun hc264 => ?_) (fun hc264 => ?_)
                      · skip
                        refine wq_bipush C (n := 10) (by decide) dL_law_272 ?_
                        refine wq_irem C (by omega) (by omega) dL_law_274 ?_
                        refine wq_iadd C dL_law_275 ?_
                        refine wq_iload C rfl dL_law_276 ?_
                        refine wq_sipush C (n := 4000) (by decide) dL_law_278 ?_
                        refine wq_idiv C (by omega) (by omega) dL_law_281 ?_
                        refine wq_iconst C dL_law_282 ?_
                        refine wq_irem C (by omega) (by omega) dL_law_283 ?_
                        refine wq_if_ne C 299 (by omega) (by decide) dL_law_284 (fun hc284 => ?_) (fun hc284 => ?_)
                        · skip
                          refine wq_iconst C dL_law_299 ?_
                          refine wq_sI C (av := [.ref ((g.2.2 0 0)), .ref ((g.2.2 60 0)), qi ((y) % (16)), qi (((y) / (16)) % (16)), qi ((1) + (((y) / (256)) % (10))), qi (0)]) (index := 184) (w_isAdded l hl g hI σ ((y) % (16)) (((y) / (16)) % (16)) ((1) + (((y) / (256)) % (10))) (0) S hw (by omega) (by omega) (by omega) (by omega)) (va_cwS 6 C.1.2.2.2.2 hL_isAdded rfl rfl rfl (by decide +kernel) ⟨Nat.le_of_ble_eq_true rfl, Nat.le_of_ble_eq_true rfl⟩) rfl rfl (Nat.le_of_ble_eq_true rfl) dL_law_300 ⟨(by show 1000 + 100 * n + 3 ≤ 664514; omega), (by show 10000 + 600 * n + 18 ≤ 7108083; omega)⟩ (fun r300 σ300 hp300 => ?_)
                          obtain ⟨rfl, S3, hw3, h33⟩ := hp300
                          refine wq_istore C (by decide) (Nat.le_of_ble_eq_true rfl) rfl dL_law_303 ?_
                          refine wq_goto C 587 (by decide) dL_law_305 ?_
                          refine wq_wide (c1 := 1000 + 100 * n + 9) (s1 := 10000 + 600 * n + 54) (by omega) (by omega) ?_
                          refine wq_lz (lw := [some (.ref (b)), some (.ref ((g.2.2 0 0))), some (.ref ((g.2.2 60 0))), some (.ref ((g.2.2 61 0))), some (qi (1)), some (qi (((n : Nat) : Int))), some (qi (r75)), none, none, none, none, none, none, none]) ?_ (hj587 S3 σ300 hw3 (by omega))
                          repeat (first | exact lz_0 | refine lz_s ?_ | refine lz_n ?_)
                        · skip
                          refine wq_iload C rfl dL_law_287 ?_
                          refine wq_sipush C (n := 16000) (by decide) dL_law_289 ?_
                          refine wq_idiv C (by omega) (by omega) dL_law_292 ?_
                          refine wq_bipush C (n := 101) (by decide) dL_law_293 ?_
                          refine wq_irem C (by omega) (by omega) dL_law_295 ?_
                          refine wq_goto C 300 (by decide) dL_law_296 ?_
                          refine wq_sI C (av := [.ref ((g.2.2 0 0)), .ref ((g.2.2 60 0)), qi ((y) % (16)), qi (((y) / (16)) % (16)), qi ((1) + (((y) / (256)) % (10))), qi (((y) / (16000)) % (101))]) (index := 184) (w_isAdded l hl g hI σ ((y) % (16)) (((y) / (16)) % (16)) ((1) + (((y) / (256)) % (10))) (((y) / (16000)) % (101)) S hw (by omega) (by omega) (by omega) (by omega)) (va_cwS 6 C.1.2.2.2.2 hL_isAdded rfl rfl rfl (by decide +kernel) ⟨Nat.le_of_ble_eq_true rfl, Nat.le_of_ble_eq_true rfl⟩) rfl rfl (Nat.le_of_ble_eq_true rfl) dL_law_300 ⟨(by show 1000 + 100 * n + 3 ≤ 664514; omega), (by show 10000 + 600 * n + 18 ≤ 7108083; omega)⟩ (fun r300 σ300 hp300 => ?_)
                          obtain ⟨rfl, S3, hw3, h33⟩ := hp300
                          refine wq_istore C (by decide) (Nat.le_of_ble_eq_true rfl) rfl dL_law_303 ?_
                          refine wq_goto C 587 (by decide) dL_law_305 ?_
                          refine wq_wide (c1 := 1000 + 100 * n + 9) (s1 := 10000 + 600 * n + 54) (by omega) (by omega) ?_
                          refine wq_lz (lw := [some (.ref (b)), some (.ref ((g.2.2 0 0))), some (.ref ((g.2.2 60 0))), some (.ref ((g.2.2 61 0))), some (qi (1)), some (qi (((n : Nat) : Int))), some (qi (r75)), none, none, none, none, none, none, none]) ?_ (hj587 S3 σ300 hw3 (by omega))
                          repeat (first | exact lz_0 | refine lz_s ?_ | refine lz_n ?_)
                      · skip
                        refine wq_bipush C (n := 100) (by decide) dL_law_267 ?_
                        refine wq_goto C 274 (by decide) dL_law_269 ?_
                        refine wq_irem C (by omega) (by omega) dL_law_274 ?_
                        refine wq_iadd C dL_law_275 ?_
                        refine wq_iload C rfl dL_law_276 ?_
                        refine wq_sipush C (n := 4000) (by decide) dL_law_278 ?_
                        refine wq_idiv C (by omega) (by omega) dL_law_281 ?_
                        refine wq_iconst C dL_law_282 ?_
                        refine wq_irem C (by omega) (by omega) dL_law_283 ?_
                        refine wq_if_ne C 299 (by omega) (by decide) dL_law_284 (fun hc284 => ?_) (fun hc284 => ?_)
                        · skip
                          refine wq_iconst C dL_law_299 ?_
                          refine wq_sI C (av := [.ref ((g.2.2 0 0)), .ref ((g.2.2 60 0)), qi ((y) % (16)), qi (((y) / (16)) % (16)), qi ((1) + (((y) / (256)) % (100))), qi (0)]) (index := 184) (w_isAdded l hl g hI σ ((y) % (16)) (((y) / (16)) % (16)) ((1) + (((y) / (256)) % (100))) (0) S hw (by omega) (by omega) (by omega) (by omega)) (va_cwS 6 C.1.2.2.2.2 hL_isAdded rfl rfl rfl (by decide +kernel) ⟨Nat.le_of_ble_eq_true rfl, Nat.le_of_ble_eq_true rfl⟩) rfl rfl (Nat.le_of_ble_eq_true rfl) dL_law_300 ⟨(by show 1000 + 100 * n + 3 ≤ 664514; omega), (by show 10000 + 600 * n + 18 ≤ 7108083; omega)⟩ (fun r300 σ300 hp300 => ?_)
                          obtain ⟨rfl, S3, hw3, h33⟩ := hp300
                          refine wq_istore C (by decide) (Nat.le_of_ble_eq_true rfl) rfl dL_law_303 ?_
                          refine wq_goto C 587 (by decide) dL_law_305 ?_
                          refine wq_wide (c1 := 1000 + 100 * n + 9) (s1 := 10000 + 600 * n + 54) (by omega) (by omega) ?_
                          refine wq_lz (lw := [some (.ref (b)), some (.ref ((g.2.2 0 0))), some (.ref ((g.2.2 60 0))), some (.ref ((g.2.2 61 0))), some (qi (1)), some (qi (((n : Nat) : Int))), some (qi (r75)), none, none, none, none, none, none, none]) ?_ (hj587 S3 σ300 hw3 (by omega))
                          repeat (first | exact lz_0 | refine lz_s ?_ | refine lz_n ?_)
                        · skip
                          refine wq_iload C rfl dL_law_287 ?_
                          refine wq_sipush C (n := 16000) (by decide) dL_law_289 ?_
                          refine wq_idiv C (by omega) (by omega) dL_law_292 ?_
                          refine wq_bipush C (n := 101) (by decide) dL_law_293 ?_
                          refine wq_irem C (by omega) (by omega) dL_law_295 ?_
                          refine wq_goto C 300 (by decide) dL_law_296 ?_
                          refine wq_sI C (av := [.ref ((g.2.2 0 0)), .ref ((g.2.2 60 0)), qi ((y) % (16)), qi (((y) / (16)) % (16)), qi ((1) + (((y) / (256)) % (100))), qi (((y) / (16000)) % (101))]) (index := 184) (w_isAdded l hl g hI σ ((y) % (16)) (((y) / (16)) % (16)) ((1) + (((y) / (256)) % (100))) (((y) / (16000)) % (101)) S hw (by omega) (by omega) (by omega) (by omega)) (va_cwS 6 C.1.2.2.2.2 hL_isAdded rfl rfl rfl (by decide +kernel) ⟨Nat.le_of_ble_eq_true rfl, Nat.le_of_ble_eq_true rfl⟩) rfl rfl (Nat.le_of_ble_eq_true rfl) dL_law_300 ⟨(by show 1000 + 100 * n + 3 ≤ 664514; omega), (by show 10000 + 600 * n + 18 ≤ 7108083; omega)⟩ (fun r300 σ300 hp300 => ?_)
                          obtain ⟨rfl, S3, hw3, h33⟩ := hp300
                          refine wq_istore C (by decide) (Nat.le_of_ble_eq_true rfl) rfl dL_law_303 ?_
                          refine wq_goto C 587 (by decide) dL_law_305 ?_
                          refine wq_wide (c1 := 1000 + 100 * n + 9) (s1 := 10000 + 600 * n + 54) (by omega) (by omega) ?_
                          refine wq_lz (lw := [some (.ref (b)), some (.ref ((g.2.2 0 0))), some (.ref ((g.2.2 60 0))), some (.ref ((g.2.2 61 0))), some (qi (1)), some (qi (((n : Nat) : Int))), some (qi (r75)), none, none, none, none, none, none, none]) ?_ (hj587 S3 σ300 hw3 (by omega))
                          repeat (first | exact lz_0 | refine lz_s ?_ | refine lz_n ?_)
                    · skip
                      refine wq_iload C rfl dL_law_233 ?_
                      refine wq_bipush C (n := 16) (by decide) dL_law_235 ?_
                      refine wq_idiv C (by omega) (by omega) dL_law_237 ?_
                      refine wq_iconst C dL_law_238 ?_
                      refine wq_irem C (by omega) (by omega) dL_law_239 ?_
                      refine wq_iconst C dL_law_240 ?_
                      refine wq_imul C dL_law_241 ?_
                      refine wq_goto C 253 (by decide) dL_law_242 ?_
                      refine wq_iconst C dL_law_253 ?_
                      refine wq_iload C rfl dL_law_254 ?_
                      refine wq_sipush C (n := 256) (by decide) dL_law_256 ?_
                      refine wq_idiv C (by omega) (by omega) dL_law_259 ?_
                      refine wq_iload C rfl dL_law_260 ?_
                      refine wq_iconst C dL_law_262 ?_
                      refine wq_irem C (by omega) (by omega) dL_law_263 ?_
                      refine wq_if_ne C 272 (by omega) (by decide) dL_law_264 (fun hc264 => ?_) (fun hc264 => ?_)
                      · skip
                        refine wq_bipush C (n := 10) (by decide) dL_law_272 ?_
                        refine wq_irem C (by omega) (by omega) dL_law_274 ?_
                        refine wq_iadd C dL_law_275 ?_
                        refine wq_iload C rfl dL_law_276 ?_
                        refine wq_sipush C (n := 4000) (by decide) dL_law_278 ?_
                        refine wq_idiv C (by omega) (by omega) dL_law_281 ?_
                        refine wq_iconst C dL_law_282 ?_
                        refine wq_irem C (by omega) (by omega) dL_law_283 ?_
                        refine wq_if_ne C 299 (by omega) (by decide) dL_law_284 (fun hc284 => ?_) (fun hc284 => ?_)
                        · skip
                          refine wq_iconst C dL_law_299 ?_
                          refine wq_sI C (av := [.ref ((g.2.2 0 0)), .ref ((g.2.2 60 0)), qi ((y) % (16)), qi ((((y) / (16)) % (4)) * (4)), qi ((1) + (((y) / (256)) % (10))), qi (0)]) (index := 184) (w_isAdded l hl g hI σ ((y) % (16)) ((((y) / (16)) % (4)) * (4)) ((1) + (((y) / (256)) % (10))) (0) S hw (by omega) (by omega) (by omega) (by omega)) (va_cwS 6 C.1.2.2.2.2 hL_isAdded rfl rfl rfl (by decide +kernel) ⟨Nat.le_of_ble_eq_true rfl, Nat.le_of_ble_eq_true rfl⟩) rfl rfl (Nat.le_of_ble_eq_true rfl) dL_law_300 ⟨(by show 1000 + 100 * n + 3 ≤ 664514; omega), (by show 10000 + 600 * n + 18 ≤ 7108083; omega)⟩ (fun r300 σ300 hp300 => ?_)
                          obtain ⟨rfl, S3, hw3, h33⟩ := hp300
                          refine wq_istore C (by decide) (Nat.le_of_ble_eq_true rfl) rfl dL_law_303 ?_
                          refine wq_goto C 587 (by decide) dL_law_305 ?_
                          refine wq_wide (c1 := 1000 + 100 * n + 9) (s1 := 10000 + 600 * n + 54) (by omega) (by omega) ?_
                          refine wq_lz (lw := [some (.ref (b)), some (.ref ((g.2.2 0 0))), some (.ref ((g.2.2 60 0))), some (.ref ((g.2.2 61 0))), some (qi (1)), some (qi (((n : Nat) : Int))), some (qi (r75)), none, none, none, none, none, none, none]) ?_ (hj587 S3 σ300 hw3 (by omega))
                          repeat (first | exact lz_0 | refine lz_s ?_ | refine lz_n ?_)
                        · skip
                          refine wq_iload C rfl dL_law_287 ?_
                          refine wq_sipush C (n := 16000) (by decide) dL_law_289 ?_
                          refine wq_idiv C (by omega) (by omega) dL_law_292 ?_
                          refine wq_bipush C (n := 101) (by decide) dL_law_293 ?_
                          refine wq_irem C (by omega) (by omega) dL_law_295 ?_
                          refine wq_goto C 300 (by decide) dL_law_296 ?_
                          refine wq_sI C (av := [.ref ((g.2.2 0 0)), .ref ((g.2.2 60 0)), qi ((y) % (16)), qi ((((y) / (16)) % (4)) * (4)), qi ((1) + (((y) / (256)) % (10))), qi (((y) / (16000)) % (101))]) (index := 184) (w_isAdded l hl g hI σ ((y) % (16)) ((((y) / (16)) % (4)) * (4)) ((1) + (((y) / (256)) % (10))) (((y) / (16000)) % (101)) S hw (by omega) (by omega) (by omega) (by omega)) (va_cwS 6 C.1.2.2.2.2 hL_isAdded rfl rfl rfl (by decide +kernel) ⟨Nat.le_of_ble_eq_true rfl, Nat.le_of_ble_eq_true rfl⟩) rfl rfl (Nat.le_of_ble_eq_true rfl) dL_law_300 ⟨(by show 1000 + 100 * n + 3 ≤ 664514; omega), (by show 10000 + 600 * n + 18 ≤ 7108083; omega)⟩ (fun r300 σ300 hp300 => ?_)
                          obtain ⟨rfl, S3, hw3, h33⟩ := hp300
                          refine wq_istore C (by decide) (Nat.le_of_ble_eq_true rfl) rfl dL_law_303 ?_
                          refine wq_goto C 587 (by decide) dL_law_305 ?_
                          refine wq_wide (c1 := 1000 + 100 * n + 9) (s1 := 10000 + 600 * n + 54) (by omega) (by omega) ?_
                          refine wq_lz (lw := [some (.ref (b)), some (.ref ((g.2.2 0 0))), some (.ref ((g.2.2 60 0))), some (.ref ((g.2.2 61 0))), some (qi (1)), some (qi (((n : Nat) : Int))), some (qi (r75)), none, none, none, none, none, none, none]) ?_ (hj587 S3 σ300 hw3 (by omega))
                          repeat (first | exact lz_0 | refine lz_s ?_ | refine lz_n ?_)
                      · skip
                        refine wq_bipush C (n := 100) (by decide) dL_law_267 ?_
                        refine wq_goto C 274 (by decide) dL_law_269 ?_
                        refine wq_irem C (by omega) (by omega) dL_law_274 ?_
                        refine wq_iadd C dL_law_275 ?_
                        refine wq_iload C rfl dL_law_276 ?_
                        refine wq_sipush C (n := 4000) (by decide) dL_law_278 ?_
                        refine wq_idiv C (by omega) (by omega) dL_law_281 ?_
                        refine wq_iconst C dL_law_282 ?_
                        refine wq_irem C (by omega) (by omega) dL_law_283 ?_
                        refine wq_if_ne C 299 (by omega) (by decide) dL_law_284 (fun hc284 => ?_) (fun hc284 => ?_)
                        · skip
                          refine wq_iconst C dL_law_299 ?_
                          refine wq_sI C (av := [.ref ((g.2.2 0 0)), .ref ((g.2.2 60 0)), qi ((y) % (16)), qi ((((y) / (16)) % (4)) * (4)), qi ((1) + (((y) / (256)) % (100))), qi (0)]) (index := 184) (w_isAdded l hl g hI σ ((y) % (16)) ((((y) / (16)) % (4)) * (4)) ((1) + (((y) / (256)) % (100))) (0) S hw (by omega) (by omega) (by omega) (by omega)) (va_cwS 6 C.1.2.2.2.2 hL_isAdded rfl rfl rfl (by decide +kernel) ⟨Nat.le_of_ble_eq_true rfl, Nat.le_of_ble_eq_true rfl⟩) rfl rfl (Nat.le_of_ble_eq_true rfl) dL_law_300 ⟨(by show 1000 + 100 * n + 3 ≤ 664514; omega), (by show 10000 + 600 * n + 18 ≤ 7108083; omega)⟩ (fun r300 σ300 hp300 => ?_)
                          obtain ⟨rfl, S3, hw3, h33⟩ := hp300
                          refine wq_istore C (by decide) (Nat.le_of_ble_eq_true rfl) rfl dL_law_303 ?_
                          refine wq_goto C 587 (by decide) dL_law_305 ?_
                          refine wq_wide (c1 := 1000 + 100 * n + 9) (s1 := 10000 + 600 * n + 54) (by omega) (by omega) ?_
                          refine wq_lz (lw := [some (.ref (b)), some (.ref ((g.2.2 0 0))), some (.ref ((g.2.2 60 0))), some (.ref ((g.2.2 61 0))), some (qi (1)), some (qi (((n : Nat) : Int))), some (qi (r75)), none, none, none, none, none, none, none]) ?_ (hj587 S3 σ300 hw3 (by omega))
                          repeat (first | exact lz_0 | refine lz_s ?_ | refine lz_n ?_)
                        · skip
                          refine wq_iload C rfl dL_law_287 ?_
                          refine wq_sipush C (n := 16000) (by decide) dL_law_289 ?_
                          refine wq_idiv C (by omega) (by omega) dL_law_292 ?_
                          refine wq_bipush C (n := 101) (by decide) dL_law_293 ?_
                          refine wq_irem C (by omega) (by omega) dL_law_295 ?_
                          refine wq_goto C 300 (by decide) dL_law_296 ?_
                          refine wq_sI C (av := [.ref ((g.2.2 0 0)), .ref ((g.2.2 60 0)), qi ((y) % (16)), qi ((((y) / (16)) % (4)) * (4)), qi ((1) + (((y) / (256)) % (100))), qi (((y) / (16000)) % (101))]) (index := 184) (w_isAdded l hl g hI σ ((y) % (16)) ((((y) / (16)) % (4)) * (4)) ((1) + (((y) / (256)) % (100))) (((y) / (16000)) % (101)) S hw (by omega) (by omega) (by omega) (by omega)) (va_cwS 6 C.1.2.2.2.2 hL_isAdded rfl rfl rfl (by decide +kernel) ⟨Nat.le_of_ble_eq_true rfl, Nat.le_of_ble_eq_true rfl⟩) rfl rfl (Nat.le_of_ble_eq_true rfl) dL_law_300 ⟨(by show 1000 + 100 * n + 3 ≤ 664514; omega), (by show 10000 + 600 * n + 18 ≤ 7108083; omega)⟩ (fun r300 σ300 hp300 => ?_)
                          obtain ⟨rfl, S3, hw3, h33⟩ := hp300
                          refine wq_istore C (by decide) (Nat.le_of_ble_eq_true rfl) rfl dL_law_303 ?_
                          refine wq_goto C 587 (by decide) dL_law_305 ?_
                          refine wq_wide (c1 := 1000 + 100 * n + 9) (s1 := 10000 + 600 * n + 54) (by omega) (by omega) ?_
                          refine wq_lz (lw := [some (.ref (b)), some (.ref ((g.2.2 0 0))), some (.ref ((g.2.2 60 0))), some (.ref ((g.2.2 61 0))), some (qi (1)), some (qi (((n : Nat) : Int))), some (qi (r75)), none, none, none, none, none, none, none]) ?_ (hj587 S3 σ300 hw3 (by omega))
                          repeat (first | exact lz_0 | refine lz_s ?_ | refine lz_n ?_)
                refine wq_iload C rfl dL_law_94 ?_
                refine wq_if_ne C 212 (by omega) (by decide) dL_law_96 (fun hc96 => ?_) (fun hc96 => ?_)
                · skip
                  exact hj212
                · skip
                  refine wq_iload C rfl dL_law_99 ?_
                  refine wq_iconst C dL_law_101 ?_
                  refine wq_irem C (by omega) (by omega) dL_law_102 ?_
                  refine wq_if_ne C 212 (by omega) (by decide) dL_law_103 (fun hc103 => ?_) (fun hc103 => ?_)
                  · skip
                    exact hj212
                  · skip
                    refine wq_aload_n C rfl dL_law_106 ?_
                    refine wq_iconst C dL_law_107 ?_
                    refine wq_iload C rfl dL_law_108 ?_
                    refine wq_bipush C (n := 6) (by decide) dL_law_110 ?_
                    refine wq_irem C (by omega) (by omega) dL_law_112 ?_
                    refine wq_iast C (k := 61) (n := 4) rfl (by decide) (by decide) (0) rfl (by omega) dL_law_113 ?_
                    refine wq_aload_n C rfl dL_law_114 ?_
                    refine wq_iconst C dL_law_115 ?_
                    refine wq_iconst C dL_law_116 ?_
                    refine wq_iload C rfl dL_law_117 ?_
                    refine wq_bipush C (n := 6) (by decide) dL_law_119 ?_
                    refine wq_idiv C (by omega) (by omega) dL_law_121 ?_
                    refine wq_bipush C (n := 50) (by decide) dL_law_122 ?_
                    refine wq_irem C (by omega) (by omega) dL_law_124 ?_
                    refine wq_iadd C dL_law_125 ?_
                    refine wq_iast C (k := 61) (n := 4) rfl (by decide) (by decide) (1) rfl (by omega) dL_law_126 ?_
                    refine wq_aload_n C rfl dL_law_127 ?_
                    refine wq_iconst C dL_law_128 ?_
                    refine wq_iconst C dL_law_129 ?_
                    refine wq_iload C rfl dL_law_130 ?_
                    refine wq_sipush C (n := 300) (by decide) dL_law_132 ?_
                    refine wq_idiv C (by omega) (by omega) dL_law_135 ?_
                    refine wq_bipush C (n := 16) (by decide) dL_law_136 ?_
                    refine wq_irem C (by omega) (by omega) dL_law_138 ?_
                    refine wq_iadd C dL_law_139 ?_
                    refine wq_iast C (k := 61) (n := 4) rfl (by decide) (by decide) (2) rfl (by omega) dL_law_140 ?_
                    refine wq_aload_n C rfl dL_law_141 ?_
                    refine wq_iconst C dL_law_142 ?_
                    refine wq_iconst C dL_law_143 ?_
                    refine wq_iast C (k := 61) (n := 4) rfl (by decide) (by decide) (3) rfl (by omega) dL_law_144 ?_
                    obtain ⟨σ144, hσ144⟩ : ∃ σ144, σ144 = (am_up (am_up (am_up (am_up σ 61 0 (0) ((y) % (6))) 61 0 (1) ((1) + (((y) / (6)) % (50)))) 61 0 (2) ((1) + (((y) / (300)) % (16)))) 61 0 (3) (0)) := ⟨_, rfl⟩
                    rw [← hσ144]
                    have q0 : σ144 61 0 0 = (y) % (6) := by rw [hσ144, am_up_app, if_neg (by decide), am_up_app, if_neg (by decide), am_up_app, if_neg (by decide), am_up_app, if_pos ⟨rfl, rfl, rfl⟩]
                    have q1 : σ144 61 0 1 = (1) + (((y) / (6)) % (50)) := by rw [hσ144, am_up_app, if_neg (by decide), am_up_app, if_neg (by decide), am_up_app, if_pos ⟨rfl, rfl, rfl⟩]
                    have q2 : σ144 61 0 2 = (1) + (((y) / (300)) % (16)) := by rw [hσ144, am_up_app, if_neg (by decide), am_up_app, if_pos ⟨rfl, rfl, rfl⟩]
                    have q3 : σ144 61 0 3 = 0 := by rw [hσ144, am_up_app, if_pos ⟨rfl, rfl, rfl⟩]
                    refine wq_aload_n C rfl dL_law_145 ?_
                    refine wq_aload_n C rfl dL_law_146 ?_
                    refine wq_iconst C dL_law_147 ?_
                    refine wq_iald C (k := 61) (n := 4) rfl (by decide) (by decide) (0) rfl (by omega) dL_law_148 ?_
                    rw [q0]
                    refine wq_aload_n C rfl dL_law_149 ?_
                    refine wq_iconst C dL_law_150 ?_
                    refine wq_iald C (k := 61) (n := 4) rfl (by decide) (by decide) (1) rfl (by omega) dL_law_151 ?_
                    rw [q1]
                    refine wq_aload_n C rfl dL_law_152 ?_
                    refine wq_iconst C dL_law_153 ?_
                    refine wq_iald C (k := 61) (n := 4) rfl (by decide) (by decide) (2) rfl (by omega) dL_law_154 ?_
                    rw [q2]
                    refine wq_sW C (av := [.ref ((g.2.2 0 0)), qi ((y) % (6)), qi ((1) + (((y) / (6)) % (50))), qi ((1) + (((y) / (300)) % (16)))]) (index := 164) (w_reset l hl g hI σ144 ((y) % (6)) ((1) + (((y) / (6)) % (50))) ((1) + (((y) / (300)) % (16))) (by omega) (by omega) (by omega)) (vx_cwSW 4 C.1.2.2.2.2 hL_reset rfl rfl rfl (by decide +kernel) ⟨Nat.le_of_ble_eq_true rfl, Nat.le_of_ble_eq_true rfl⟩) rfl rfl (Nat.le_of_ble_eq_true rfl) dL_law_155 ⟨(by show 1000 + 100 * n + 1 ≤ 664514; omega), (by show 10000 + 600 * n + 6 ≤ 7108083; omega)⟩ (fun r155 σ155 hp155 => ?_)
                    have hok : ab_okR ((y) % (6)) ((1) + (((y) / (6)) % (50))) ((1) + (((y) / (300)) % (16))) := by unfold ab_okR; omega
                    obtain ⟨rfl, u, hu, hs155⟩ : r155 = 0 ∧ ∃ u, ab_C (ab_new0 ((y) % (6)) ((1) + (((y) / (6)) % (50))) ((1) + (((y) / (300)) % (16)))) u ∧ σ155 = l_mix u σ144 := by
                      rcases hp155 with ⟨h1, -, u, h2, h3⟩ | ⟨-, hk, -⟩
                      · exact ⟨h1, u, h2, h3⟩
                      · exact absurd hok hk
                    have hwn : lW (ab_new0 ((y) % (6)) ((1) + (((y) / (6)) % (50))) ((1) + (((y) / (300)) % (16)))) σ155 := lW_new0 hok (by rw [hs155]; exact C_mix hu) (by rw [hs155, mix_hi u _ (by omega)]; exact q0) (by rw [hs155, mix_hi u _ (by omega)]; exact q1) (by rw [hs155, mix_hi u _ (by omega)]; exact q2) (by rw [hs155, mix_hi u _ (by omega)]; exact q3)
                    have hv0 := fun i => new0_v ((y) % (6)) ((1) + (((y) / (6)) % (50))) ((1) + (((y) / (300)) % (16))) i
                    obtain ⟨S9, hw9, h93, h94, h9q, h9r, h9c⟩ : ∃ S9 : ab_S, lW S9 σ155 ∧ S9 19 3 = 0 ∧ S9 19 4 = 0 ∧ ab_qd S9 = 0 ∧ ab_ret S9 = 0 ∧ ∀ i, S9 13 i = 4 := ⟨_, hwn, (hv0 0).2.2.2.2.2.2.1, (hv0 0).2.2.2.2.2.2.2, qd_new0 _ _ _, ret_new0 _ _ _, fun i => (hv0 i).1⟩
                    obtain ⟨hC9, hS9, hJ9, hp9, hcl9, hfn9, hm09, hm19, hm29, hm39⟩ := id hw9
                    have hn249 := hS9.2.1.2.2.2.2
                    have hnn9 : ((ab_n S9 : Nat) : Int) = S9 19 4 := Int.toNat_of_nonneg hn249.1
                    have hc09 := hS9.2.1.2.2.2.1
                    refine wq_if_ne C 206 (by omega) (by decide) dL_law_158 (fun hc158 => ?_) (fun hc158 => ?_)
                    · exfalso; omega
                    · skip
                      refine wq_aload_n C rfl dL_law_161 ?_
                      refine wq_cI C (av := []) (index := 98) (c_X5_clock l g (lC_inj hI) σ155 S9 (48 * S9 19 3) hC9 hS9) (cwV 0 C.1.2.2.2.2 hX_clock rfl rfl rfl (by decide +kernel) ⟨Nat.le_of_ble_eq_true rfl, Nat.le_of_ble_eq_true rfl⟩) rfl rfl (Nat.le_of_ble_eq_true rfl) dL_law_162 ⟨(by show 1000 + 100 * n + 1 + 0 ≤ 664514; omega), (by show 10000 + 600 * n + 6 + 0 ≤ 7108083; omega)⟩ (fun r162 σ162 hp162 => ?_)
                      obtain ⟨hsg162, hr162⟩ := hp162
                      rw [hsg162, l_mix_s]
                      obtain rfl : r162 = S9 19 3 := hr162.trans (by first | rfl | (congr 1; omega))
                      refine wq_if_ne C 206 (by omega) (by decide) dL_law_165 (fun hc165 => ?_) (fun hc165 => ?_)
                      · skip
                        exfalso; omega
                      · skip
                        refine wq_aload_n C rfl dL_law_168 ?_
                        refine wq_cI C (av := []) (index := 92) (c_X5_flows l g (lC_inj hI) σ155 S9 (48 * S9 19 3) hC9 hS9) (cwV 0 C.1.2.2.2.2 hX_flows rfl rfl rfl (by decide +kernel) ⟨Nat.le_of_ble_eq_true rfl, Nat.le_of_ble_eq_true rfl⟩) rfl rfl (Nat.le_of_ble_eq_true rfl) dL_law_169 ⟨(by show 1000 + 100 * n + 1 + 0 ≤ 664514; omega), (by show 10000 + 600 * n + 6 + 0 ≤ 7108083; omega)⟩ (fun r169 σ169 hp169 => ?_)
                        obtain ⟨hsg169, hr169⟩ := hp169
                        rw [hsg169, l_mix_s]
                        obtain rfl : r169 = S9 19 4 := hr169.trans (by first | rfl | (congr 1; omega))
                        refine wq_if_ne C 206 (by omega) (by decide) dL_law_172 (fun hc172 => ?_) (fun hc172 => ?_)
                        · skip
                          exfalso; omega
                        · skip
                          refine wq_aload_n C rfl dL_law_175 ?_
                          refine wq_cI C (av := []) (index := 120) (c_X5_queued l g (lC_inj hI) σ155 S9 (48 * S9 19 3) hC9 hS9) (cwV 0 C.1.2.2.2.2 hX_queued rfl rfl rfl (by decide +kernel) ⟨Nat.le_of_ble_eq_true rfl, Nat.le_of_ble_eq_true rfl⟩) rfl rfl (Nat.le_of_ble_eq_true rfl) dL_law_176 ⟨(by show 1000 + 100 * n + 1 + 0 ≤ 664514; omega), (by show 10000 + 600 * n + 6 + 0 ≤ 7108083; omega)⟩ (fun r176 σ176 hp176 => ?_)
                          obtain ⟨hsg176, hr176⟩ := hp176
                          rw [hsg176, l_mix_s]
                          obtain rfl : r176 = ab_qd S9 := hr176.trans (by first | rfl | (congr 1; omega))
                          refine wq_if_ne C 206 (by omega) (by decide) dL_law_179 (fun hc179 => ?_) (fun hc179 => ?_)
                          · skip
                            exfalso; omega
                          · skip
                            refine wq_aload_n C rfl dL_law_182 ?_
                            refine wq_cI C (av := []) (index := 117) (c_X5_returning l g (lC_inj hI) σ155 S9 (48 * S9 19 3) hC9 hS9) (cwV 0 C.1.2.2.2.2 hX_returning rfl rfl rfl (by decide +kernel) ⟨Nat.le_of_ble_eq_true rfl, Nat.le_of_ble_eq_true rfl⟩) rfl rfl (Nat.le_of_ble_eq_true rfl) dL_law_183 ⟨(by show 1000 + 100 * n + 1 + 0 ≤ 664514; omega), (by show 10000 + 600 * n + 6 + 0 ≤ 7108083; omega)⟩ (fun r183 σ183 hp183 => ?_)
                            obtain ⟨hsg183, hr183⟩ := hp183
                            rw [hsg183, l_mix_s]
                            obtain rfl : r183 = ab_ret S9 := hr183.trans (by first | rfl | (congr 1; omega))
                            refine wq_if_ne C 206 (by omega) (by decide) dL_law_186 (fun hc186 => ?_) (fun hc186 => ?_)
                            · skip
                              exfalso; omega
                            · skip
                              refine wq_aload_n C rfl dL_law_189 ?_
                              refine wq_iload C rfl dL_law_190 ?_
                              refine wq_bipush C (n := 16) (by decide) dL_law_192 ?_
                              refine wq_irem C (by omega) (by omega) dL_law_194 ?_
                              refine wq_cI C (av := [.inl ((y) % (16))]) (index := 63) (z_X5_upCredits l g (lC_inj hI) σ155 ((y) % (16)) S9 (48 * S9 19 3) hC9 hS9 (by omega)) (cwV 1 C.1.2.2.2.2 hX_upCredits rfl rfl rfl (by decide +kernel) ⟨Nat.le_of_ble_eq_true rfl, Nat.le_of_ble_eq_true rfl⟩) rfl rfl (Nat.le_of_ble_eq_true rfl) dL_law_195 ⟨(by show 1000 + 100 * n + 1 + 0 ≤ 664514; omega), (by show 10000 + 600 * n + 6 + 0 ≤ 7108083; omega)⟩ (fun r195 σ195 hp195 => ?_)
                              obtain ⟨hsg195, hr195⟩ := hp195
                              rw [hsg195, l_mix_s]
                              obtain rfl : r195 = S9 13 ((((y) % (16))).toNat) := hr195.trans (by first | rfl | (congr 1; omega))
                              have hu4 : S9 13 ((((y) % (16))).toNat) = 4 := h9c _
                              refine wq_iconst C dL_law_198 ?_
                              refine wq_icmp_ne C 206 (by omega) (by omega) (by decide) dL_law_199 (fun hc199 => ?_) (fun hc199 => ?_)
                              · skip
                                exfalso; omega
                              · skip
                                refine wq_iconst C dL_law_202 ?_
                                refine wq_goto C 207 (by decide) dL_law_203 ?_
                                refine wq_istore C (by decide) (Nat.le_of_ble_eq_true rfl) rfl dL_law_207 ?_
                                refine wq_goto C 587 (by decide) dL_law_209 ?_
                                refine wq_wide (c1 := 1000 + 100 * n + 9) (s1 := 10000 + 600 * n + 54) (by omega) (by omega) ?_
                                refine wq_lz (lw := [some (.ref (b)), some (.ref ((g.2.2 0 0))), some (.ref ((g.2.2 60 0))), some (.ref ((g.2.2 61 0))), some (qi (1)), some (qi (((n : Nat) : Int))), some (qi (r75)), none, none, none, none, none, none, none]) ?_ (hj587 S9 σ155 hw9 (by omega))
                                repeat (first | exact lz_0 | refine lz_s ?_ | refine lz_n ?_)
        refine wq_wide (c1 := 1000 + 100 * 0) (s1 := 10000 + 600 * 0) (by decide) (by decide) ?_
        exact hl59 151 0 S σ25 (by omega) (by omega) hw (by omega)
