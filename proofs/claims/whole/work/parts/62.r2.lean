/-! FabricsimModel: a spine is chosen; credits, deliveries, losses, other spines -/
theorem R_got {T : ab_S} {ρ : am_M} (h : ab_R T ρ) (f : Nat) (x : Int) : ab_R (ab_got T f x) (am_up (am_up (am_up (am_up ρ 32 0 f (T 7 f + if x < T 8 f then 1 else 0)) 33 0 f (if x < T 8 f then T 8 f else x)) 30 0 f (T 5 f + 1)) 34 0 f (if T 5 f + 1 = T 2 f then T 19 3 else T 9 f)) := by
  have c1 := R_u h (g := 7) (k := 32) (i := f) (Or.inl ⟨by omega, by omega⟩) (T 7 f + if x < T 8 f then 1 else 0)
  have c2 := R_u c1 (g := 8) (k := 33) (i := f) (Or.inl ⟨by omega, by omega⟩) (if x < T 8 f then T 8 f else x)
  have c3 := R_u c2 (g := 5) (k := 30) (i := f) (Or.inl ⟨by omega, by omega⟩) (T 5 f + 1)
  have c4 := R_u c3 (g := 9) (k := 34) (i := f) (Or.inl ⟨by omega, by omega⟩) (if T 5 f + 1 = T 2 f then T 19 3 else T 9 f)
  refine R_ext (fun g i => ?_) c4
  simp only [ab_u_app, ab_got]
  by_cases hi : i = f
  · subst hi
    by_cases h9 : g = 9
    · subst h9; simp
    · by_cases h5 : g = 5
      · subst h5; simp
      · by_cases h8 : g = 8
        · subst h8; simp
        · by_cases h7 : g = 7
          · subst h7; simp
          · simp [h9, h5, h8, h7]
  · simp [hi]
theorem c_X6_leavesT (l : Launch) (g : am_g) (hI : am_inj (gR g)) (σ : am_M) (q : Nat) (T : ab_S) (b : Int) (hR : ab_R T σ) (hT : ab_I T b) (hq : q < 64) (hp : 0 < T 14 q) : Met l yX6_leaves wsX6_leaves ({ frames := 0, cells := 0, slots := 0, locals := 0 }) (am_P (gR g) σ [.inr (20, 0), .inl ((q : Nat) : Int)]) (am_QV (gR g) (fun σ' => σ' = rl_drop σ q (ab_T T % 8))) 0 0 (am_FA (gR g)) := by
  have h4 := hT.s4 hq
  have h39 := (hR.2.2.2.1 q hq).1
  have hc := hT.2.1
  refine c_X6_leaves l g hI σ q (ab_T T % 8) hq (by omega) (by omega) (by rw [hR.1.2.1]; omega) (by rw [hR.1.2.2.1]; omega) ?_
  rw [hR.1.2.1, hR.1.2.2.1]
  unfold ab_T
  omega
/-- the first of a queue, as the model shows it -/
theorem R_hd {T : ab_S} {σ : am_M} (hR : ab_R T σ) {q : Nat} (hq : q < 64) (hp : 0 < T 14 q) : σ 43 0 (4 * q) = T 20 (4 * q) ∧ σ 44 0 (4 * q) = T 21 (4 * q) ∧ σ 46 0 (4 * q) = T 22 (4 * q) ∧ σ 45 0 (4 * q) = T 23 (4 * q) := by
  have h5 := hR.2.2.2.2.1 q 0 hq (by simpa using hp)
  simpa only [Nat.add_zero] using h5
theorem ab_w_rng {S : ab_S} {b : Int} (h : ab_I S b) {q : Nat} (hq : q < 64) : -1 ≤ ab_w S q ∧ ab_w S q < 64 := by
  unfold ab_w
  split
  · omega
  · rename_i c
    have h0 := (h.s4 hq).1
    obtain ⟨e, e1, e2, e3, e4, e5, e6, e7, e8⟩ := ab_hd h hq (by omega)
    have i1 := e2.2.1
    split
    · omega
    · split
      · omega
      · split
        · omega
        · split
          · omega
          · omega
theorem I_lost {S : ab_S} {b : Int} (h : ab_I S b) {f h' : Nat} (hf : (f : Int) < S 19 4) (hb : b + 1 ≤ 100000000) : ab_I (ab_u (ab_u S 6 f (S 6 f + 1)) 16 h' (S 16 h' - 1)) (b + 1) := by
  refine I_flow h (by omega) hb (fun g i hg hn => ?_) (fun f' hf' => ?_) (fun k hk => ?_) (fun f' hf' => ?_)
  · rw [ab_u_app, if_neg (by omega), ab_u_app, if_neg (by omega)]
  · rw [ab_u_app, if_neg (by omega), ab_u_app, if_neg (by omega), ab_u_app, if_neg (by omega), ab_u_app, if_neg (by omega)]; exact ⟨rfl, rfl⟩
  · have := (h.2.2.2.2.2.1 k hk).1
    rw [ab_u_app]
    split
    · rename_i z
      obtain ⟨-, rfl⟩ := z
      omega
    · rw [ab_u_app, if_neg (by omega)]; omega
  · have i := h.2.2.1 f' hf'
    have e : ∀ g, g < 13 → ab_u (ab_u S 6 f (S 6 f + 1)) 16 h' (S 16 h' - 1) g f' = ab_u S 6 f (S 6 f + 1) g f' := fun g hg => by rw [ab_u_app, if_neg (by omega)]
    refine ab_If_cg (S := ab_u S 6 f (S 6 f + 1)) (Int.le_refl _) e ?_
    unfold ab_If at i ⊢
    rw [ab_far_cg (S := S) (by rw [ab_u_app, if_neg (by omega)]) (by rw [ab_u_app, if_neg (by omega)])]
    have e2 : ∀ g, ¬ g = 6 → ab_u S 6 f (S 6 f + 1) g f' = S g f' := fun g hg => by rw [ab_u_app, if_neg (by omega)]
    rw [e2 0 (by omega), e2 1 (by omega), e2 2 (by omega), e2 3 (by omega), e2 4 (by omega), e2 5 (by omega), e2 7 (by omega), e2 8 (by omega), e2 9 (by omega), e2 10 (by omega), e2 11 (by omega), e2 12 (by omega)]
    obtain ⟨i0, i1, i2, i3, i4, i5, i6, i7, i8, i9, i10, i11, i12, i13, i14⟩ := i
    refine ⟨i0, i1, i2, i3, by omega, by omega, ?_, by omega, by omega, i9, by omega, i11, i12, i13, i14⟩
    rw [ab_u_app]
    split
    · rename_i z
      obtain ⟨-, rfl⟩ := z
      omega
    · omega
theorem w_cho {S : ab_S} {b : Int} (h : ab_I S b) {k : Nat} (hk : k < 16) (hp : 0 < S 14 k) (hf : ab_far S (ab_fl S k) = true) : (ab_w S k = -1 ↔ ab_us S (k / 4) (ab_lb S (ab_fl S k)) (S 23 (4 * k)).toNat = false) := by
  obtain ⟨e, e1, e2, e3, e4, e5, e6, e7, e8⟩ := ab_hd h (q := k) (by omega) hp
  obtain ⟨f1, f2, f3, f4⟩ := ab_lbv e2
  have h6 := e6 hk
  have h7 := h6.2 hf
  have hne : ¬ S 0 (ab_fl S k) / 4 = S 1 (ab_fl S k) / 4 := by
    unfold ab_far at hf
    exact of_decide_eq_true hf
  have hn : ¬ ((k / 4 : Nat) : Int) = S 1 (ab_fl S k) / 4 := by rw [h6.1] at hne; omega
  rw [ab_w, if_neg (by omega), if_neg (by omega), if_neg (by omega), if_neg hn]
  cases hu : ab_us S (k / 4) (ab_lb S (ab_fl S k)) (S 23 (4 * k)).toNat with
  | true => rw [if_pos rfl]; refine ⟨fun z => ?_, fun z => absurd z (by decide)⟩; omega
  | false => rw [if_neg (by decide)]; exact ⟨fun _ => rfl, fun _ => rfl⟩

theorem in_c_X6_chosen_X6 : ∀ w ∈ u_ws RX6 TX6 36, w ∈ wsX6_chosen := by decide +kernel
set_option maxRecDepth 100000 in
set_option maxHeartbeats 4000000 in
/-- chosen -/
theorem c_X6_chosen (l : Launch) (g : am_g) (hI : am_inj (gR g)) (σ : am_M) (f : Nat) (k : Int) (S : ab_S) (b : Int) (hv : ab_Rv S σ) (hS : ab_I S b) (hf : (f : Int) < S 19 4) (hk : 0 ≤ k ∧ k ≤ 100000000) : Met l yX6_chosen wsX6_chosen ({ frames := 1, cells := 0, slots := 0, locals := 23 }) (am_P (gR g) σ [.inr (20, 0), .inl ((f : Nat) : Int), .inl (k)]) (am_QI (gR g) (fun r σ' => σ' = σ ∧ r = ab_chosen S f k)) 0 0 (am_FA (gR g)) := by
  refine wk_start (cc := cX6_chosen) (nL := 10) (ret := (some .int)) (own := RX6) (by decide) rfl hI rfl (Nat.le_of_ble_eq_true rfl) ?_
  intro p e s m below meth c C hr hlk
  change wk _ p l e _ s m _ below meth c 0 0 _ _ _ _ 0 [some (.inr (20, 0)), some (.inl ((f : Nat) : Int)), some (.inl (k)), none, none, none, none, none, none, none] [] σ
  have hif := hS.2.2.1 f hf
  unfold ab_If at hif
  obtain ⟨i0, i1, i2, i3, i4, i5, i6, i7, i8, i9, i10, i11, i12, i13, i14⟩ := hif
  have hn24 := hS.2.1.2.2.2.2
  have hf24 : f < 24 := by omega
  have hcf0 : σ 25 0 f = S 0 f := (hv.2 f hf).1
  have hcf1 : σ 26 0 f = S 1 f := (hv.2 f hf).2
  have hla : ((ab_la S f : Nat) : Int) = S 0 f / 4 := Int.toNat_of_nonneg (by omega)
  have hlb : ((ab_lb S f : Nat) : Int) = S 1 f / 4 := Int.toNat_of_nonneg (by omega)
  have hc4 := ab_cnt_rng (ab_us S (ab_la S f) (ab_lb S f)) 4
  refine wk_aload_n C rfl dX6_chosen_0 ?_
  refine wk_getr C (k := 20) (ci := 6) (j := 5) (T := TX6) rfl (show 0 < (1:Nat) by decide) rfl in_c_X6_chosen_X6 (by decide) (by decide +kernel) rfl dX6_chosen_1 ?_
  refine wk_iload_n C rfl dX6_chosen_4 ?_
  refine wk_iald C (k := 25) rfl (show 0 < (1:Nat) by decide) (Nat.le_of_ble_eq_true rfl) (f) (by omega) (show _ < (24:Nat) by omega) dX6_chosen_5 ?_
  rw [hcf0]
  refine wk_iconst C dX6_chosen_6 ?_
  refine wk_idiv C (by omega) (by omega) dX6_chosen_7 ?_
  rw [← hla]
  refine wk_istore_n C (by decide) (Nat.le_of_ble_eq_true rfl) dX6_chosen_8 ?_
  refine wk_aload_n C rfl dX6_chosen_9 ?_
  refine wk_getr C (k := 20) (ci := 6) (j := 6) (T := TX6) rfl (show 0 < (1:Nat) by decide) rfl in_c_X6_chosen_X6 (by decide) (by decide +kernel) rfl dX6_chosen_10 ?_
  refine wk_iload_n C rfl dX6_chosen_13 ?_
  refine wk_iald C (k := 26) rfl (show 0 < (1:Nat) by decide) (Nat.le_of_ble_eq_true rfl) (f) (by omega) (show _ < (24:Nat) by omega) dX6_chosen_14 ?_
  rw [hcf1]
  refine wk_iconst C dX6_chosen_15 ?_
  refine wk_idiv C (by omega) (by omega) dX6_chosen_16 ?_
  rw [← hlb]
  refine wk_istore C (by decide) (Nat.le_of_ble_eq_true rfl) dX6_chosen_17 ?_
  refine wk_iconst C dX6_chosen_19 ?_
  refine wk_istore C (by decide) (Nat.le_of_ble_eq_true rfl) dX6_chosen_20 ?_
  refine wk_iconst C dX6_chosen_22 ?_
  refine wk_istore C (by decide) (Nat.le_of_ble_eq_true rfl) dX6_chosen_23 ?_
  have hl25 : ∀ (d j : Nat), 5 ≤ j + d → j ≤ 4 → wk (gR g) p l e (headSpec wsX6_chosen ({ frames := 1, cells := 0, slots := 0, locals := 23 })).room s m ([.inr (20, 0), .inl ((f : Nat) : Int), .inl (k)].map (am_tv (gR g))).toArray below meth c 0 0 (MQ below (am_QI (gR g) (fun r σ' => σ' = σ ∧ r = ab_chosen S f k)) ([.inr (20, 0), .inl ((f : Nat) : Int), .inl (k)].map (am_tv (gR g))).toArray s 0 0 (am_FA (gR g))) (am_FA (gR g)) s.heap 10 25 [some (.inr (20, 0)), some (.inl ((f : Nat) : Int)), some (.inl (k)), some (.inl (((ab_la S f) : Nat) : Int)), some (.inl (((ab_lb S f) : Nat) : Int)), some (.inl (ab_cnt (ab_us S (ab_la S f) (ab_lb S f)) j)), some (.inl ((j : Nat) : Int)), none, none, none] [] σ := by
    intro d
    induction d with
    | zero => intro j h1 h2; omega
    | succ d ih =>
      intro j h1 h2
      refine wk_iload C rfl dX6_chosen_25 ?_
      refine wk_iconst C dX6_chosen_27 ?_
      refine wk_icmp_ge C 59 (by omega) (by omega) (by decide) dX6_chosen_28 (fun hc28 => ?_) (fun hc28 => ?_)
      · skip
        have h4 : j = 4 := by omega
        subst h4
        have hj98 : ∀ pl : Int, pl = (if ab_cnt (ab_us S (ab_la S f) (ab_lb S f)) 4 = 0 then 0 else (7 * (f : Int) + 13 * k + 3 * S 0 f + 5 * S 1 f) % ab_cnt (ab_us S (ab_la S f) (ab_lb S f)) 4) → wk (gR g) p l e (headSpec wsX6_chosen ({ frames := 1, cells := 0, slots := 0, locals := 23 })).room s m ([.inr (20, 0), .inl ((f : Nat) : Int), .inl (k)].map (am_tv (gR g))).toArray below meth c 0 0 (MQ below (am_QI (gR g) (fun r σ' => σ' = σ ∧ r = ab_chosen S f k)) ([.inr (20, 0), .inl ((f : Nat) : Int), .inl (k)].map (am_tv (gR g))).toArray s 0 0 (am_FA (gR g))) (am_FA (gR g)) s.heap 10 98 [some (.inr (20, 0)), some (.inl ((f : Nat) : Int)), some (.inl (k)), some (.inl (((ab_la S f) : Nat) : Int)), some (.inl (((ab_lb S f) : Nat) : Int)), some (.inl (ab_cnt (ab_us S (ab_la S f) (ab_lb S f)) 4)), none, none, none, none] [.inl (pl)] σ := by
          intro pl hpl
          have hplr : -2147483648 ≤ pl ∧ pl < 2147483648 := by
            rw [hpl]
            split
            · omega
            · have z1 := Int.emod_nonneg (7 * (f : Int) + 13 * k + 3 * S 0 f + 5 * S 1 f) (b := ab_cnt (ab_us S (ab_la S f) (ab_lb S f)) 4) (by omega)
              have z2 := Int.emod_lt_of_pos (7 * (f : Int) + 13 * k + 3 * S 0 f + 5 * S 1 f) (b := ab_cnt (ab_us S (ab_la S f) (ab_lb S f)) 4) (by omega)
              omega
          refine wk_istore C (by decide) (Nat.le_of_ble_eq_true rfl) dX6_chosen_98 ?_
          refine wk_iconst C dX6_chosen_100 ?_
          refine wk_istore C (by decide) (Nat.le_of_ble_eq_true rfl) dX6_chosen_101 ?_
          refine wk_iconst C dX6_chosen_103 ?_
          refine wk_istore C (by decide) (Nat.le_of_ble_eq_true rfl) dX6_chosen_104 ?_
          have hl106 : ∀ (d2 n : Nat), 5 ≤ n + d2 → n ≤ 4 → wk (gR g) p l e (headSpec wsX6_chosen ({ frames := 1, cells := 0, slots := 0, locals := 23 })).room s m ([.inr (20, 0), .inl ((f : Nat) : Int), .inl (k)].map (am_tv (gR g))).toArray below meth c 0 0 (MQ below (am_QI (gR g) (fun r σ' => σ' = σ ∧ r = ab_chosen S f k)) ([.inr (20, 0), .inl ((f : Nat) : Int), .inl (k)].map (am_tv (gR g))).toArray s 0 0 (am_FA (gR g))) (am_FA (gR g)) s.heap 10 106 [some (.inr (20, 0)), some (.inl ((f : Nat) : Int)), some (.inl (k)), some (.inl (((ab_la S f) : Nat) : Int)), some (.inl (((ab_lb S f) : Nat) : Int)), some (.inl (ab_cnt (ab_us S (ab_la S f) (ab_lb S f)) (4 - n))), some (.inl (pl)), some (.inl (ab_fd (ab_us S (ab_la S f) (ab_lb S f)) pl n)), some (.inl (3 - ((n : Nat) : Int))), none] [] σ := by
            intro d2
            induction d2 with
            | zero => intro n g1 g2; omega
            | succ d2 ih2 =>
              intro n g1 g2
              refine wk_iload C rfl dX6_chosen_106 ?_
              refine wk_if_lt C 164 (by omega) (by decide) dX6_chosen_108 (fun hc108 => ?_) (fun hc108 => ?_)
              · skip
                refine wk_iload C rfl dX6_chosen_164 ?_
                refine wk_iret C hr hlk dX6_chosen_166 ?_
                have h4 : n = 4 := by omega
                subst h4
                exact ⟨rfl, by rw [ab_chosen_fd S f k _ rfl, hpl]⟩
              · skip
                have hn4 : n < 4 := by omega
                rw [show (3 : Int) - ((n : Nat) : Int) = ((3 - n : Nat) : Int) by omega]
                have e4 : ab_cnt (ab_us S (ab_la S f) (ab_lb S f)) (4 - n) = ab_cnt (ab_us S (ab_la S f) (ab_lb S f)) (3 - n) + ab_1 ((ab_us S (ab_la S f) (ab_lb S f)) (3 - n)) := by rw [show 4 - n = (3 - n) + 1 by omega, ab_cnt]
                have hcr := ab_cnt_rng (ab_us S (ab_la S f) (ab_lb S f)) (3 - n)
                have hfr := ab_fd_rng (ab_us S (ab_la S f) (ab_lb S f)) pl n
                refine wk_aload_n C rfl dX6_chosen_111 ?_
                refine wk_iload_n C rfl dX6_chosen_112 ?_
                refine wk_iload C rfl dX6_chosen_113 ?_
                refine wk_iload C rfl dX6_chosen_115 ?_
                refine wk_ofI C (wk_runV (index := 145) (ci := 6) (st := []) C (c_X6_isUsable l g hI _ (ab_la S f) (ab_lb S f) (3 - n) (by omega) (by omega) (by omega) S b hv hS) (cwV 3 C.2.2.2.2.1 gX6_chosen_X6_isUsable rfl rfl rfl (by decide +kernel) ⟨Nat.le_of_ble_eq_true rfl, Nat.le_of_ble_eq_true rfl⟩) rfl (show 0 < (1:Nat) by decide) rfl rfl rfl (Nat.le_of_ble_eq_true rfl) dX6_chosen_117 ⟨Nat.zero_le _, Nat.zero_le _⟩) (fun r117 σ117 hp117 => ?_)
                obtain ⟨hsg117, rfl⟩ := hp117
                rw [hsg117]
                have h1r := ab_1r ((ab_us S (ab_la S f) (ab_lb S f)) (3 - n))
                refine wk_istore C (by decide) (Nat.le_of_ble_eq_true rfl) dX6_chosen_120 ?_
                have hj134 : ∀ v : Int, v = ab_1 ((ab_us S (ab_la S f) (ab_lb S f)) (3 - n)) → wk (gR g) p l e (headSpec wsX6_chosen ({ frames := 1, cells := 0, slots := 0, locals := 23 })).room s m ([.inr (20, 0), .inl ((f : Nat) : Int), .inl (k)].map (am_tv (gR g))).toArray below meth c 0 0 (MQ below (am_QI (gR g) (fun r σ' => σ' = σ ∧ r = ab_chosen S f k)) ([.inr (20, 0), .inl ((f : Nat) : Int), .inl (k)].map (am_tv (gR g))).toArray s 0 0 (am_FA (gR g))) (am_FA (gR g)) s.heap 10 134 [some (.inr (20, 0)), some (.inl ((f : Nat) : Int)), some (.inl (k)), some (.inl (((ab_la S f) : Nat) : Int)), some (.inl (((ab_lb S f) : Nat) : Int)), some (.inl (ab_cnt (ab_us S (ab_la S f) (ab_lb S f)) (4 - n))), some (.inl (pl)), some (.inl (ab_fd (ab_us S (ab_la S f) (ab_lb S f)) pl n)), some (.inl (((3 - n) : Nat) : Int)), some (.inl (ab_1 ((ab_us S (ab_la S f) (ab_lb S f)) (3 - n))))] [.inl (v), .inl (ab_cnt (ab_us S (ab_la S f) (ab_lb S f)) (4 - n))] σ := by
                  intro v hv2
                  refine wk_isub C dX6_chosen_134 ?_
                  rw [show ab_cnt (ab_us S (ab_la S f) (ab_lb S f)) (4 - n) - v = ab_cnt (ab_us S (ab_la S f) (ab_lb S f)) (3 - n) by omega]
                  refine wk_istore C (by decide) (Nat.le_of_ble_eq_true rfl) dX6_chosen_135 ?_
                  have hj156 : ∀ v2 : Int, v2 = ab_fd (ab_us S (ab_la S f) (ab_lb S f)) pl (n + 1) → wk (gR g) p l e (headSpec wsX6_chosen ({ frames := 1, cells := 0, slots := 0, locals := 23 })).room s m ([.inr (20, 0), .inl ((f : Nat) : Int), .inl (k)].map (am_tv (gR g))).toArray below meth c 0 0 (MQ below (am_QI (gR g) (fun r σ' => σ' = σ ∧ r = ab_chosen S f k)) ([.inr (20, 0), .inl ((f : Nat) : Int), .inl (k)].map (am_tv (gR g))).toArray s 0 0 (am_FA (gR g))) (am_FA (gR g)) s.heap 10 156 [some (.inr (20, 0)), some (.inl ((f : Nat) : Int)), some (.inl (k)), some (.inl (((ab_la S f) : Nat) : Int)), some (.inl (((ab_lb S f) : Nat) : Int)), some (.inl (ab_cnt (ab_us S (ab_la S f) (ab_lb S f)) (3 - n))), some (.inl (pl)), some (.inl (ab_fd (ab_us S (ab_la S f) (ab_lb S f)) pl n)), some (.inl (((3 - n) : Nat) : Int)), some (.inl (ab_1 ((ab_us S (ab_la S f) (ab_lb S f)) (3 - n))))] [.inl (v2)] σ := by
                    intro v2 hv3
                    subst hv3
                    refine wk_istore C (by decide) (Nat.le_of_ble_eq_true rfl) dX6_chosen_156 ?_
                    refine wk_iinc C rfl (by decide) dX6_chosen_158 ?_
                    refine wk_goto C 106 (by decide) dX6_chosen_161 ?_
                    rw [show ((3 - n : Nat) : Int) + -1 = 3 - ((n + 1 : Nat) : Int) by omega]
                    have := ih2 (n + 1) (by omega) (by omega)
                    rw [show 4 - (n + 1) = 3 - n by omega] at this
                    refine wk_le ?_ this
                    repeat (first | exact le_0 | refine le_s ?_ | refine le_n ?_)
                  refine wk_iload C rfl dX6_chosen_137 ?_
                  refine wk_if_eq C 154 (by omega) (by decide) dX6_chosen_139 (fun hc139 => ?_) (fun hc139 => ?_)
                  · skip
                    have hus : ab_us S (ab_la S f) (ab_lb S f) (3 - n) = false := by
                      cases hz : ab_us S (ab_la S f) (ab_lb S f) (3 - n)
                      · rfl
                      · rw [hz, ab_1t] at hc139; omega
                    have hv2 : ab_fd (ab_us S (ab_la S f) (ab_lb S f)) pl n = ab_fd (ab_us S (ab_la S f) (ab_lb S f)) pl (n + 1) := by
                      rw [ab_fd, if_neg]
                      rintro ⟨z, -⟩
                      rw [hus] at z; exact absurd z (by decide)
                    refine wk_iload C rfl dX6_chosen_154 ?_
                    exact hj156 _ hv2
                  · skip
                    have hus : ab_us S (ab_la S f) (ab_lb S f) (3 - n) = true := by
                      cases hz : ab_us S (ab_la S f) (ab_lb S f) (3 - n)
                      · rw [hz, ab_1f] at hc139; omega
                      · rfl
                    refine wk_iload C rfl dX6_chosen_142 ?_
                    refine wk_iload C rfl dX6_chosen_144 ?_
                    refine wk_icmp_ne C 154 (by omega) (by omega) (by decide) dX6_chosen_146 (fun hc146 => ?_) (fun hc146 => ?_)
                    · skip
                      have hv2 : ab_fd (ab_us S (ab_la S f) (ab_lb S f)) pl n = ab_fd (ab_us S (ab_la S f) (ab_lb S f)) pl (n + 1) := by rw [ab_fd, if_neg (fun z => hc146 z.2)]
                      refine wk_iload C rfl dX6_chosen_154 ?_
                      exact hj156 _ hv2
                    · skip
                      have hv2 : ((3 - n : Nat) : Int) = ab_fd (ab_us S (ab_la S f) (ab_lb S f)) pl (n + 1) := by rw [ab_fd, if_pos ⟨hus, hc146⟩]
                      refine wk_iload C rfl dX6_chosen_149 ?_
                      refine wk_goto C 156 (by decide) dX6_chosen_151 ?_
                      exact hj156 _ hv2
                refine wk_iload C rfl dX6_chosen_122 ?_
                refine wk_iload C rfl dX6_chosen_124 ?_
                refine wk_if_eq C 133 (by omega) (by decide) dX6_chosen_126 (fun hc126 => ?_) (fun hc126 => ?_)
                · skip
                  refine wk_iconst C dX6_chosen_133 ?_
                  exact hj134 _ (by omega)
                · skip
                  refine wk_iconst C dX6_chosen_129 ?_
                  refine wk_goto C 134 (by decide) dX6_chosen_130 ?_
                  exact hj134 _ (by omega)
          refine wk_le ?_ (hl106 5 0 (by omega) (by omega))
          repeat (first | exact le_0 | refine le_s ?_ | refine le_n ?_)
        refine wk_iload C rfl dX6_chosen_59 ?_
        refine wk_if_ne C 68 (by omega) (by decide) dX6_chosen_61 (fun hc61 => ?_) (fun hc61 => ?_)
        · skip
          refine wk_bipush C (n := 7) (by decide) dX6_chosen_68 ?_
          refine wk_iload_n C rfl dX6_chosen_70 ?_
          refine wk_imul C dX6_chosen_71 ?_
          refine wk_bipush C (n := 13) (by decide) dX6_chosen_72 ?_
          refine wk_iload_n C rfl dX6_chosen_74 ?_
          refine wk_imul C dX6_chosen_75 ?_
          refine wk_iadd C dX6_chosen_76 ?_
          refine wk_iconst C dX6_chosen_77 ?_
          refine wk_aload_n C rfl dX6_chosen_78 ?_
          refine wk_getr C (k := 20) (ci := 6) (j := 5) (T := TX6) rfl (show 0 < (1:Nat) by decide) rfl in_c_X6_chosen_X6 (by decide) (by decide +kernel) rfl dX6_chosen_79 ?_
          refine wk_iload_n C rfl dX6_chosen_82 ?_
          refine wk_iald C (k := 25) rfl (show 0 < (1:Nat) by decide) (Nat.le_of_ble_eq_true rfl) (f) (by omega) (show _ < (24:Nat) by omega) dX6_chosen_83 ?_
          rw [hcf0]
          refine wk_imul C dX6_chosen_84 ?_
          refine wk_iadd C dX6_chosen_85 ?_
          refine wk_iconst C dX6_chosen_86 ?_
          refine wk_aload_n C rfl dX6_chosen_87 ?_
          refine wk_getr C (k := 20) (ci := 6) (j := 6) (T := TX6) rfl (show 0 < (1:Nat) by decide) rfl in_c_X6_chosen_X6 (by decide) (by decide +kernel) rfl dX6_chosen_88 ?_
          refine wk_iload_n C rfl dX6_chosen_91 ?_
          refine wk_iald C (k := 26) rfl (show 0 < (1:Nat) by decide) (Nat.le_of_ble_eq_true rfl) (f) (by omega) (show _ < (24:Nat) by omega) dX6_chosen_92 ?_
          rw [hcf1]
          refine wk_imul C dX6_chosen_93 ?_
          refine wk_iadd C dX6_chosen_94 ?_
          refine wk_iload C rfl dX6_chosen_95 ?_
          refine wk_irem C (by omega) (by omega) dX6_chosen_97 ?_
          refine wk_le ?_ (hj98 _ (by first | (rw [if_pos hc61]; done) | (rw [if_neg hc61]; done)))
          repeat (first | exact le_0 | refine le_s ?_ | refine le_n ?_)
        · skip
          refine wk_iconst C dX6_chosen_64 ?_
          refine wk_goto C 98 (by decide) dX6_chosen_65 ?_
          refine wk_le ?_ (hj98 _ (by first | (rw [if_pos hc61]; done) | (rw [if_neg hc61]; done)))
          repeat (first | exact le_0 | refine le_s ?_ | refine le_n ?_)
      · skip
        refine wk_iload C rfl dX6_chosen_31 ?_
        refine wk_aload_n C rfl dX6_chosen_33 ?_
        refine wk_iload_n C rfl dX6_chosen_34 ?_
        refine wk_iload C rfl dX6_chosen_35 ?_
        refine wk_iload C rfl dX6_chosen_37 ?_
        refine wk_ofI C (wk_runV (index := 145) (ci := 6) (st := [_]) C (c_X6_isUsable l g hI _ (ab_la S f) (ab_lb S f) j (by omega) (by omega) (by omega) S b hv hS) (cwV 3 C.2.2.2.2.1 gX6_chosen_X6_isUsable rfl rfl rfl (by decide +kernel) ⟨Nat.le_of_ble_eq_true rfl, Nat.le_of_ble_eq_true rfl⟩) rfl (show 0 < (1:Nat) by decide) rfl rfl rfl (Nat.le_of_ble_eq_true rfl) dX6_chosen_39 ⟨Nat.zero_le _, Nat.zero_le _⟩) (fun r39 σ39 hp39 => ?_)
        obtain ⟨hsg39, rfl⟩ := hp39
        rw [hsg39]
        have h1r := ab_1r ((ab_us S (ab_la S f) (ab_lb S f)) j)
        refine wk_if_eq C 49 (by omega) (by decide) dX6_chosen_42 (fun hc42 => ?_) (fun hc42 => ?_)
        · skip
          have hus : ab_us S (ab_la S f) (ab_lb S f) j = false := by
            cases hz : ab_us S (ab_la S f) (ab_lb S f) j
            · rfl
            · rw [hz, ab_1t] at hc42; omega
          have e5 : ab_cnt (ab_us S (ab_la S f) (ab_lb S f)) (j + 1) = ab_cnt (ab_us S (ab_la S f) (ab_lb S f)) j + 0 := by rw [ab_cnt, hus]; rfl
          refine wk_iconst C dX6_chosen_49 ?_
          refine wk_iadd C dX6_chosen_50 ?_
          refine wk_istore C (by decide) (Nat.le_of_ble_eq_true rfl) dX6_chosen_51 ?_
          refine wk_iinc C rfl (by decide) dX6_chosen_53 ?_
          refine wk_goto C 25 (by decide) dX6_chosen_56 ?_
          rw [← e5]
          exact ih (j + 1) (by omega) (by omega)
        · skip
          have hus : ab_us S (ab_la S f) (ab_lb S f) j = true := by
            cases hz : ab_us S (ab_la S f) (ab_lb S f) j
            · rw [hz, ab_1f] at hc42; omega
            · rfl
          have e5 : ab_cnt (ab_us S (ab_la S f) (ab_lb S f)) (j + 1) = ab_cnt (ab_us S (ab_la S f) (ab_lb S f)) j + 1 := by rw [ab_cnt, hus]; rfl
          refine wk_iconst C dX6_chosen_45 ?_
          refine wk_goto C 50 (by decide) dX6_chosen_46 ?_
          refine wk_iadd C dX6_chosen_50 ?_
          refine wk_istore C (by decide) (Nat.le_of_ble_eq_true rfl) dX6_chosen_51 ?_
          refine wk_iinc C rfl (by decide) dX6_chosen_53 ?_
          refine wk_goto C 25 (by decide) dX6_chosen_56 ?_
          rw [← e5]
          exact ih (j + 1) (by omega) (by omega)
  exact hl25 5 0 (by omega) (by omega)

theorem in_c_X6_creditsReturn_X6 : ∀ w ∈ u_ws RX6 TX6 36, w ∈ wsX6_creditsReturn := by decide +kernel
set_option maxRecDepth 100000 in
set_option maxHeartbeats 4000000 in
/-- creditsReturn -/
theorem c_X6_creditsReturn (l : Launch) (g : am_g) (hI : am_inj (gR g)) (σ : am_M) (S : ab_S) (b : Int) (hR : ab_R S σ) (hS : ab_I S b) : Met l yX6_creditsReturn wsX6_creditsReturn ({ frames := 0, cells := 0, slots := 0, locals := 0 }) (am_P (gR g) σ [.inr (20, 0)]) (am_QV (gR g) (fun σ' => ab_R (ab_back S 64) σ')) 0 0 (am_FA (gR g)) := by
  refine wk_start (cc := cX6_creditsReturn) (nL := 3) (ret := none) (own := RX6) (by decide) rfl hI rfl (Nat.le_of_ble_eq_true rfl) ?_
  intro p e s m below meth c C hr hlk
  change wk _ p l e _ s m _ below meth c 0 0 _ _ _ _ 0 [some (.inr (20, 0)), none, none] [] σ
  have hc0 := hS.2.1.2.2.2.1
  refine wk_iconst C dX6_creditsReturn_0 ?_
  refine wk_istore_n C (by decide) (Nat.le_of_ble_eq_true rfl) dX6_creditsReturn_1 ?_
  have hl2 : ∀ (d k : Nat) (σ1 : am_M), 65 ≤ k + d → k ≤ 64 → ab_R (ab_back S k) σ1 → wk (gR g) p l e (headSpec wsX6_creditsReturn ({ frames := 0, cells := 0, slots := 0, locals := 0 })).room s m ([.inr (20, 0)].map (am_tv (gR g))).toArray below meth c 0 0 (MQ below (am_QV (gR g) (fun σ' => ab_R (ab_back S 64) σ')) ([.inr (20, 0)].map (am_tv (gR g))).toArray s 0 0 (am_FA (gR g))) (am_FA (gR g)) s.heap 3 2 [some (.inr (20, 0)), some (.inl ((k : Nat) : Int)), none] [] σ1 := by
    intro d
    induction d with
    | zero => intro k σ1 h1 h2 h3; omega
    | succ d ih =>
      intro k σ1 h1 h2 h3
      refine wk_iload_n C rfl dX6_creditsReturn_2 ?_
      refine wk_bipush C (n := 64) (by decide) dX6_creditsReturn_3 ?_
      refine wk_icmp_ge C 49 (by omega) (by omega) (by decide) dX6_creditsReturn_5 (fun hc5 => ?_) (fun hc5 => ?_)
      · skip
        refine wk_vret C hr hlk dX6_creditsReturn_49 ?_
        have h4 : k = 64 := by omega
        rw [← h4]
        exact h3
      · skip
        refine wk_bipush C (n := 8) (by decide) dX6_creditsReturn_8 ?_
        refine wk_iload_n C rfl dX6_creditsReturn_10 ?_
        refine wk_imul C dX6_creditsReturn_11 ?_
        refine wk_aload_n C rfl dX6_creditsReturn_12 ?_
        refine wk_geti C (k := 20) (ci := 6) (j := 3) (T := TX6) rfl (show 0 < (1:Nat) by decide) rfl in_c_X6_creditsReturn_X6 (by decide) (by decide +kernel) rfl dX6_creditsReturn_13 ?_
        rw [h3.1.2.1, ab_back_o _ _ 19 _ (by omega)]
        refine wk_bipush C (n := 8) (by decide) dX6_creditsReturn_16 ?_
        refine wk_irem C (by omega) (by omega) dX6_creditsReturn_18 ?_
        refine wk_iadd C dX6_creditsReturn_19 ?_
        rw [show (8 : Int) * ((k : Nat) : Int) + S 19 3 % 8 = ((8 * k + (S 19 3).toNat % 8 : Nat) : Int) by omega]
        refine wk_istore_n C (by decide) (Nat.le_of_ble_eq_true rfl) dX6_creditsReturn_20 ?_
        refine wk_aload_n C rfl dX6_creditsReturn_21 ?_
        refine wk_getr C (k := 20) (ci := 6) (j := 18) (T := TX6) rfl (show 0 < (1:Nat) by decide) rfl in_c_X6_creditsReturn_X6 (by decide) (by decide +kernel) rfl dX6_creditsReturn_22 ?_
        refine wk_iload_n C rfl dX6_creditsReturn_25 ?_
        refine wk_dup2 C dX6_creditsReturn_26 ?_
        refine wk_iald C (k := 38) rfl (show 0 < (1:Nat) by decide) (Nat.le_of_ble_eq_true rfl) (k) (by omega) (show _ < (64:Nat) by omega) dX6_creditsReturn_27 ?_
        refine wk_aload_n C rfl dX6_creditsReturn_28 ?_
        refine wk_getr C (k := 20) (ci := 6) (j := 22) (T := TX6) rfl (show 0 < (1:Nat) by decide) rfl in_c_X6_creditsReturn_X6 (by decide) (by decide +kernel) rfl dX6_creditsReturn_29 ?_
        refine wk_iload_n C rfl dX6_creditsReturn_32 ?_
        refine wk_iald C (k := 42) rfl (show 0 < (1:Nat) by decide) (Nat.le_of_ble_eq_true rfl) ((8 * k + (S 19 3).toNat % 8)) (by omega) (show _ < (512:Nat) by omega) dX6_creditsReturn_33 ?_
        refine wk_iadd C dX6_creditsReturn_34 ?_
        refine wk_iast C (k := 38) rfl (show 0 < (1:Nat) by decide) (Nat.le_of_ble_eq_true rfl) (k) (by omega) (show _ < (64:Nat) by omega) dX6_creditsReturn_35 ?_
        refine wk_aload_n C rfl dX6_creditsReturn_36 ?_
        refine wk_getr C (k := 20) (ci := 6) (j := 22) (T := TX6) rfl (show 0 < (1:Nat) by decide) rfl in_c_X6_creditsReturn_X6 (by decide) (by decide +kernel) rfl dX6_creditsReturn_37 ?_
        refine wk_iload_n C rfl dX6_creditsReturn_40 ?_
        refine wk_iconst C dX6_creditsReturn_41 ?_
        refine wk_iast C (k := 42) rfl (show 0 < (1:Nat) by decide) (Nat.le_of_ble_eq_true rfl) ((8 * k + (S 19 3).toNat % 8)) (by omega) (show _ < (512:Nat) by omega) dX6_creditsReturn_42 ?_
        refine wk_iinc C rfl (by decide) dX6_creditsReturn_43 ?_
        refine wk_goto C 2 (by decide) dX6_creditsReturn_46 ?_
        refine wk_le ?_ (ih (k + 1) _ (by omega) (by omega) (R_back h3 (by omega) hc0.1 rfl))
        repeat (first | exact le_0 | refine le_s ?_ | refine le_n ?_)
  refine wk_le ?_ (hl2 65 0 σ (by omega) (by omega) (R_ext (ab_back_0 S) hR))
  repeat (first | exact le_0 | refine le_s ?_ | refine le_n ?_)

theorem in_c_X6_hostsTake_X6 : ∀ w ∈ u_ws RX6 TX6 36, w ∈ wsX6_hostsTake := by decide +kernel
set_option maxRecDepth 100000 in
set_option maxHeartbeats 4000000 in
/-- hostsTake -/
theorem c_X6_hostsTake (l : Launch) (g : am_g) (hI : am_inj (gR g)) (σ : am_M) (S : ab_S) (b : Int) (hR : ab_R S σ) (hS : ab_I S b) (hb : b + 16 ≤ 100000000) : Met l yX6_hostsTake wsX6_hostsTake ({ frames := 1, cells := 0, slots := 0, locals := 22 }) (am_P (gR g) σ [.inr (20, 0)]) (am_QI (gR g) (fun r σ' => ab_R (ab_dlvN S 16) σ' ∧ r = ab_dlvC S 16)) 0 0 (am_FA (gR g)) := by
  refine wk_start (cc := cX6_hostsTake) (nL := 5) (ret := (some .int)) (own := RX6) (by decide) rfl hI rfl (Nat.le_of_ble_eq_true rfl) ?_
  intro p e s m below meth c C hr hlk
  change wk _ p l e _ s m _ below meth c 0 0 _ _ _ _ 0 [some (.inr (20, 0)), none, none, none, none] [] σ
  refine wk_iconst C dX6_hostsTake_0 ?_
  refine wk_istore_n C (by decide) (Nat.le_of_ble_eq_true rfl) dX6_hostsTake_1 ?_
  refine wk_iconst C dX6_hostsTake_2 ?_
  refine wk_istore_n C (by decide) (Nat.le_of_ble_eq_true rfl) dX6_hostsTake_3 ?_
  have hl4 : ∀ (d k : Nat) (σ1 : am_M), 17 ≤ k + d → k ≤ 16 → ab_R (ab_dlvN S k) σ1 → wk (gR g) p l e (headSpec wsX6_hostsTake ({ frames := 1, cells := 0, slots := 0, locals := 22 })).room s m ([.inr (20, 0)].map (am_tv (gR g))).toArray below meth c 0 0 (MQ below (am_QI (gR g) (fun r σ' => ab_R (ab_dlvN S 16) σ' ∧ r = ab_dlvC S 16)) ([.inr (20, 0)].map (am_tv (gR g))).toArray s 0 0 (am_FA (gR g))) (am_FA (gR g)) s.heap 5 4 [some (.inr (20, 0)), some (.inl (ab_dlvC S k)), some (.inl ((k : Nat) : Int)), none, none] [] σ1 := by
    intro d
    induction d with
    | zero => intro k σ1 h1 h2 h3; omega
    | succ d ih =>
      intro k σ1 h1 h2 h3
      refine wk_iload_n C rfl dX6_hostsTake_4 ?_
      refine wk_bipush C (n := 16) (by decide) dX6_hostsTake_5 ?_
      refine wk_icmp_ge C 171 (by omega) (by omega) (by decide) dX6_hostsTake_7 (fun hc7 => ?_) (fun hc7 => ?_)
      · skip
        refine wk_iload_n C rfl dX6_hostsTake_171 ?_
        refine wk_iret C hr hlk dX6_hostsTake_172 ?_
        have h4 : k = 16 := by omega
        subst h4
        exact ⟨h3, rfl⟩
      · skip
        have hSk := I_dlvN hS hb k (by omega)
        have hs4 := hSk.s4 (L := 16 + k) (by omega)
        refine wk_aload_n C rfl dX6_hostsTake_10 ?_
        refine wk_getr C (k := 20) (ci := 6) (j := 19) (T := TX6) rfl (show 0 < (1:Nat) by decide) rfl in_c_X6_hostsTake_X6 (by decide) (by decide +kernel) rfl dX6_hostsTake_11 ?_
        refine wk_bipush C (n := 16) (by decide) dX6_hostsTake_14 ?_
        refine wk_iload_n C rfl dX6_hostsTake_16 ?_
        refine wk_iadd C dX6_hostsTake_17 ?_
        refine wk_iald C (k := 39) rfl (show 0 < (1:Nat) by decide) (Nat.le_of_ble_eq_true rfl) ((16 + k)) (by omega) (show _ < (64:Nat) by omega) dX6_hostsTake_18 ?_
        rw [(h3.2.2.2.1 (16 + k) (by omega)).1]
        refine wk_if_le C 165 (by omega) (by decide) dX6_hostsTake_19 (fun hc19 => ?_) (fun hc19 => ?_)
        · skip
          refine wk_iinc C rfl (by decide) dX6_hostsTake_165 ?_
          refine wk_goto C 4 (by decide) dX6_hostsTake_168 ?_
          refine wk_le ?_ (ih (k + 1) _ (by omega) (by omega) ?_)
          · rw [ab_dlvC]
            first
              | (rw [if_pos hpos]; repeat (first | exact le_0 | refine le_s ?_ | refine le_n ?_))
              | (rw [if_neg (by omega), Int.add_zero]; repeat (first | exact le_0 | refine le_s ?_ | refine le_n ?_))
          · rw [ab_dlvN, ab_dlv]
            first
              | (rw [if_pos hpos]; exact hC4)
              | (rw [if_neg (by omega)]; exact h3)
        · skip
          have hpos : 0 < ab_dlvN S k 14 (16 + k) := hc19
          obtain ⟨eH, e1, e2, e3, e4, e5, e6, e7, e8⟩ := ab_hd hSk (q := 16 + k) (by omega) hpos
          obtain ⟨h43, h44, h46, h45⟩ := R_hd h3 (q := 16 + k) (by omega) hpos
          have hn24 := hSk.2.1.2.2.2.2
          have hc5 := hSk.2.1.2.2.2.1
          have hcf : ∀ j, j < 13 → σ1 (25 + j) 0 (ab_fl (ab_dlvN S k) (16 + k)) = ab_dlvN S k j (ab_fl (ab_dlvN S k) (16 + k)) := fun j hj => h3.2.1 _ j e1 hj
          have q2 : σ1 27 0 (ab_fl (ab_dlvN S k) (16 + k)) = ab_dlvN S k 2 (ab_fl (ab_dlvN S k) (16 + k)) := hcf 2 (by omega)
          have q5 : σ1 30 0 (ab_fl (ab_dlvN S k) (16 + k)) = ab_dlvN S k 5 (ab_fl (ab_dlvN S k) (16 + k)) := hcf 5 (by omega)
          have q7 : σ1 32 0 (ab_fl (ab_dlvN S k) (16 + k)) = ab_dlvN S k 7 (ab_fl (ab_dlvN S k) (16 + k)) := hcf 7 (by omega)
          have q8 : σ1 33 0 (ab_fl (ab_dlvN S k) (16 + k)) = ab_dlvN S k 8 (ab_fl (ab_dlvN S k) (16 + k)) := hcf 8 (by omega)
          have q9 : σ1 34 0 (ab_fl (ab_dlvN S k) (16 + k)) = ab_dlvN S k 9 (ab_fl (ab_dlvN S k) (16 + k)) := hcf 9 (by omega)
          have e2b := e2
          unfold ab_If at e2b
          obtain ⟨i0, i1, i2, i3, i4, i5, i6, i7, i8, i9, i10, i11, i12, i13, i14⟩ := e2b
          have hb1 := hSk.1
          refine wk_aload_n C rfl dX6_hostsTake_22 ?_
          refine wk_getr C (k := 20) (ci := 6) (j := 23) (T := TX6) rfl (show 0 < (1:Nat) by decide) rfl in_c_X6_hostsTake_X6 (by decide) (by decide +kernel) rfl dX6_hostsTake_23 ?_
          refine wk_iconst C dX6_hostsTake_26 ?_
          refine wk_bipush C (n := 16) (by decide) dX6_hostsTake_27 ?_
          refine wk_iload_n C rfl dX6_hostsTake_29 ?_
          refine wk_iadd C dX6_hostsTake_30 ?_
          refine wk_imul C dX6_hostsTake_31 ?_
          refine wk_iald C (k := 43) rfl (show 0 < (1:Nat) by decide) (Nat.le_of_ble_eq_true rfl) ((4 * (16 + k))) (by omega) (show _ < (256:Nat) by omega) dX6_hostsTake_32 ?_
          rw [h43, ← eH]
          refine wk_istore_n C (by decide) (Nat.le_of_ble_eq_true rfl) dX6_hostsTake_33 ?_
          refine wk_aload_n C rfl dX6_hostsTake_34 ?_
          refine wk_getr C (k := 20) (ci := 6) (j := 24) (T := TX6) rfl (show 0 < (1:Nat) by decide) rfl in_c_X6_hostsTake_X6 (by decide) (by decide +kernel) rfl dX6_hostsTake_35 ?_
          refine wk_iconst C dX6_hostsTake_38 ?_
          refine wk_bipush C (n := 16) (by decide) dX6_hostsTake_39 ?_
          refine wk_iload_n C rfl dX6_hostsTake_41 ?_
          refine wk_iadd C dX6_hostsTake_42 ?_
          refine wk_imul C dX6_hostsTake_43 ?_
          refine wk_iald C (k := 44) rfl (show 0 < (1:Nat) by decide) (Nat.le_of_ble_eq_true rfl) ((4 * (16 + k))) (by omega) (show _ < (256:Nat) by omega) dX6_hostsTake_44 ?_
          rw [h44]
          refine wk_istore C (by decide) (Nat.le_of_ble_eq_true rfl) dX6_hostsTake_45 ?_
          have hj70 : ∀ v : Int, v = (if (ab_dlvN S k 21 (4 * (16 + k))) < ab_dlvN S k 8 (ab_fl (ab_dlvN S k) (16 + k)) then 1 else 0) → wk (gR g) p l e (headSpec wsX6_hostsTake ({ frames := 1, cells := 0, slots := 0, locals := 22 })).room s m ([.inr (20, 0)].map (am_tv (gR g))).toArray below meth c 0 0 (MQ below (am_QI (gR g) (fun r σ' => ab_R (ab_dlvN S 16) σ' ∧ r = ab_dlvC S 16)) ([.inr (20, 0)].map (am_tv (gR g))).toArray s 0 0 (am_FA (gR g))) (am_FA (gR g)) s.heap 5 70 [some (.inr (20, 0)), some (.inl (ab_dlvC S k)), some (.inl ((k : Nat) : Int)), some (.inl (((ab_fl (ab_dlvN S k) (16 + k)) : Nat) : Int)), some (.inl (ab_dlvN S k 21 (4 * (16 + k))))] [.inl (v), .inl (ab_dlvN S k 7 (ab_fl (ab_dlvN S k) (16 + k))), .inl (((ab_fl (ab_dlvN S k) (16 + k)) : Nat) : Int), .inr (32, 0)] σ1 := by
            intro v hv
            subst hv
            refine wk_iadd C dX6_hostsTake_70 ?_
            refine wk_iast C (k := 32) rfl (show 0 < (1:Nat) by decide) (Nat.le_of_ble_eq_true rfl) ((ab_fl (ab_dlvN S k) (16 + k))) (by omega) (show _ < (24:Nat) by omega) dX6_hostsTake_71 ?_
            have hj99 : ∀ w : Int, w = (if (ab_dlvN S k 21 (4 * (16 + k))) < ab_dlvN S k 8 (ab_fl (ab_dlvN S k) (16 + k)) then ab_dlvN S k 8 (ab_fl (ab_dlvN S k) (16 + k)) else (ab_dlvN S k 21 (4 * (16 + k)))) → wk (gR g) p l e (headSpec wsX6_hostsTake ({ frames := 1, cells := 0, slots := 0, locals := 22 })).room s m ([.inr (20, 0)].map (am_tv (gR g))).toArray below meth c 0 0 (MQ below (am_QI (gR g) (fun r σ' => ab_R (ab_dlvN S 16) σ' ∧ r = ab_dlvC S 16)) ([.inr (20, 0)].map (am_tv (gR g))).toArray s 0 0 (am_FA (gR g))) (am_FA (gR g)) s.heap 5 99 [some (.inr (20, 0)), some (.inl (ab_dlvC S k)), some (.inl ((k : Nat) : Int)), some (.inl (((ab_fl (ab_dlvN S k) (16 + k)) : Nat) : Int)), some (.inl (ab_dlvN S k 21 (4 * (16 + k))))] [.inl (w), .inl (((ab_fl (ab_dlvN S k) (16 + k)) : Nat) : Int), .inr (33, 0)] (am_up σ1 32 0 (ab_fl (ab_dlvN S k) (16 + k)) ((ab_dlvN S k) 7 (ab_fl (ab_dlvN S k) (16 + k)) + if (ab_dlvN S k 21 (4 * (16 + k))) < (ab_dlvN S k) 8 (ab_fl (ab_dlvN S k) (16 + k)) then 1 else 0)) := by
              intro w hw
              subst hw
              refine wk_iast C (k := 33) rfl (show 0 < (1:Nat) by decide) (Nat.le_of_ble_eq_true rfl) ((ab_fl (ab_dlvN S k) (16 + k))) (by omega) (show _ < (24:Nat) by omega) dX6_hostsTake_99 ?_
              refine wk_aload_n C rfl dX6_hostsTake_100 ?_
              refine wk_getr C (k := 20) (ci := 6) (j := 10) (T := TX6) rfl (show 0 < (1:Nat) by decide) rfl in_c_X6_hostsTake_X6 (by decide) (by decide +kernel) rfl dX6_hostsTake_101 ?_
              refine wk_iload_n C rfl dX6_hostsTake_104 ?_
              refine wk_dup2 C dX6_hostsTake_105 ?_
              refine wk_iald C (k := 30) rfl (show 0 < (1:Nat) by decide) (Nat.le_of_ble_eq_true rfl) ((ab_fl (ab_dlvN S k) (16 + k))) (by omega) (show _ < (24:Nat) by omega) dX6_hostsTake_106 ?_
              rw [am_up_app, if_neg (by omega), am_up_app, if_neg (by omega), q5]
              refine wk_iconst C dX6_hostsTake_107 ?_
              refine wk_iadd C dX6_hostsTake_108 ?_
              refine wk_iast C (k := 30) rfl (show 0 < (1:Nat) by decide) (Nat.le_of_ble_eq_true rfl) ((ab_fl (ab_dlvN S k) (16 + k))) (by omega) (show _ < (24:Nat) by omega) dX6_hostsTake_109 ?_
              have hj143 : ∀ w2 : Int, w2 = (if ab_dlvN S k 5 (ab_fl (ab_dlvN S k) (16 + k)) + 1 = ab_dlvN S k 2 (ab_fl (ab_dlvN S k) (16 + k)) then ab_dlvN S k 19 3 else ab_dlvN S k 9 (ab_fl (ab_dlvN S k) (16 + k))) → wk (gR g) p l e (headSpec wsX6_hostsTake ({ frames := 1, cells := 0, slots := 0, locals := 22 })).room s m ([.inr (20, 0)].map (am_tv (gR g))).toArray below meth c 0 0 (MQ below (am_QI (gR g) (fun r σ' => ab_R (ab_dlvN S 16) σ' ∧ r = ab_dlvC S 16)) ([.inr (20, 0)].map (am_tv (gR g))).toArray s 0 0 (am_FA (gR g))) (am_FA (gR g)) s.heap 5 143 [some (.inr (20, 0)), some (.inl (ab_dlvC S k)), some (.inl ((k : Nat) : Int)), some (.inl (((ab_fl (ab_dlvN S k) (16 + k)) : Nat) : Int)), some (.inl (ab_dlvN S k 21 (4 * (16 + k))))] [.inl (w2), .inl (((ab_fl (ab_dlvN S k) (16 + k)) : Nat) : Int), .inr (34, 0)] (am_up (am_up (am_up σ1 32 0 (ab_fl (ab_dlvN S k) (16 + k)) ((ab_dlvN S k) 7 (ab_fl (ab_dlvN S k) (16 + k)) + if (ab_dlvN S k 21 (4 * (16 + k))) < (ab_dlvN S k) 8 (ab_fl (ab_dlvN S k) (16 + k)) then 1 else 0)) 33 0 (ab_fl (ab_dlvN S k) (16 + k)) (if (ab_dlvN S k 21 (4 * (16 + k))) < (ab_dlvN S k) 8 (ab_fl (ab_dlvN S k) (16 + k)) then (ab_dlvN S k) 8 (ab_fl (ab_dlvN S k) (16 + k)) else (ab_dlvN S k 21 (4 * (16 + k))))) 30 0 (ab_fl (ab_dlvN S k) (16 + k)) ((ab_dlvN S k) 5 (ab_fl (ab_dlvN S k) (16 + k)) + 1)) := by
                intro w2 hw2
                subst hw2
                refine wk_iast C (k := 34) rfl (show 0 < (1:Nat) by decide) (Nat.le_of_ble_eq_true rfl) ((ab_fl (ab_dlvN S k) (16 + k))) (by omega) (show _ < (24:Nat) by omega) dX6_hostsTake_143 ?_
                have hC2 := R_got h3 (ab_fl (ab_dlvN S k) (16 + k)) (ab_dlvN S k 21 (4 * (16 + k)))
                have hC3 := R_u hC2 (g := 16) (k := 50) (i := k) (by unfold rk_p; omega) (ab_dlvN S k 16 k - 1)
                have hS3 := I_got hSk (h' := k) (f := (ab_fl (ab_dlvN S k) (16 + k))) (x := (ab_dlvN S k 21 (4 * (16 + k)))) (by omega) (by omega) e3
                have hT3 : ab_T (ab_u (ab_got (ab_dlvN S k) (ab_fl (ab_dlvN S k) (16 + k)) (ab_dlvN S k 21 (4 * (16 + k)))) 16 k (ab_dlvN S k 16 k - 1)) = ab_T (ab_dlvN S k) := ab_T_cg (fun i => by rw [ab_u_app, if_neg (by omega), ab_got_o _ _ _ _ _ (by omega)])
                have hp3 : 0 < ab_u (ab_got (ab_dlvN S k) (ab_fl (ab_dlvN S k) (16 + k)) (ab_dlvN S k 21 (4 * (16 + k)))) 16 k (ab_dlvN S k 16 k - 1) 14 (16 + k) := by rw [ab_u_app, if_neg (by omega), ab_got_o _ _ _ _ _ (by omega)]; exact hpos
                refine wk_aload_n C rfl dX6_hostsTake_144 ?_
                refine wk_getr C (k := 20) (ci := 6) (j := 30) (T := TX6) rfl (show 0 < (1:Nat) by decide) rfl in_c_X6_hostsTake_X6 (by decide) (by decide +kernel) rfl dX6_hostsTake_145 ?_
                refine wk_iload_n C rfl dX6_hostsTake_148 ?_
                refine wk_dup2 C dX6_hostsTake_149 ?_
                refine wk_iald C (k := 50) rfl (show 0 < (1:Nat) by decide) (Nat.le_of_ble_eq_true rfl) (k) (by omega) (show _ < (16:Nat) by omega) dX6_hostsTake_150 ?_
                rw [(hC2.2.2.1 k (by omega)).1, ab_got_o _ _ _ _ _ (by omega)]
                refine wk_iconst C dX6_hostsTake_151 ?_
                refine wk_isub C dX6_hostsTake_152 ?_
                refine wk_iast C (k := 50) rfl (show 0 < (1:Nat) by decide) (Nat.le_of_ble_eq_true rfl) (k) (by omega) (show _ < (16:Nat) by omega) dX6_hostsTake_153 ?_
                refine wk_aload_n C rfl dX6_hostsTake_154 ?_
                refine wk_bipush C (n := 16) (by decide) dX6_hostsTake_155 ?_
                refine wk_iload_n C rfl dX6_hostsTake_157 ?_
                refine wk_iadd C dX6_hostsTake_158 ?_
                refine wk_ofV C (wk_runV (index := 152) (ci := 6) (st := []) C (c_X6_leavesT l g hI _ (16 + k) _ _ hC3 hS3 (by omega) hp3) (cwV 1 C.2.2.2.2.1 gX6_hostsTake_X6_leaves rfl rfl rfl (by decide +kernel) ⟨Nat.le_of_ble_eq_true rfl, Nat.le_of_ble_eq_true rfl⟩) rfl (show 0 < (1:Nat) by decide) rfl rfl rfl (Nat.le_of_ble_eq_true rfl) dX6_hostsTake_159 ⟨Nat.zero_le _, Nat.zero_le _⟩) (fun σ159 hp159 => ?_)
                subst hp159
                have hC4 := R_drop hC3 (q := 16 + k) (by omega) hp3 (fun L hL => (hS3.s4 hL).2.1) hS3.2.1.2.2.2.1.1 hS3.2.1.1 rfl
                refine wk_iinc C rfl (by decide) dX6_hostsTake_162 ?_
                refine wk_iinc C rfl (by decide) dX6_hostsTake_165 ?_
                refine wk_goto C 4 (by decide) dX6_hostsTake_168 ?_
                refine wk_le ?_ (ih (k + 1) _ (by omega) (by omega) ?_)
                · rw [ab_dlvC]
                  first
                    | (rw [if_pos hpos]; repeat (first | exact le_0 | refine le_s ?_ | refine le_n ?_))
                    | (rw [if_neg (by omega), Int.add_zero]; repeat (first | exact le_0 | refine le_s ?_ | refine le_n ?_))
                · rw [ab_dlvN, ab_dlv]
                  first
                    | (rw [if_pos hpos]; exact hC4)
                    | (rw [if_neg (by omega)]; exact h3)
              refine wk_aload_n C rfl dX6_hostsTake_110 ?_
              refine wk_getr C (k := 20) (ci := 6) (j := 14) (T := TX6) rfl (show 0 < (1:Nat) by decide) rfl in_c_X6_hostsTake_X6 (by decide) (by decide +kernel) rfl dX6_hostsTake_111 ?_
              refine wk_iload_n C rfl dX6_hostsTake_114 ?_
              refine wk_aload_n C rfl dX6_hostsTake_115 ?_
              refine wk_getr C (k := 20) (ci := 6) (j := 10) (T := TX6) rfl (show 0 < (1:Nat) by decide) rfl in_c_X6_hostsTake_X6 (by decide) (by decide +kernel) rfl dX6_hostsTake_116 ?_
              refine wk_iload_n C rfl dX6_hostsTake_119 ?_
              refine wk_iald C (k := 30) rfl (show 0 < (1:Nat) by decide) (Nat.le_of_ble_eq_true rfl) ((ab_fl (ab_dlvN S k) (16 + k))) (by omega) (show _ < (24:Nat) by omega) dX6_hostsTake_120 ?_
              rw [am_up_app, if_pos ⟨rfl, rfl, rfl⟩]
              refine wk_aload_n C rfl dX6_hostsTake_121 ?_
              refine wk_getr C (k := 20) (ci := 6) (j := 7) (T := TX6) rfl (show 0 < (1:Nat) by decide) rfl in_c_X6_hostsTake_X6 (by decide) (by decide +kernel) rfl dX6_hostsTake_122 ?_
              refine wk_iload_n C rfl dX6_hostsTake_125 ?_
              refine wk_iald C (k := 27) rfl (show 0 < (1:Nat) by decide) (Nat.le_of_ble_eq_true rfl) ((ab_fl (ab_dlvN S k) (16 + k))) (by omega) (show _ < (24:Nat) by omega) dX6_hostsTake_126 ?_
              rw [am_up_app, if_neg (by omega), am_up_app, if_neg (by omega), am_up_app, if_neg (by omega), q2]
              refine wk_icmp_ne C 137 (by omega) (by omega) (by decide) dX6_hostsTake_127 (fun hc127 => ?_) (fun hc127 => ?_)
              · skip
                refine wk_aload_n C rfl dX6_hostsTake_137 ?_
                refine wk_getr C (k := 20) (ci := 6) (j := 14) (T := TX6) rfl (show 0 < (1:Nat) by decide) rfl in_c_X6_hostsTake_X6 (by decide) (by decide +kernel) rfl dX6_hostsTake_138 ?_
                refine wk_iload_n C rfl dX6_hostsTake_141 ?_
                refine wk_iald C (k := 34) rfl (show 0 < (1:Nat) by decide) (Nat.le_of_ble_eq_true rfl) ((ab_fl (ab_dlvN S k) (16 + k))) (by omega) (show _ < (24:Nat) by omega) dX6_hostsTake_142 ?_
                rw [am_up_app, if_neg (by omega), am_up_app, if_neg (by omega), am_up_app, if_neg (by omega), q9]
                exact hj143 _ (by first | (rw [if_pos hc127]; done) | (rw [if_neg hc127]; done))
              · skip
                refine wk_aload_n C rfl dX6_hostsTake_130 ?_
                refine wk_geti C (k := 20) (ci := 6) (j := 3) (T := TX6) rfl (show 0 < (1:Nat) by decide) rfl in_c_X6_hostsTake_X6 (by decide) (by decide +kernel) rfl dX6_hostsTake_131 ?_
                rw [am_up_app, if_neg (by omega), am_up_app, if_neg (by omega), am_up_app, if_neg (by omega), h3.1.2.1]
                refine wk_goto C 143 (by decide) dX6_hostsTake_134 ?_
                exact hj143 _ (by first | (rw [if_pos hc127]; done) | (rw [if_neg hc127]; done))
            refine wk_aload_n C rfl dX6_hostsTake_72 ?_
            refine wk_getr C (k := 20) (ci := 6) (j := 13) (T := TX6) rfl (show 0 < (1:Nat) by decide) rfl in_c_X6_hostsTake_X6 (by decide) (by decide +kernel) rfl dX6_hostsTake_73 ?_
            refine wk_iload_n C rfl dX6_hostsTake_76 ?_
            refine wk_iload C rfl dX6_hostsTake_77 ?_
            refine wk_aload_n C rfl dX6_hostsTake_79 ?_
            refine wk_getr C (k := 20) (ci := 6) (j := 13) (T := TX6) rfl (show 0 < (1:Nat) by decide) rfl in_c_X6_hostsTake_X6 (by decide) (by decide +kernel) rfl dX6_hostsTake_80 ?_
            refine wk_iload_n C rfl dX6_hostsTake_83 ?_
            refine wk_iald C (k := 33) rfl (show 0 < (1:Nat) by decide) (Nat.le_of_ble_eq_true rfl) ((ab_fl (ab_dlvN S k) (16 + k))) (by omega) (show _ < (24:Nat) by omega) dX6_hostsTake_84 ?_
            rw [am_up_app, if_neg (by omega), q8]
            refine wk_icmp_le C 93 (by omega) (by omega) (by decide) dX6_hostsTake_85 (fun hc85 => ?_) (fun hc85 => ?_)
            · skip
              refine wk_aload_n C rfl dX6_hostsTake_93 ?_
              refine wk_getr C (k := 20) (ci := 6) (j := 13) (T := TX6) rfl (show 0 < (1:Nat) by decide) rfl in_c_X6_hostsTake_X6 (by decide) (by decide +kernel) rfl dX6_hostsTake_94 ?_
              refine wk_iload_n C rfl dX6_hostsTake_97 ?_
              refine wk_iald C (k := 33) rfl (show 0 < (1:Nat) by decide) (Nat.le_of_ble_eq_true rfl) ((ab_fl (ab_dlvN S k) (16 + k))) (by omega) (show _ < (24:Nat) by omega) dX6_hostsTake_98 ?_
              rw [am_up_app, if_neg (by omega), q8]
              exact hj99 _ (by split <;> omega)
            · skip
              refine wk_iload C rfl dX6_hostsTake_88 ?_
              refine wk_goto C 99 (by decide) dX6_hostsTake_90 ?_
              exact hj99 _ (by split <;> omega)
          refine wk_aload_n C rfl dX6_hostsTake_47 ?_
          refine wk_getr C (k := 20) (ci := 6) (j := 12) (T := TX6) rfl (show 0 < (1:Nat) by decide) rfl in_c_X6_hostsTake_X6 (by decide) (by decide +kernel) rfl dX6_hostsTake_48 ?_
          refine wk_iload_n C rfl dX6_hostsTake_51 ?_
          refine wk_dup2 C dX6_hostsTake_52 ?_
          refine wk_iald C (k := 32) rfl (show 0 < (1:Nat) by decide) (Nat.le_of_ble_eq_true rfl) ((ab_fl (ab_dlvN S k) (16 + k))) (by omega) (show _ < (24:Nat) by omega) dX6_hostsTake_53 ?_
          rw [q7]
          refine wk_iload C rfl dX6_hostsTake_54 ?_
          refine wk_aload_n C rfl dX6_hostsTake_56 ?_
          refine wk_getr C (k := 20) (ci := 6) (j := 13) (T := TX6) rfl (show 0 < (1:Nat) by decide) rfl in_c_X6_hostsTake_X6 (by decide) (by decide +kernel) rfl dX6_hostsTake_57 ?_
          refine wk_iload_n C rfl dX6_hostsTake_60 ?_
          refine wk_iald C (k := 33) rfl (show 0 < (1:Nat) by decide) (Nat.le_of_ble_eq_true rfl) ((ab_fl (ab_dlvN S k) (16 + k))) (by omega) (show _ < (24:Nat) by omega) dX6_hostsTake_61 ?_
          rw [q8]
          refine wk_icmp_ge C 69 (by omega) (by omega) (by decide) dX6_hostsTake_62 (fun hc62 => ?_) (fun hc62 => ?_)
          · skip
            refine wk_iconst C dX6_hostsTake_69 ?_
            exact hj70 _ (by first | (rw [if_pos hc62]; done) | (rw [if_neg (by omega)]; done))
          · skip
            refine wk_iconst C dX6_hostsTake_65 ?_
            refine wk_goto C 70 (by decide) dX6_hostsTake_66 ?_
            exact hj70 _ (by first | (rw [if_pos hc62]; done) | (rw [if_neg (by omega)]; done))
  exact hl4 17 0 σ (by omega) (by omega) hR

theorem in_c_X6_spinesLose_X6 : ∀ w ∈ u_ws RX6 TX6 36, w ∈ wsX6_spinesLose := by decide +kernel
set_option maxRecDepth 100000 in
set_option maxHeartbeats 4000000 in
/-- spinesLose -/
theorem c_X6_spinesLose (l : Launch) (g : am_g) (hI : am_inj (gR g)) (σ : am_M) (S : ab_S) (b : Int) (hR : ab_R S σ) (hS : ab_I S b) (hb : b + 16 ≤ 100000000) : Met l yX6_spinesLose wsX6_spinesLose ({ frames := 2, cells := 0, slots := 0, locals := 46 }) (am_P (gR g) σ [.inr (20, 0)]) (am_QV (gR g) (fun σ' => ab_R (ab_loseN S 16) σ')) 0 0 (am_FA (gR g)) := by
  refine wk_start (cc := cX6_spinesLose) (nL := 6) (ret := none) (own := RX6) (by decide) rfl hI rfl (Nat.le_of_ble_eq_true rfl) ?_
  intro p e s m below meth c C hr hlk
  change wk _ p l e _ s m _ below meth c 0 0 _ _ _ _ 0 [some (.inr (20, 0)), none, none, none, none, none] [] σ
  refine wk_iconst C dX6_spinesLose_0 ?_
  refine wk_istore_n C (by decide) (Nat.le_of_ble_eq_true rfl) dX6_spinesLose_1 ?_
  have hl2 : ∀ (d sp : Nat) (σ1 : am_M), 5 ≤ sp + d → sp ≤ 4 → ab_R (ab_loseN S (4 * sp)) σ1 → wk (gR g) p l e (headSpec wsX6_spinesLose ({ frames := 2, cells := 0, slots := 0, locals := 46 })).room s m ([.inr (20, 0)].map (am_tv (gR g))).toArray below meth c 0 0 (MQ below (am_QV (gR g) (fun σ' => ab_R (ab_loseN S 16) σ')) ([.inr (20, 0)].map (am_tv (gR g))).toArray s 0 0 (am_FA (gR g))) (am_FA (gR g)) s.heap 6 2 [some (.inr (20, 0)), some (.inl ((sp : Nat) : Int)), none, none, none, none] [] σ1 := by
    intro d
    induction d with
    | zero => intro sp σ1 h1 h2 h3; omega
    | succ d ih =>
      intro sp σ1 h1 h2 h3
      refine wk_iload_n C rfl dX6_spinesLose_2 ?_
      refine wk_iconst C dX6_spinesLose_3 ?_
      refine wk_icmp_ge C 96 (by omega) (by omega) (by decide) dX6_spinesLose_4 (fun hc4 => ?_) (fun hc4 => ?_)
      · skip
        refine wk_vret C hr hlk dX6_spinesLose_96 ?_
        have h4 : sp = 4 := by omega
        subst h4
        exact h3
      · skip
        refine wk_iconst C dX6_spinesLose_7 ?_
        refine wk_istore_n C (by decide) (Nat.le_of_ble_eq_true rfl) dX6_spinesLose_8 ?_
        have hl9 : ∀ (d2 lf : Nat) (σ2 : am_M), 5 ≤ lf + d2 → lf ≤ 4 → ab_R (ab_loseN S (4 * sp + lf)) σ2 → wk (gR g) p l e (headSpec wsX6_spinesLose ({ frames := 2, cells := 0, slots := 0, locals := 46 })).room s m ([.inr (20, 0)].map (am_tv (gR g))).toArray below meth c 0 0 (MQ below (am_QV (gR g) (fun σ' => ab_R (ab_loseN S 16) σ')) ([.inr (20, 0)].map (am_tv (gR g))).toArray s 0 0 (am_FA (gR g))) (am_FA (gR g)) s.heap 6 9 [some (.inr (20, 0)), some (.inl ((sp : Nat) : Int)), some (.inl ((lf : Nat) : Int)), none, none, none] [] σ2 := by
          intro d2
          induction d2 with
          | zero => intro lf σ2 g1 g2 g3; omega
          | succ d2 ih2 =>
            intro lf σ2 g1 g2 g3
            refine wk_iload_n C rfl dX6_spinesLose_9 ?_
            refine wk_iconst C dX6_spinesLose_10 ?_
            refine wk_icmp_ge C 90 (by omega) (by omega) (by decide) dX6_spinesLose_11 (fun hc11 => ?_) (fun hc11 => ?_)
            · skip
              refine wk_iinc C rfl (by decide) dX6_spinesLose_90 ?_
              refine wk_goto C 2 (by decide) dX6_spinesLose_93 ?_
              have h44 : lf = 4 := by omega
              subst h44
              refine wk_le ?_ (ih (sp + 1) _ (by omega) (by omega) (by rw [show 4 * (sp + 1) = 4 * sp + 4 by omega]; exact g3))
              repeat (first | exact le_0 | refine le_s ?_ | refine le_n ?_)
            · skip
              have hIk := I_loseN hS hb (4 * sp + lf) (by omega)
              have hst : ab_loseN S (4 * sp + (lf + 1)) = ab_lose (ab_loseN S (4 * sp + lf)) sp lf := by rw [show 4 * sp + (lf + 1) = (4 * sp + lf) + 1 by omega, ab_loseN, show (4 * sp + lf) / 4 = sp by omega, show (4 * sp + lf) % 4 = lf by omega]
              have hwz := ab_w_spine hIk (sp := sp) (j := lf) (by omega) (by omega)
              refine wk_iload_n C rfl dX6_spinesLose_14 ?_
              refine wk_iload_n C rfl dX6_spinesLose_15 ?_
              refine wk_ofI C (wk_runS (index := 138) (st := []) C (c_X6_north l g hI _ lf sp (by omega) (by omega)) (cwS 2 C.2.2.2.2.1 gX6_spinesLose_X6_north rfl rfl rfl (by decide +kernel) ⟨Nat.le_of_ble_eq_true rfl, Nat.le_of_ble_eq_true rfl⟩) rfl rfl (Nat.le_of_ble_eq_true rfl) dX6_spinesLose_16 ⟨Nat.zero_le _, Nat.zero_le _⟩) (fun r16 σ16 hp16 => ?_)
              obtain ⟨hsg16, rfl⟩ := hp16
              rw [hsg16]
              refine wk_istore_n C (by decide) (Nat.le_of_ble_eq_true rfl) dX6_spinesLose_19 ?_
              refine wk_aload_n C rfl dX6_spinesLose_20 ?_
              refine wk_iload_n C rfl dX6_spinesLose_21 ?_
              refine wk_ofI C (wk_runV (index := 156) (ci := 6) (st := []) C (c_X6_wanted l g hI _ (32 + 4 * lf + sp) (by omega) (ab_loseN S (4 * sp + lf)) _ (Rv_of g3) hIk (Rq_of g3)) (cwV 1 C.2.2.2.2.1 gX6_spinesLose_X6_wanted rfl rfl rfl (by decide +kernel) ⟨Nat.le_of_ble_eq_true rfl, Nat.le_of_ble_eq_true rfl⟩) rfl (show 0 < (1:Nat) by decide) rfl rfl rfl (Nat.le_of_ble_eq_true rfl) dX6_spinesLose_22 ⟨Nat.zero_le _, Nat.zero_le _⟩) (fun r22 σ22 hp22 => ?_)
              obtain ⟨hsg22, rfl⟩ := hp22
              rw [hsg22]
              refine wk_istore C (by decide) (Nat.le_of_ble_eq_true rfl) dX6_spinesLose_25 ?_
              have hwr : -1 ≤ ab_w (ab_loseN S (4 * sp + lf)) (32 + 4 * lf + sp) ∧ ab_w (ab_loseN S (4 * sp + lf)) (32 + 4 * lf + sp) < 64 := by omega
              refine wk_iload C rfl dX6_spinesLose_27 ?_
              refine wk_iconst C dX6_spinesLose_29 ?_
              refine wk_icmp_eq C 84 (by omega) (by omega) (by decide) dX6_spinesLose_30 (fun hc30 => ?_) (fun hc30 => ?_)
              · skip
                have hfin : ab_R (ab_loseN S (4 * sp + (lf + 1))) σ2 := by rw [hst, ab_lose, if_neg (fun z => by have := z.1; omega)]; exact g3
                refine wk_iinc C rfl (by decide) dX6_spinesLose_84 ?_
                refine wk_goto C 9 (by decide) dX6_spinesLose_87 ?_
                refine wk_le ?_ (ih2 (lf + 1) _ (by omega) (by omega) hfin)
                repeat (first | exact le_0 | refine le_s ?_ | refine le_n ?_)
              · skip
                have hpos : 0 < ab_loseN S (4 * sp + lf) 14 (32 + 4 * lf + sp) := by omega
                obtain ⟨eH, e1, e2, e3, e4, e5, e6, e7, e8⟩ := ab_hd hIk (q := (32 + 4 * lf + sp)) (by omega) hpos
                obtain ⟨h43, h44, h46, h45⟩ := R_hd g3 (q := (32 + 4 * lf + sp)) (by omega) hpos
                obtain ⟨f1, f2, f3, f4⟩ := ab_lbv e2
                have hn24 := hIk.2.1.2.2.2.2
                have i1 := e2.2.1
                rw [show ab_w (ab_loseN S (4 * sp + lf)) (32 + 4 * lf + sp) = ((48 + 4 * sp + (ab_lb (ab_loseN S (4 * sp + lf)) (ab_fl (ab_loseN S (4 * sp + lf)) (32 + 4 * lf + sp))) : Nat) : Int) by omega]
                refine wk_aload_n C rfl dX6_spinesLose_33 ?_
                refine wk_iload C rfl dX6_spinesLose_34 ?_
                refine wk_ofI C (wk_runV (index := 159) (ci := 6) (st := []) C (c_X6_isShut l g hI _ (48 + 4 * sp + (ab_lb (ab_loseN S (4 * sp + lf)) (ab_fl (ab_loseN S (4 * sp + lf)) (32 + 4 * lf + sp)))) (by omega) (ab_loseN S (4 * sp + lf)) _ (Rv_of g3) hIk) (cwV 1 C.2.2.2.2.1 gX6_spinesLose_X6_isShut rfl rfl rfl (by decide +kernel) ⟨Nat.le_of_ble_eq_true rfl, Nat.le_of_ble_eq_true rfl⟩) rfl (show 0 < (1:Nat) by decide) rfl rfl rfl (Nat.le_of_ble_eq_true rfl) dX6_spinesLose_36 ⟨Nat.zero_le _, Nat.zero_le _⟩) (fun r36 σ36 hp36 => ?_)
                obtain ⟨hsg36, rfl⟩ := hp36
                rw [hsg36]
                have hsh : ab_shut (ab_loseN S (4 * sp + lf)) (48 + 4 * sp + (ab_lb (ab_loseN S (4 * sp + lf)) (ab_fl (ab_loseN S (4 * sp + lf)) (32 + 4 * lf + sp)))) = decide (¬ ab_loseN S (4 * sp + lf) 18 (4 * (ab_lb (ab_loseN S (4 * sp + lf)) (ab_fl (ab_loseN S (4 * sp + lf)) (32 + 4 * lf + sp))) + sp) = 0) := by
                  unfold ab_shut
                  rw [if_pos (by omega), show (48 + 4 * sp + (ab_lb (ab_loseN S (4 * sp + lf)) (ab_fl (ab_loseN S (4 * sp + lf)) (32 + 4 * lf + sp))) - 48) % 4 = (ab_lb (ab_loseN S (4 * sp + lf)) (ab_fl (ab_loseN S (4 * sp + lf)) (32 + 4 * lf + sp))) by omega, show (48 + 4 * sp + (ab_lb (ab_loseN S (4 * sp + lf)) (ab_fl (ab_loseN S (4 * sp + lf)) (32 + 4 * lf + sp))) - 48) / 4 = sp by omega]
                rw [hsh]
                have h1r := ab_1r (decide (¬ ab_loseN S (4 * sp + lf) 18 (4 * (ab_lb (ab_loseN S (4 * sp + lf)) (ab_fl (ab_loseN S (4 * sp + lf)) (32 + 4 * lf + sp))) + sp) = 0))
                refine wk_if_eq C 84 (by omega) (by decide) dX6_spinesLose_39 (fun hc39 => ?_) (fun hc39 => ?_)
                · skip
                  have hfin : ab_R (ab_loseN S (4 * sp + (lf + 1))) σ2 := by
                    rw [hst, ab_lose, if_neg]
                    · exact g3
                    · rintro ⟨-, z⟩
                      rw [decide_eq_true z, ab_1t] at hc39; omega
                  refine wk_iinc C rfl (by decide) dX6_spinesLose_84 ?_
                  refine wk_goto C 9 (by decide) dX6_spinesLose_87 ?_
                  refine wk_le ?_ (ih2 (lf + 1) _ (by omega) (by omega) hfin)
                  repeat (first | exact le_0 | refine le_s ?_ | refine le_n ?_)
                · skip
                  have hcut : ¬ ab_loseN S (4 * sp + lf) 18 (4 * (ab_lb (ab_loseN S (4 * sp + lf)) (ab_fl (ab_loseN S (4 * sp + lf)) (32 + 4 * lf + sp))) + sp) = 0 := by
                    intro z
                    rw [decide_eq_false (fun y => y z), ab_1f] at hc39; omega
                  refine wk_aload_n C rfl dX6_spinesLose_42 ?_
                  refine wk_getr C (k := 20) (ci := 6) (j := 23) (T := TX6) rfl (show 0 < (1:Nat) by decide) rfl in_c_X6_spinesLose_X6 (by decide) (by decide +kernel) rfl dX6_spinesLose_43 ?_
                  refine wk_iconst C dX6_spinesLose_46 ?_
                  refine wk_iload_n C rfl dX6_spinesLose_47 ?_
                  refine wk_imul C dX6_spinesLose_48 ?_
                  refine wk_iald C (k := 43) rfl (show 0 < (1:Nat) by decide) (Nat.le_of_ble_eq_true rfl) ((4 * (32 + 4 * lf + sp))) (by omega) (show _ < (256:Nat) by omega) dX6_spinesLose_49 ?_
                  rw [h43, ← eH]
                  refine wk_istore C (by decide) (Nat.le_of_ble_eq_true rfl) dX6_spinesLose_50 ?_
                  refine wk_aload_n C rfl dX6_spinesLose_52 ?_
                  refine wk_getr C (k := 20) (ci := 6) (j := 11) (T := TX6) rfl (show 0 < (1:Nat) by decide) rfl in_c_X6_spinesLose_X6 (by decide) (by decide +kernel) rfl dX6_spinesLose_53 ?_
                  refine wk_iload C rfl dX6_spinesLose_56 ?_
                  refine wk_dup2 C dX6_spinesLose_58 ?_
                  refine wk_iald C (k := 31) rfl (show 0 < (1:Nat) by decide) (Nat.le_of_ble_eq_true rfl) ((ab_fl (ab_loseN S (4 * sp + lf)) (32 + 4 * lf + sp))) (by omega) (show _ < (24:Nat) by omega) dX6_spinesLose_59 ?_
                  rw [show σ2 31 0 (ab_fl (ab_loseN S (4 * sp + lf)) (32 + 4 * lf + sp)) = ab_loseN S (4 * sp + lf) 6 (ab_fl (ab_loseN S (4 * sp + lf)) (32 + 4 * lf + sp)) from g3.2.1 _ 6 e1 (by omega)]
                  refine wk_iconst C dX6_spinesLose_60 ?_
                  refine wk_iadd C dX6_spinesLose_61 ?_
                  refine wk_iast C (k := 31) rfl (show 0 < (1:Nat) by decide) (Nat.le_of_ble_eq_true rfl) ((ab_fl (ab_loseN S (4 * sp + lf)) (32 + 4 * lf + sp))) (by omega) (show _ < (24:Nat) by omega) dX6_spinesLose_62 ?_
                  refine wk_aload_n C rfl dX6_spinesLose_63 ?_
                  refine wk_getr C (k := 20) (ci := 6) (j := 30) (T := TX6) rfl (show 0 < (1:Nat) by decide) rfl in_c_X6_spinesLose_X6 (by decide) (by decide +kernel) rfl dX6_spinesLose_64 ?_
                  refine wk_aload_n C rfl dX6_spinesLose_67 ?_
                  refine wk_getr C (k := 20) (ci := 6) (j := 6) (T := TX6) rfl (show 0 < (1:Nat) by decide) rfl in_c_X6_spinesLose_X6 (by decide) (by decide +kernel) rfl dX6_spinesLose_68 ?_
                  refine wk_iload C rfl dX6_spinesLose_71 ?_
                  refine wk_iald C (k := 26) rfl (show 0 < (1:Nat) by decide) (Nat.le_of_ble_eq_true rfl) ((ab_fl (ab_loseN S (4 * sp + lf)) (32 + 4 * lf + sp))) (by omega) (show _ < (24:Nat) by omega) dX6_spinesLose_73 ?_
                  rw [am_up_app, if_neg (by omega), show σ2 26 0 (ab_fl (ab_loseN S (4 * sp + lf)) (32 + 4 * lf + sp)) = ab_loseN S (4 * sp + lf) 1 (ab_fl (ab_loseN S (4 * sp + lf)) (32 + 4 * lf + sp)) from g3.2.1 _ 1 e1 (by omega)]
                  have hC2 := R_u g3 (g := 6) (k := 31) (i := (ab_fl (ab_loseN S (4 * sp + lf)) (32 + 4 * lf + sp))) (by unfold rk_p; omega) (ab_loseN S (4 * sp + lf) 6 (ab_fl (ab_loseN S (4 * sp + lf)) (32 + 4 * lf + sp)) + 1)
                  refine wk_dup2 C dX6_spinesLose_74 ?_
                  refine wk_iald C (k := 50) rfl (show 0 < (1:Nat) by decide) (Nat.le_of_ble_eq_true rfl) ((ab_loseN S (4 * sp + lf) 1 (ab_fl (ab_loseN S (4 * sp + lf)) (32 + 4 * lf + sp))).toNat) (Int.toNat_of_nonneg (by omega)).symm (show _ < (16:Nat) by omega) dX6_spinesLose_75 ?_
                  rw [(hC2.2.2.1 (ab_loseN S (4 * sp + lf) 1 (ab_fl (ab_loseN S (4 * sp + lf)) (32 + 4 * lf + sp))).toNat (by omega)).1, ab_u_app, if_neg (by omega)]
                  refine wk_iconst C dX6_spinesLose_76 ?_
                  refine wk_isub C dX6_spinesLose_77 ?_
                  refine wk_iast C (k := 50) rfl (show 0 < (1:Nat) by decide) (Nat.le_of_ble_eq_true rfl) ((ab_loseN S (4 * sp + lf) 1 (ab_fl (ab_loseN S (4 * sp + lf)) (32 + 4 * lf + sp))).toNat) (Int.toNat_of_nonneg (by omega)).symm (show _ < (16:Nat) by omega) dX6_spinesLose_78 ?_
                  have hC3 := R_u hC2 (g := 16) (k := 50) (i := (ab_loseN S (4 * sp + lf) 1 (ab_fl (ab_loseN S (4 * sp + lf)) (32 + 4 * lf + sp))).toNat) (by unfold rk_p; omega) (ab_loseN S (4 * sp + lf) 16 (ab_loseN S (4 * sp + lf) 1 (ab_fl (ab_loseN S (4 * sp + lf)) (32 + 4 * lf + sp))).toNat - 1)
                  have hp3 : 0 < ab_u (ab_u (ab_loseN S (4 * sp + lf)) 6 (ab_fl (ab_loseN S (4 * sp + lf)) (32 + 4 * lf + sp)) (ab_loseN S (4 * sp + lf) 6 (ab_fl (ab_loseN S (4 * sp + lf)) (32 + 4 * lf + sp)) + 1)) 16 (ab_loseN S (4 * sp + lf) 1 (ab_fl (ab_loseN S (4 * sp + lf)) (32 + 4 * lf + sp))).toNat (ab_loseN S (4 * sp + lf) 16 (ab_loseN S (4 * sp + lf) 1 (ab_fl (ab_loseN S (4 * sp + lf)) (32 + 4 * lf + sp))).toNat - 1) 14 (32 + 4 * lf + sp) := by rw [ab_u_app, if_neg (by omega), ab_u_app, if_neg (by omega)]; exact hpos
                  have hS3 := I_lost hIk e1 (h' := (ab_loseN S (4 * sp + lf) 1 (ab_fl (ab_loseN S (4 * sp + lf)) (32 + 4 * lf + sp))).toNat) (by omega)
                  refine wk_aload_n C rfl dX6_spinesLose_79 ?_
                  refine wk_iload_n C rfl dX6_spinesLose_80 ?_
                  refine wk_ofV C (wk_runV (index := 152) (ci := 6) (st := []) C (c_X6_leavesT l g hI _ (32 + 4 * lf + sp) _ _ hC3 hS3 (by omega) hp3) (cwV 1 C.2.2.2.2.1 gX6_spinesLose_X6_leaves rfl rfl rfl (by decide +kernel) ⟨Nat.le_of_ble_eq_true rfl, Nat.le_of_ble_eq_true rfl⟩) rfl (show 0 < (1:Nat) by decide) rfl rfl rfl (Nat.le_of_ble_eq_true rfl) dX6_spinesLose_81 ⟨Nat.zero_le _, Nat.zero_le _⟩) (fun σ81 hp81 => ?_)
                  subst hp81
                  have hC4 := R_drop hC3 (q := (32 + 4 * lf + sp)) (by omega) hp3 (fun L hL => (hS3.s4 hL).2.1) hS3.2.1.2.2.2.1.1 hS3.2.1.1 rfl
                  have hE := hst
                  rw [ab_lose, if_pos ⟨hpos, hcut⟩] at hE
                  have hfin := hC4
                  rw [← hE] at hfin
                  refine wk_iinc C rfl (by decide) dX6_spinesLose_84 ?_
                  refine wk_goto C 9 (by decide) dX6_spinesLose_87 ?_
                  refine wk_le ?_ (ih2 (lf + 1) _ (by omega) (by omega) hfin)
                  repeat (first | exact le_0 | refine le_s ?_ | refine le_n ?_)
        refine wk_le ?_ (hl9 5 0 _ (by omega) (by omega) h3)
        repeat (first | exact le_0 | refine le_s ?_ | refine le_n ?_)
  refine wk_le ?_ (hl2 5 0 σ (by omega) (by omega) hR)
  repeat (first | exact le_0 | refine le_s ?_ | refine le_n ?_)

theorem in_c_X6_leavesChoose_X6 : ∀ w ∈ u_ws RX6 TX6 36, w ∈ wsX6_leavesChoose := by decide +kernel
set_option maxRecDepth 100000 in
set_option maxHeartbeats 4000000 in
/-- leavesChoose -/
theorem c_X6_leavesChoose (l : Launch) (g : am_g) (hI : am_inj (gR g)) (σ : am_M) (S : ab_S) (b : Int) (hR : ab_R S σ) (hS : ab_I S b) : Met l yX6_leavesChoose wsX6_leavesChoose ({ frames := 2, cells := 0, slots := 0, locals := 52 }) (am_P (gR g) σ [.inr (20, 0)]) (am_QV (gR g) (fun σ' => ab_R (ab_choN S 16) σ')) 0 0 (am_FA (gR g)) := by
  refine wk_start (cc := cX6_leavesChoose) (nL := 3) (ret := none) (own := RX6) (by decide) rfl hI rfl (Nat.le_of_ble_eq_true rfl) ?_
  intro p e s m below meth c C hr hlk
  change wk _ p l e _ s m _ below meth c 0 0 _ _ _ _ 0 [some (.inr (20, 0)), none, none] [] σ
  refine wk_iconst C dX6_leavesChoose_0 ?_
  refine wk_istore_n C (by decide) (Nat.le_of_ble_eq_true rfl) dX6_leavesChoose_1 ?_
  have hl2 : ∀ (d k : Nat) (σ1 : am_M), 17 ≤ k + d → k ≤ 16 → ab_R (ab_choN S k) σ1 → wk (gR g) p l e (headSpec wsX6_leavesChoose ({ frames := 2, cells := 0, slots := 0, locals := 52 })).room s m ([.inr (20, 0)].map (am_tv (gR g))).toArray below meth c 0 0 (MQ below (am_QV (gR g) (fun σ' => ab_R (ab_choN S 16) σ')) ([.inr (20, 0)].map (am_tv (gR g))).toArray s 0 0 (am_FA (gR g))) (am_FA (gR g)) s.heap 3 2 [some (.inr (20, 0)), some (.inl ((k : Nat) : Int)), none] [] σ1 := by
    intro d
    induction d with
    | zero => intro k σ1 h1 h2 h3; omega
    | succ d ih =>
      intro k σ1 h1 h2 h3
      refine wk_iload_n C rfl dX6_leavesChoose_2 ?_
      refine wk_bipush C (n := 16) (by decide) dX6_leavesChoose_3 ?_
      refine wk_icmp_ge C 93 (by omega) (by omega) (by decide) dX6_leavesChoose_5 (fun hc5 => ?_) (fun hc5 => ?_)
      · skip
        refine wk_vret C hr hlk dX6_leavesChoose_93 ?_
        have h4 : k = 16 := by omega
        subst h4
        exact h3
      · skip
        have hIk := I_choN hS k (by omega)
        have hs4 := hIk.s4 (L := k) (by omega)
        have hst : ab_choN S (k + 1) = ab_cho (ab_choN S k) k := rfl
        refine wk_aload_n C rfl dX6_leavesChoose_8 ?_
        refine wk_getr C (k := 20) (ci := 6) (j := 19) (T := TX6) rfl (show 0 < (1:Nat) by decide) rfl in_c_X6_leavesChoose_X6 (by decide) (by decide +kernel) rfl dX6_leavesChoose_9 ?_
        refine wk_iload_n C rfl dX6_leavesChoose_12 ?_
        refine wk_iald C (k := 39) rfl (show 0 < (1:Nat) by decide) (Nat.le_of_ble_eq_true rfl) (k) (by omega) (show _ < (64:Nat) by omega) dX6_leavesChoose_13 ?_
        rw [(h3.2.2.2.1 k (by omega)).1]
        refine wk_if_le C 87 (by omega) (by decide) dX6_leavesChoose_14 (fun hc14 => ?_) (fun hc14 => ?_)
        · skip
          have hfin : ab_R (ab_choN S (k + 1)) σ1 := by rw [hst, ab_cho, if_neg (fun z => by have := z.1; omega)]; exact h3
          refine wk_iinc C rfl (by decide) dX6_leavesChoose_87 ?_
          refine wk_goto C 2 (by decide) dX6_leavesChoose_90 ?_
          refine wk_le ?_ (ih (k + 1) _ (by omega) (by omega) hfin)
          repeat (first | exact le_0 | refine le_s ?_ | refine le_n ?_)
        · skip
          have hpos : 0 < ab_choN S k 14 k := hc14
          obtain ⟨eH, e1, e2, e3, e4, e5, e6, e7, e8⟩ := ab_hd hIk (q := k) (by omega) hpos
          obtain ⟨h43, h44, h46, h45⟩ := R_hd h3 (q := k) (by omega) hpos
          have hb1 := hIk.1
          refine wk_aload_n C rfl dX6_leavesChoose_17 ?_
          refine wk_aload_n C rfl dX6_leavesChoose_18 ?_
          refine wk_getr C (k := 20) (ci := 6) (j := 23) (T := TX6) rfl (show 0 < (1:Nat) by decide) rfl in_c_X6_leavesChoose_X6 (by decide) (by decide +kernel) rfl dX6_leavesChoose_19 ?_
          refine wk_iconst C dX6_leavesChoose_22 ?_
          refine wk_iload_n C rfl dX6_leavesChoose_23 ?_
          refine wk_imul C dX6_leavesChoose_24 ?_
          refine wk_iald C (k := 43) rfl (show 0 < (1:Nat) by decide) (Nat.le_of_ble_eq_true rfl) ((4 * k)) (by omega) (show _ < (256:Nat) by omega) dX6_leavesChoose_25 ?_
          rw [h43, ← eH]
          refine wk_ofI C (wk_runV (index := 162) (ci := 6) (st := []) C (c_X6_isFar l g hI _ (ab_fl (ab_choN S k) k) (ab_choN S k) _ (Rv_of h3) hIk e1) (cwV 1 C.2.2.2.2.1 gX6_leavesChoose_X6_isFar rfl rfl rfl (by decide +kernel) ⟨Nat.le_of_ble_eq_true rfl, Nat.le_of_ble_eq_true rfl⟩) rfl (show 0 < (1:Nat) by decide) rfl rfl rfl (Nat.le_of_ble_eq_true rfl) dX6_leavesChoose_26 ⟨Nat.zero_le _, Nat.zero_le _⟩) (fun r26 σ26 hp26 => ?_)
          obtain ⟨hsg26, rfl⟩ := hp26
          rw [hsg26]
          have h1r := ab_1r (ab_far (ab_choN S k) (ab_fl (ab_choN S k) k))
          refine wk_if_eq C 87 (by omega) (by decide) dX6_leavesChoose_29 (fun hc29 => ?_) (fun hc29 => ?_)
          · skip
            have hfar : ab_far (ab_choN S k) (ab_fl (ab_choN S k) k) = false := by
              cases hz : ab_far (ab_choN S k) (ab_fl (ab_choN S k) k)
              · rfl
              · rw [hz, ab_1t] at hc29; omega
            have hfin : ab_R (ab_choN S (k + 1)) σ1 := by rw [hst, ab_cho, if_neg (fun z => by rw [hfar] at z; exact absurd z.2.1 (by decide))]; exact h3
            refine wk_iinc C rfl (by decide) dX6_leavesChoose_87 ?_
            refine wk_goto C 2 (by decide) dX6_leavesChoose_90 ?_
            refine wk_le ?_ (ih (k + 1) _ (by omega) (by omega) hfin)
            repeat (first | exact le_0 | refine le_s ?_ | refine le_n ?_)
          · skip
            have hfar : ab_far (ab_choN S k) (ab_fl (ab_choN S k) k) = true := by
              cases hz : ab_far (ab_choN S k) (ab_fl (ab_choN S k) k)
              · rw [hz, ab_1f] at hc29; omega
              · rfl
            have hwc := w_cho hIk (by omega) hpos hfar
            have h7 := (e6 (by omega)).2 hfar
            have hwl := ab_w_rng hIk (q := k) (by omega)
            refine wk_aload_n C rfl dX6_leavesChoose_32 ?_
            refine wk_iload_n C rfl dX6_leavesChoose_33 ?_
            refine wk_ofI C (wk_runV (index := 156) (ci := 6) (st := []) C (c_X6_wanted l g hI _ k (by omega) (ab_choN S k) _ (Rv_of h3) hIk (Rq_of h3)) (cwV 1 C.2.2.2.2.1 gX6_leavesChoose_X6_wanted rfl rfl rfl (by decide +kernel) ⟨Nat.le_of_ble_eq_true rfl, Nat.le_of_ble_eq_true rfl⟩) rfl (show 0 < (1:Nat) by decide) rfl rfl rfl (Nat.le_of_ble_eq_true rfl) dX6_leavesChoose_34 ⟨Nat.zero_le _, Nat.zero_le _⟩) (fun r34 σ34 hp34 => ?_)
            obtain ⟨hsg34, rfl⟩ := hp34
            rw [hsg34]
            refine wk_iconst C dX6_leavesChoose_37 ?_
            refine wk_icmp_ne C 87 (by omega) (by omega) (by decide) dX6_leavesChoose_38 (fun hc38 => ?_) (fun hc38 => ?_)
            · skip
              have hfin : ab_R (ab_choN S (k + 1)) σ1 := by rw [hst, ab_cho, if_neg (fun z => hc38 (hwc.mpr z.2.2.1))]; exact h3
              refine wk_iinc C rfl (by decide) dX6_leavesChoose_87 ?_
              refine wk_goto C 2 (by decide) dX6_leavesChoose_90 ?_
              refine wk_le ?_ (ih (k + 1) _ (by omega) (by omega) hfin)
              repeat (first | exact le_0 | refine le_s ?_ | refine le_n ?_)
            · skip
              have hus := hwc.mp hc38
              refine wk_aload_n C rfl dX6_leavesChoose_41 ?_
              refine wk_aload_n C rfl dX6_leavesChoose_42 ?_
              refine wk_getr C (k := 20) (ci := 6) (j := 23) (T := TX6) rfl (show 0 < (1:Nat) by decide) rfl in_c_X6_leavesChoose_X6 (by decide) (by decide +kernel) rfl dX6_leavesChoose_43 ?_
              refine wk_iconst C dX6_leavesChoose_46 ?_
              refine wk_iload_n C rfl dX6_leavesChoose_47 ?_
              refine wk_imul C dX6_leavesChoose_48 ?_
              refine wk_iald C (k := 43) rfl (show 0 < (1:Nat) by decide) (Nat.le_of_ble_eq_true rfl) ((4 * k)) (by omega) (show _ < (256:Nat) by omega) dX6_leavesChoose_49 ?_
              rw [h43, ← eH]
              refine wk_aload_n C rfl dX6_leavesChoose_50 ?_
              refine wk_getr C (k := 20) (ci := 6) (j := 26) (T := TX6) rfl (show 0 < (1:Nat) by decide) rfl in_c_X6_leavesChoose_X6 (by decide) (by decide +kernel) rfl dX6_leavesChoose_51 ?_
              refine wk_iconst C dX6_leavesChoose_54 ?_
              refine wk_iload_n C rfl dX6_leavesChoose_55 ?_
              refine wk_imul C dX6_leavesChoose_56 ?_
              refine wk_iald C (k := 46) rfl (show 0 < (1:Nat) by decide) (Nat.le_of_ble_eq_true rfl) ((4 * k)) (by omega) (show _ < (256:Nat) by omega) dX6_leavesChoose_57 ?_
              rw [h46]
              refine wk_ofI C (wk_runV (index := 165) (ci := 6) (st := []) C (c_X6_chosen l g hI _ (ab_fl (ab_choN S k) k) (ab_choN S k 22 (4 * k)) (ab_choN S k) _ (Rv_of h3) hIk e1 (by omega)) (cwV 2 C.2.2.2.2.1 gX6_leavesChoose_X6_chosen rfl rfl rfl (by decide +kernel) ⟨Nat.le_of_ble_eq_true rfl, Nat.le_of_ble_eq_true rfl⟩) rfl (show 0 < (1:Nat) by decide) rfl rfl rfl (Nat.le_of_ble_eq_true rfl) dX6_leavesChoose_58 ⟨Nat.zero_le _, Nat.zero_le _⟩) (fun r58 σ58 hp58 => ?_)
              obtain ⟨hsg58, rfl⟩ := hp58
              rw [hsg58]
              have hchr := ab_chosen_rng (ab_choN S k) (ab_fl (ab_choN S k) k) (ab_choN S k 22 (4 * k))
              refine wk_istore_n C (by decide) (Nat.le_of_ble_eq_true rfl) dX6_leavesChoose_61 ?_
              refine wk_aload_n C rfl dX6_leavesChoose_62 ?_
              refine wk_getr C (k := 20) (ci := 6) (j := 25) (T := TX6) rfl (show 0 < (1:Nat) by decide) rfl in_c_X6_leavesChoose_X6 (by decide) (by decide +kernel) rfl dX6_leavesChoose_63 ?_
              refine wk_iconst C dX6_leavesChoose_66 ?_
              refine wk_iload_n C rfl dX6_leavesChoose_67 ?_
              refine wk_imul C dX6_leavesChoose_68 ?_
              refine wk_iload_n C rfl dX6_leavesChoose_69 ?_
              refine wk_iconst C dX6_leavesChoose_70 ?_
              refine wk_icmp_ne C 85 (by omega) (by omega) (by decide) dX6_leavesChoose_71 (fun hc71 => ?_) (fun hc71 => ?_)
              · skip
                have hfin : ab_R (ab_choN S (k + 1)) (am_up σ1 45 0 (4 * k) (ab_chosen (ab_choN S k) (ab_fl (ab_choN S k) k) (ab_choN S k 22 (4 * k)))) := by rw [hst, ab_cho, if_pos ⟨hpos, hfar, hus, hc71⟩]; exact R_sp h3 _
                refine wk_iload_n C rfl dX6_leavesChoose_85 ?_
                refine wk_iast C (k := 45) rfl (show 0 < (1:Nat) by decide) (Nat.le_of_ble_eq_true rfl) ((4 * k)) (by omega) (show _ < (256:Nat) by omega) dX6_leavesChoose_86 ?_
                refine wk_iinc C rfl (by decide) dX6_leavesChoose_87 ?_
                refine wk_goto C 2 (by decide) dX6_leavesChoose_90 ?_
                refine wk_le ?_ (ih (k + 1) _ (by omega) (by omega) hfin)
                repeat (first | exact le_0 | refine le_s ?_ | refine le_n ?_)
              · skip
                have hfin : ab_R (ab_choN S (k + 1)) (am_up σ1 45 0 (4 * k) (ab_choN S k 23 (4 * k))) := by
                  rw [hst, ab_cho, if_neg (fun z => z.2.2.2 hc71)]
                  refine R_ext (fun g i => ?_) (R_sp h3 (i := 4 * k) _)
                  rw [ab_u_app]
                  split
                  · rename_i z
                    rw [z.1, z.2]
                  · rfl
                refine wk_aload_n C rfl dX6_leavesChoose_74 ?_
                refine wk_getr C (k := 20) (ci := 6) (j := 25) (T := TX6) rfl (show 0 < (1:Nat) by decide) rfl in_c_X6_leavesChoose_X6 (by decide) (by decide +kernel) rfl dX6_leavesChoose_75 ?_
                refine wk_iconst C dX6_leavesChoose_78 ?_
                refine wk_iload_n C rfl dX6_leavesChoose_79 ?_
                refine wk_imul C dX6_leavesChoose_80 ?_
                refine wk_iald C (k := 45) rfl (show 0 < (1:Nat) by decide) (Nat.le_of_ble_eq_true rfl) ((4 * k)) (by omega) (show _ < (256:Nat) by omega) dX6_leavesChoose_81 ?_
                rw [h45]
                refine wk_goto C 86 (by decide) dX6_leavesChoose_82 ?_
                refine wk_iast C (k := 45) rfl (show 0 < (1:Nat) by decide) (Nat.le_of_ble_eq_true rfl) ((4 * k)) (by omega) (show _ < (256:Nat) by omega) dX6_leavesChoose_86 ?_
                refine wk_iinc C rfl (by decide) dX6_leavesChoose_87 ?_
                refine wk_goto C 2 (by decide) dX6_leavesChoose_90 ?_
                refine wk_le ?_ (ih (k + 1) _ (by omega) (by omega) hfin)
                repeat (first | exact le_0 | refine le_s ?_ | refine le_n ?_)
  refine wk_le ?_ (hl2 17 0 σ (by omega) (by omega) hR)
  repeat (first | exact le_0 | refine le_s ?_ | refine le_n ?_)
