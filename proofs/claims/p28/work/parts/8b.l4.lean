/-! the bits of a leaf's cuts, and what the law makes of them -/
def lset (S : ab_S) (a b k : Nat) : Int := am_sum (fun s => if ab_us S a b s = true then ((2 ^ s : Nat) : Int) else 0) k
theorem lset_4 (S : ab_S) (a b : Nat) : lset S a b 4 = ab_um S a b := by
  unfold lset ab_um
  simp only [am_sum]
  cases ab_us S a b 0 <;> cases ab_us S a b 1 <;> cases ab_us S a b 2 <;> cases ab_us S a b 3 <;> rfl
theorem us_f {S : ab_S} {a b x : Nat} (h : ¬ (((ub S (4 * a + x)).toNat : Nat) : Int) + (((ub S (4 * b + x)).toNat : Nat) : Int) = 0) : ab_us S a b x = false := by
  unfold ab_us
  by_cases z1 : S 18 (4 * a + x) = 0
  · by_cases z2 : S 18 (4 * b + x) = 0
    · exact absurd (by unfold ub; rw [z1, z2]; rfl) h
    · simp [z2]
  · simp [z1]
theorem us_t {S : ab_S} {a b x : Nat} (h : (((ub S (4 * a + x)).toNat : Nat) : Int) + (((ub S (4 * b + x)).toNat : Nat) : Int) = 0) : ab_us S a b x = true := by
  unfold ab_us
  have e : ∀ q, ¬ S 18 q = 0 → (ub S q).toNat = 1 := fun q hq => by unfold ub; simp [hq]
  by_cases z1 : S 18 (4 * a + x) = 0
  · by_cases z2 : S 18 (4 * b + x) = 0
    · simp [z1, z2]
    · have := e _ z2; omega
  · have := e _ z1; omega
theorem um_sym (S : ab_S) (a b : Nat) : ab_um S b a = ab_um S a b := by
  have e : ∀ s, ab_us S b a s = ab_us S a b s := fun s => by unfold ab_us; exact Bool.and_comm _ _
  unfold ab_um
  rw [e, e, e, e]
theorem sh_t {S : ab_S} {b : Int} (h : ab_I S b) {a : Nat} (ha : a < 4) : ((lcm S / 2 ^ (4 * a) % 16 : Nat) : Int) = 15 ↔ shut S a = true := by
  have hd := lm_dig (ub S) ha
  have hq := h.2.2.2.2.2.2.1
  have n0 := ub_n (hq (4 * a) (by omega))
  have n1 := ub_n (hq (4 * a + 1) (by omega))
  have n2 := ub_n (hq (4 * a + 2) (by omega))
  have n3 := ub_n (hq (4 * a + 3) (by omega))
  have q0 := hq (4 * a) (by omega)
  have q1 := hq (4 * a + 1) (by omega)
  have q2 := hq (4 * a + 2) (by omega)
  have q3 := hq (4 * a + 3) (by omega)
  have hm := (mask_um hq ha).2
  have e : lcm S / 2 ^ (4 * a) % 16 = (ub S (4 * a)).toNat + 2 * (ub S (4 * a + 1)).toNat + 4 * (ub S (4 * a + 2)).toNat + 8 * (ub S (4 * a + 3)).toNat := hd
  unfold shut
  rw [decide_eq_true_eq, hm, e]
  omega
theorem brv (S : ab_S) (k : Nat) {sv : Int} (hsv : sv = ab_1 (shut S (ab_la S k) || shut S (ab_lb S k))) : ab_1 (br S (k + 1)) = if ¬ ab_1 (br S k) = 0 then 1 else if ab_tos S k ≤ 0 then 0 else if ab_1 (ab_far S k) = 0 then 0 else if sv = 0 then 0 else 1 := by
  rw [br, hsv]
  unfold barf
  by_cases ht : 0 < ab_tos S k
  · have ht2 : ¬ ab_tos S k ≤ 0 := by omega
    cases br S k <;> cases ab_far S k <;> cases (shut S (ab_la S k) || shut S (ab_lb S k)) <;> simp [ab_1, ht, ht2]
  · have ht2 : ab_tos S k ≤ 0 := by omega
    cases br S k <;> simp [ab_1, ht, ht2]
theorem tos_r {S : ab_S} {σ : am_M} (h : lW S σ) {f : Nat} (hf : f < ab_n S) : 0 ≤ ab_tos S f ∧ ab_tos S f ≤ 300000 := by
  have h0 := tos_nn h.2.2.1 hf
  have i := h.2.1.2.2.1 f (nlt hf)
  have c := h.2.2.2.2.1
  have c0 := h.2.1.2.1.2.2.2.1
  unfold ab_If at i
  unfold ab_tos at h0 ⊢
  omega
theorem ts_r {S : ab_S} {σ : am_M} (h : lW S σ) : 0 ≤ ts S (ab_n S) ∧ ts S (ab_n S) ≤ 7200000 := by
  refine ⟨tsum_nn h.2.2.1, ?_⟩
  have : ts S (ab_n S) ≤ am_sum (fun _ => 300000) (ab_n S) := sm_le (fun f hf => (tos_r h hf).2)
  rw [sm_const] at this
  have hn := h.2.1.2.1.2.2.2.2
  unfold ab_n at *
  omega
theorem mx_r {S : ab_S} {σ : am_M} (h : lW S σ) {k : Nat} (hk : k ≤ ab_n S) : 0 ≤ mx S k ∧ mx S k ≤ 300000 :=
  ⟨mx_nn S k, mx_le (by omega) (fun f hf => (tos_r h (by omega)).2)⟩

set_option maxRecDepth 100000 in
set_option maxHeartbeats 4000000 in
theorem w_areLinks (l : Launch) (hl : l.stackTraces = false) (g : am_g) (hI : am_inj (gL g)) (σ : am_M)  (S : ab_S) (hw : lW S σ) : Met l yL_areLinks wsL_areLinks ({ frames := 9, cells := 16, slots := 96, locals := 149 }) (lP g σ [.ref ((g.2.2 0 0)), .ref ((g.2.2 61 0))]) (lQ g (fun r σ' => σ' = σ ∧ r = 1)) 16 96 (am_FA (gL g)) := by
  refine wq_start (cc := cL_areLinks) (nL := 13) (ret := (some .boolean)) (by decide) rfl hI rfl (fun v hv => by simp only [List.mem_cons, List.not_mem_nil, or_false] at hv; rcases hv with rfl | rfl <;> rfl) (Nat.le_of_ble_eq_true rfl) ?_
  intro p e s m below meth c C hr hlk
  change wq g p l e (headSpec wsL_areLinks ({ frames := 9, cells := 16, slots := 96, locals := 149 })).room s m ([.ref ((g.2.2 0 0)), .ref ((g.2.2 61 0))] : List Value).toArray below meth c (0) (0) (MQ below (lQ g (fun r σ' => σ' = σ ∧ r = 1)) ([.ref ((g.2.2 0 0)), .ref ((g.2.2 61 0))] : List Value).toArray s 16 96 (am_FA (gL g))) (am_FA (gL g)) 13 0 [some (.ref ((g.2.2 0 0))), some (.ref ((g.2.2 61 0))), none, none, none, none, none, none, none, none, none, none, none] [] σ
  obtain ⟨hC, hS, hJ, hp, hcl, hfn, hm0, hm1, hm2, hm3⟩ := id hw
  have hn24 := hS.2.1.2.2.2.2
  have hn : ((ab_n S : Nat) : Int) = S 19 4 := Int.toNat_of_nonneg hn24.1
  have hc0 := hS.2.1.2.2.2.1
  have hwd := hS.2.1.2.2.1
  have hdl := hS.2.1.1
  refine wq_iconst C dL_areLinks_0 ?_
  refine wq_istore_n C (by decide) (Nat.le_of_ble_eq_true rfl) rfl dL_areLinks_1 ?_
  refine wq_iconst C dL_areLinks_2 ?_
  refine wq_istore_n C (by decide) (Nat.le_of_ble_eq_true rfl) rfl dL_areLinks_3 ?_
  refine wq_iconst C dL_areLinks_4 ?_
  refine wq_istore C (by decide) (Nat.le_of_ble_eq_true rfl) rfl dL_areLinks_5 ?_
  refine wq_iconst C dL_areLinks_7 ?_
  refine wq_istore C (by decide) (Nat.le_of_ble_eq_true rfl) rfl dL_areLinks_8 ?_
  refine wq_iconst C dL_areLinks_10 ?_
  refine wq_istore C (by decide) (Nat.le_of_ble_eq_true rfl) rfl dL_areLinks_11 ?_
  have hl13 : ∀ (dk k : Nat), 17 ≤ k + dk → k ≤ 16 → wq g p l e (headSpec wsL_areLinks ({ frames := 9, cells := 16, slots := 96, locals := 149 })).room s m ([.ref ((g.2.2 0 0)), .ref ((g.2.2 61 0))] : List Value).toArray below meth c (k) (6 * k) (MQ below (lQ g (fun r σ' => σ' = σ ∧ r = 1)) ([.ref ((g.2.2 0 0)), .ref ((g.2.2 61 0))] : List Value).toArray s 16 96 (am_FA (gL g))) (am_FA (gL g)) 13 13 [some (.ref ((g.2.2 0 0))), some (.ref ((g.2.2 61 0))), some (qi (am_sum (fun k => lq S k) k)), some (qi (am_sum (fun k => S 16 k) k)), some (qi (am_sum (fun k => lw S k) k)), some (qi (1)), some (qi (((k : Nat) : Int))), none, none, none, none, none, none] [] σ := by
    intro dk
    induction dk with
    | zero => intro k h1 h2; omega
    | succ dk ihk =>
      intro k h1k h2k
      refine wq_iload C rfl dL_areLinks_13 ?_
      refine wq_bipush C (n := 16) (by decide) dL_areLinks_15 ?_
      refine wq_icmp_ge C 383 (by omega) (by omega) (by decide) dL_areLinks_17 (fun hc17 => ?_) (fun hc17 => ?_)
      · skip
        obtain rfl : k = 16 := by omega
        rw [lq_sum, open_all hS hp.1]
        have hw1 := lw_sum hS
        have hw0 : 0 ≤ am_sum (fun k => lw S k) 16 := sm_nn (fun k hk => by have q1 := hS.s4 (L := k) (by omega); have q2 := hS.s4 (L := 32 + k) (by omega); unfold lw; omega)
        have hrr := ret_r hS
        have hqd : ab_qd S ≤ 256 := by
          have e := sm_le (f := fun L => S 14 L) (g := fun _ => 4) (n := 64) (fun L hL => (hS.s4 hL).2.1)
          rw [sm_const] at e
          exact e
        have hq0 := qd_nn hS
        refine wq_iload C rfl dL_areLinks_383 ?_
        refine wq_if_eq C 424 (by omega) (by decide) dL_areLinks_385 (fun hc385 => ?_) (fun hc385 => ?_)
        · skip
          exfalso; omega
        · skip
          refine wq_aload_n C rfl dL_areLinks_388 ?_
          refine wq_cI C (av := []) (index := 120) (c_X5_queued l g (lC_inj hI) σ S (48 * S 19 3) hC hS) (cwV 0 C.1.2.2.2.2 gL_areLinks_X5_queued rfl rfl rfl (by decide +kernel) ⟨Nat.le_of_ble_eq_true rfl, Nat.le_of_ble_eq_true rfl⟩) rfl rfl (Nat.le_of_ble_eq_true rfl) dL_areLinks_389 ⟨(Nat.le_of_ble_eq_true rfl), (Nat.le_of_ble_eq_true rfl)⟩ (fun r389 σ389 hp389 => ?_)
          obtain ⟨hsg389, hr389⟩ := hp389
          rw [hsg389, l_mix_s]
          obtain rfl : r389 = ab_qd S := hr389.trans (by first | rfl | (congr 1; omega))
          refine wq_iload_n C rfl dL_areLinks_392 ?_
          refine wq_icmp_ne C 424 (by omega) (by omega) (by decide) dL_areLinks_393 (fun hc393 => ?_) (fun hc393 => ?_)
          · skip
            exfalso; omega
          · skip
            refine wq_iload_n C rfl dL_areLinks_396 ?_
            refine wq_iload_n C rfl dL_areLinks_397 ?_
            refine wq_icmp_ne C 424 (by omega) (by omega) (by decide) dL_areLinks_398 (fun hc398 => ?_) (fun hc398 => ?_)
            · skip
              exfalso; omega
            · skip
              refine wq_aload_n C rfl dL_areLinks_401 ?_
              refine wq_cI C (av := []) (index := 117) (c_X5_returning l g (lC_inj hI) σ S (48 * S 19 3) hC hS) (cwV 0 C.1.2.2.2.2 gL_areLinks_X5_returning rfl rfl rfl (by decide +kernel) ⟨Nat.le_of_ble_eq_true rfl, Nat.le_of_ble_eq_true rfl⟩) rfl rfl (Nat.le_of_ble_eq_true rfl) dL_areLinks_402 ⟨(Nat.le_of_ble_eq_true rfl), (Nat.le_of_ble_eq_true rfl)⟩ (fun r402 σ402 hp402 => ?_)
              obtain ⟨hsg402, hr402⟩ := hp402
              rw [hsg402, l_mix_s]
              obtain rfl : r402 = ab_ret S := hr402.trans (by first | rfl | (congr 1; omega))
              refine wq_iload C rfl dL_areLinks_405 ?_
              refine wq_icmp_lt C 424 (by omega) (by omega) (by decide) dL_areLinks_407 (fun hc407 => ?_) (fun hc407 => ?_)
              · skip
                exfalso; omega
              · skip
                refine wq_aload_n C rfl dL_areLinks_410 ?_
                refine wq_cI C (av := []) (index := 117) (c_X5_returning l g (lC_inj hI) σ S (48 * S 19 3) hC hS) (cwV 0 C.1.2.2.2.2 gL_areLinks_X5_returning rfl rfl rfl (by decide +kernel) ⟨Nat.le_of_ble_eq_true rfl, Nat.le_of_ble_eq_true rfl⟩) rfl rfl (Nat.le_of_ble_eq_true rfl) dL_areLinks_411 ⟨(Nat.le_of_ble_eq_true rfl), (Nat.le_of_ble_eq_true rfl)⟩ (fun r411 σ411 hp411 => ?_)
                obtain ⟨hsg411, hr411⟩ := hp411
                rw [hsg411, l_mix_s]
                obtain rfl : r411 = ab_ret S := hr411.trans (by first | rfl | (congr 1; omega))
                refine wq_sipush C (n := 256) (by decide) dL_areLinks_414 ?_
                refine wq_icmp_gt C 424 (by omega) (by omega) (by decide) dL_areLinks_417 (fun hc417 => ?_) (fun hc417 => ?_)
                · skip
                  exfalso; omega
                · skip
                  refine wq_iconst C dL_areLinks_420 ?_
                  refine wq_goto C 425 (by decide) dL_areLinks_421 ?_
                  refine wq_zret C hr hlk (Nat.le_of_ble_eq_true rfl) (Nat.le_of_ble_eq_true rfl) (by omega) dL_areLinks_425 ?_
                  exact ⟨rfl, rfl⟩
      · skip
        have u1 := hS.s4 (L := k) (by omega)
        have u2 := hS.s4 (L := 32 + k) (by omega)
        have u3 := hS.s4 (L := 16 + k) (by omega)
        have u4 := hS.s4 (L := 48 + k) (by omega)
        have u5 := ab_um_rng S (k / 4) (k % 4)
        refine wq_iload C rfl dL_areLinks_20 ?_
        refine wq_if_eq C 383 (by omega) (by decide) dL_areLinks_22 (fun hc22 => ?_) (fun hc22 => ?_)
        · skip
          exfalso; omega
        · skip
          refine wq_aload_n C rfl dL_areLinks_25 ?_
          refine wq_iload C rfl dL_areLinks_26 ?_
          refine wq_cI C (av := [.inl (((k : Nat) : Int))]) (index := 57) (z_X5_upQueue l g (lC_inj hI) σ (((k : Nat) : Int)) S (48 * S 19 3) hC hS (by omega)) (cwV 1 C.1.2.2.2.2 gL_areLinks_X5_upQueue rfl rfl rfl (by decide +kernel) ⟨Nat.le_of_ble_eq_true rfl, Nat.le_of_ble_eq_true rfl⟩) rfl rfl (Nat.le_of_ble_eq_true rfl) dL_areLinks_28 ⟨(by show k + 0 ≤ 16; omega), (by show 6 * k + 0 ≤ 96; omega)⟩ (fun r28 σ28 hp28 => ?_)
          obtain ⟨hsg28, hr28⟩ := hp28
          rw [hsg28, l_mix_s]
          obtain rfl : r28 = S 14 k := hr28.trans (by first | rfl | (congr 1; omega))
          refine wq_istore C (by decide) (Nat.le_of_ble_eq_true rfl) rfl dL_areLinks_31 ?_
          refine wq_aload_n C rfl dL_areLinks_33 ?_
          refine wq_iload C rfl dL_areLinks_34 ?_
          refine wq_iconst C dL_areLinks_36 ?_
          refine wq_idiv C (by omega) (by omega) dL_areLinks_37 ?_
          refine wq_iload C rfl dL_areLinks_38 ?_
          refine wq_iconst C dL_areLinks_40 ?_
          refine wq_irem C (by omega) (by omega) dL_areLinks_41 ?_
          refine wq_cI C (av := [.inl ((((k : Nat) : Int)) / (4)), .inl ((((k : Nat) : Int)) % (4))]) (index := 69) (z_X5_northQueue l g (lC_inj hI) σ ((((k : Nat) : Int)) / (4)) ((((k : Nat) : Int)) % (4)) S (48 * S 19 3) hC hS (by omega)) (cwV 2 C.1.2.2.2.2 gL_areLinks_X5_northQueue rfl rfl rfl (by decide +kernel) ⟨Nat.le_of_ble_eq_true rfl, Nat.le_of_ble_eq_true rfl⟩) rfl rfl (Nat.le_of_ble_eq_true rfl) dL_areLinks_42 ⟨(by show k + 0 ≤ 16; omega), (by show 6 * k + 0 ≤ 96; omega)⟩ (fun r42 σ42 hp42 => ?_)
          obtain ⟨hsg42, hr42⟩ := hp42
          rw [hsg42, l_mix_s]
          obtain rfl : r42 = S 14 (32 + k) := hr42.trans (by first | rfl | (congr 1; omega))
          refine wq_istore C (by decide) (Nat.le_of_ble_eq_true rfl) rfl dL_areLinks_45 ?_
          refine wq_aload_n C rfl dL_areLinks_47 ?_
          refine wq_iload C rfl dL_areLinks_48 ?_
          refine wq_cI C (av := [.inl (((k : Nat) : Int))]) (index := 60) (z_X5_downQueue l g (lC_inj hI) σ (((k : Nat) : Int)) S (48 * S 19 3) hC hS (by omega)) (cwV 1 C.1.2.2.2.2 gL_areLinks_X5_downQueue rfl rfl rfl (by decide +kernel) ⟨Nat.le_of_ble_eq_true rfl, Nat.le_of_ble_eq_true rfl⟩) rfl rfl (Nat.le_of_ble_eq_true rfl) dL_areLinks_50 ⟨(by show k + 0 ≤ 16; omega), (by show 6 * k + 0 ≤ 96; omega)⟩ (fun r50 σ50 hp50 => ?_)
          obtain ⟨hsg50, hr50⟩ := hp50
          rw [hsg50, l_mix_s]
          obtain rfl : r50 = S 14 (16 + k) := hr50.trans (by first | rfl | (congr 1; omega))
          refine wq_istore C (by decide) (Nat.le_of_ble_eq_true rfl) rfl dL_areLinks_53 ?_
          refine wq_aload_n C rfl dL_areLinks_55 ?_
          refine wq_iload C rfl dL_areLinks_56 ?_
          refine wq_iconst C dL_areLinks_58 ?_
          refine wq_idiv C (by omega) (by omega) dL_areLinks_59 ?_
          refine wq_iload C rfl dL_areLinks_60 ?_
          refine wq_iconst C dL_areLinks_62 ?_
          refine wq_irem C (by omega) (by omega) dL_areLinks_63 ?_
          refine wq_cI C (av := [.inl ((((k : Nat) : Int)) / (4)), .inl ((((k : Nat) : Int)) % (4))]) (index := 72) (z_X5_southQueue l g (lC_inj hI) σ ((((k : Nat) : Int)) / (4)) ((((k : Nat) : Int)) % (4)) S (48 * S 19 3) hC hS (by omega)) (cwV 2 C.1.2.2.2.2 gL_areLinks_X5_southQueue rfl rfl rfl (by decide +kernel) ⟨Nat.le_of_ble_eq_true rfl, Nat.le_of_ble_eq_true rfl⟩) rfl rfl (Nat.le_of_ble_eq_true rfl) dL_areLinks_64 ⟨(by show k + 0 ≤ 16; omega), (by show 6 * k + 0 ≤ 96; omega)⟩ (fun r64 σ64 hp64 => ?_)
          obtain ⟨hsg64, hr64⟩ := hp64
          rw [hsg64, l_mix_s]
          obtain rfl : r64 = S 14 (48 + k) := hr64.trans (by first | rfl | (congr 1; omega))
          refine wq_istore C (by decide) (Nat.le_of_ble_eq_true rfl) rfl dL_areLinks_67 ?_
          refine wq_iload_n C rfl dL_areLinks_69 ?_
          refine wq_iload C rfl dL_areLinks_70 ?_
          refine wq_iload C rfl dL_areLinks_72 ?_
          refine wq_iadd C dL_areLinks_74 ?_
          refine wq_iload C rfl dL_areLinks_75 ?_
          refine wq_iadd C dL_areLinks_77 ?_
          refine wq_iload C rfl dL_areLinks_78 ?_
          refine wq_iadd C dL_areLinks_80 ?_
          refine wq_iadd C dL_areLinks_81 ?_
          refine wq_istore_n C (by decide) (Nat.le_of_ble_eq_true rfl) rfl dL_areLinks_82 ?_
          refine wq_iload_n C rfl dL_areLinks_83 ?_
          refine wq_aload_n C rfl dL_areLinks_84 ?_
          refine wq_iload C rfl dL_areLinks_85 ?_
          refine wq_cI C (av := [.inl (((k : Nat) : Int))]) (index := 66) (z_X5_open l g (lC_inj hI) σ (((k : Nat) : Int)) S (48 * S 19 3) hC hS (by omega)) (cwV 1 C.1.2.2.2.2 gL_areLinks_X5_open rfl rfl rfl (by decide +kernel) ⟨Nat.le_of_ble_eq_true rfl, Nat.le_of_ble_eq_true rfl⟩) rfl rfl (Nat.le_of_ble_eq_true rfl) dL_areLinks_87 ⟨(by show k + 0 ≤ 16; omega), (by show 6 * k + 0 ≤ 96; omega)⟩ (fun r87 σ87 hp87 => ?_)
          obtain ⟨hsg87, hr87⟩ := hp87
          rw [hsg87, l_mix_s]
          obtain rfl : r87 = S 16 k := hr87.trans (by first | rfl | (congr 1; omega))
          refine wq_iadd C dL_areLinks_90 ?_
          refine wq_istore_n C (by decide) (Nat.le_of_ble_eq_true rfl) rfl dL_areLinks_91 ?_
          refine wq_iload C rfl dL_areLinks_92 ?_
          refine wq_iconst C dL_areLinks_94 ?_
          refine wq_iload C rfl dL_areLinks_95 ?_
          refine wq_isub C dL_areLinks_97 ?_
          refine wq_aload_n C rfl dL_areLinks_98 ?_
          refine wq_iload C rfl dL_areLinks_99 ?_
          refine wq_cI C (av := [.inl (((k : Nat) : Int))]) (index := 63) (z_X5_upCredits l g (lC_inj hI) σ (((k : Nat) : Int)) S (48 * S 19 3) hC hS (by omega)) (cwV 1 C.1.2.2.2.2 gL_areLinks_X5_upCredits rfl rfl rfl (by decide +kernel) ⟨Nat.le_of_ble_eq_true rfl, Nat.le_of_ble_eq_true rfl⟩) rfl rfl (Nat.le_of_ble_eq_true rfl) dL_areLinks_101 ⟨(by show k + 0 ≤ 16; omega), (by show 6 * k + 0 ≤ 96; omega)⟩ (fun r101 σ101 hp101 => ?_)
          obtain ⟨hsg101, hr101⟩ := hp101
          rw [hsg101, l_mix_s]
          obtain rfl : r101 = S 13 k := hr101.trans (by first | rfl | (congr 1; omega))
          refine wq_isub C dL_areLinks_104 ?_
          refine wq_iconst C dL_areLinks_105 ?_
          refine wq_iadd C dL_areLinks_106 ?_
          refine wq_iload C rfl dL_areLinks_107 ?_
          refine wq_isub C dL_areLinks_109 ?_
          refine wq_aload_n C rfl dL_areLinks_110 ?_
          refine wq_iload C rfl dL_areLinks_111 ?_
          refine wq_iconst C dL_areLinks_113 ?_
          refine wq_idiv C (by omega) (by omega) dL_areLinks_114 ?_
          refine wq_iload C rfl dL_areLinks_115 ?_
          refine wq_iconst C dL_areLinks_117 ?_
          refine wq_irem C (by omega) (by omega) dL_areLinks_118 ?_
          refine wq_cI C (av := [.inl ((((k : Nat) : Int)) / (4)), .inl ((((k : Nat) : Int)) % (4))]) (index := 75) (z_X5_northCredits l g (lC_inj hI) σ ((((k : Nat) : Int)) / (4)) ((((k : Nat) : Int)) % (4)) S (48 * S 19 3) hC hS (by omega)) (cwV 2 C.1.2.2.2.2 gL_areLinks_X5_northCredits rfl rfl rfl (by decide +kernel) ⟨Nat.le_of_ble_eq_true rfl, Nat.le_of_ble_eq_true rfl⟩) rfl rfl (Nat.le_of_ble_eq_true rfl) dL_areLinks_119 ⟨(by show k + 0 ≤ 16; omega), (by show 6 * k + 0 ≤ 96; omega)⟩ (fun r119 σ119 hp119 => ?_)
          obtain ⟨hsg119, hr119⟩ := hp119
          rw [hsg119, l_mix_s]
          obtain rfl : r119 = S 13 (32 + k) := hr119.trans (by first | rfl | (congr 1; omega))
          refine wq_isub C dL_areLinks_122 ?_
          refine wq_iadd C dL_areLinks_123 ?_
          refine wq_istore C (by decide) (Nat.le_of_ble_eq_true rfl) rfl dL_areLinks_124 ?_
          rw [show (am_sum (fun k => lq S k) k) + ((((S 14 k) + (S 14 (32 + k))) + (S 14 (16 + k))) + (S 14 (48 + k))) = am_sum (fun k => lq S k) (k + 1) from rfl, show (am_sum (fun k => S 16 k) k) + (S 16 k) = am_sum (fun k => S 16 k) (k + 1) from rfl, show (am_sum (fun k => lw S k) k) + ((((((4) - (S 14 k)) - (S 13 k)) + (4)) - (S 14 (32 + k))) - (S 13 (32 + k))) = am_sum (fun k => lw S k) (k + 1) from rfl]
          refine wq_iload C rfl dL_areLinks_126 ?_
          refine wq_if_lt C 218 (by omega) (by decide) dL_areLinks_128 (fun hc128 => ?_) (fun hc128 => ?_)
          · skip
            exfalso; omega
          · skip
            refine wq_iload C rfl dL_areLinks_131 ?_
            refine wq_if_lt C 218 (by omega) (by decide) dL_areLinks_133 (fun hc133 => ?_) (fun hc133 => ?_)
            · skip
              exfalso; omega
            · skip
              refine wq_iload C rfl dL_areLinks_136 ?_
              refine wq_if_lt C 218 (by omega) (by decide) dL_areLinks_138 (fun hc138 => ?_) (fun hc138 => ?_)
              · skip
                exfalso; omega
              · skip
                refine wq_iload C rfl dL_areLinks_141 ?_
                refine wq_iconst C dL_areLinks_143 ?_
                refine wq_icmp_gt C 218 (by omega) (by omega) (by decide) dL_areLinks_144 (fun hc144 => ?_) (fun hc144 => ?_)
                · skip
                  exfalso; omega
                · skip
                  refine wq_iload C rfl dL_areLinks_147 ?_
                  refine wq_if_lt C 218 (by omega) (by decide) dL_areLinks_149 (fun hc149 => ?_) (fun hc149 => ?_)
                  · skip
                    exfalso; omega
                  · skip
                    refine wq_iload C rfl dL_areLinks_152 ?_
                    refine wq_iconst C dL_areLinks_154 ?_
                    refine wq_icmp_gt C 218 (by omega) (by omega) (by decide) dL_areLinks_155 (fun hc155 => ?_) (fun hc155 => ?_)
                    · skip
                      exfalso; omega
                    · skip
                      refine wq_aload_n C rfl dL_areLinks_158 ?_
                      refine wq_iload C rfl dL_areLinks_159 ?_
                      refine wq_cI C (av := [.inl (((k : Nat) : Int))]) (index := 63) (z_X5_upCredits l g (lC_inj hI) σ (((k : Nat) : Int)) S (48 * S 19 3) hC hS (by omega)) (cwV 1 C.1.2.2.2.2 gL_areLinks_X5_upCredits rfl rfl rfl (by decide +kernel) ⟨Nat.le_of_ble_eq_true rfl, Nat.le_of_ble_eq_true rfl⟩) rfl rfl (Nat.le_of_ble_eq_true rfl) dL_areLinks_161 ⟨(by show k + 0 ≤ 16; omega), (by show 6 * k + 0 ≤ 96; omega)⟩ (fun r161 σ161 hp161 => ?_)
                      obtain ⟨hsg161, hr161⟩ := hp161
                      rw [hsg161, l_mix_s]
                      obtain rfl : r161 = S 13 k := hr161.trans (by first | rfl | (congr 1; omega))
                      refine wq_if_lt C 218 (by omega) (by decide) dL_areLinks_164 (fun hc164 => ?_) (fun hc164 => ?_)
                      · skip
                        exfalso; omega
                      · skip
                        refine wq_aload_n C rfl dL_areLinks_167 ?_
                        refine wq_iload C rfl dL_areLinks_168 ?_
                        refine wq_iconst C dL_areLinks_170 ?_
                        refine wq_idiv C (by omega) (by omega) dL_areLinks_171 ?_
                        refine wq_iload C rfl dL_areLinks_172 ?_
                        refine wq_iconst C dL_areLinks_174 ?_
                        refine wq_irem C (by omega) (by omega) dL_areLinks_175 ?_
                        refine wq_cI C (av := [.inl ((((k : Nat) : Int)) / (4)), .inl ((((k : Nat) : Int)) % (4))]) (index := 75) (z_X5_northCredits l g (lC_inj hI) σ ((((k : Nat) : Int)) / (4)) ((((k : Nat) : Int)) % (4)) S (48 * S 19 3) hC hS (by omega)) (cwV 2 C.1.2.2.2.2 gL_areLinks_X5_northCredits rfl rfl rfl (by decide +kernel) ⟨Nat.le_of_ble_eq_true rfl, Nat.le_of_ble_eq_true rfl⟩) rfl rfl (Nat.le_of_ble_eq_true rfl) dL_areLinks_176 ⟨(by show k + 0 ≤ 16; omega), (by show 6 * k + 0 ≤ 96; omega)⟩ (fun r176 σ176 hp176 => ?_)
                        obtain ⟨hsg176, hr176⟩ := hp176
                        rw [hsg176, l_mix_s]
                        obtain rfl : r176 = S 13 (32 + k) := hr176.trans (by first | rfl | (congr 1; omega))
                        refine wq_if_lt C 218 (by omega) (by decide) dL_areLinks_179 (fun hc179 => ?_) (fun hc179 => ?_)
                        · skip
                          exfalso; omega
                        · skip
                          refine wq_iload C rfl dL_areLinks_182 ?_
                          refine wq_aload_n C rfl dL_areLinks_184 ?_
                          refine wq_iload C rfl dL_areLinks_185 ?_
                          refine wq_cI C (av := [.inl (((k : Nat) : Int))]) (index := 63) (z_X5_upCredits l g (lC_inj hI) σ (((k : Nat) : Int)) S (48 * S 19 3) hC hS (by omega)) (cwV 1 C.1.2.2.2.2 gL_areLinks_X5_upCredits rfl rfl rfl (by decide +kernel) ⟨Nat.le_of_ble_eq_true rfl, Nat.le_of_ble_eq_true rfl⟩) rfl rfl (Nat.le_of_ble_eq_true rfl) dL_areLinks_187 ⟨(by show k + 0 ≤ 16; omega), (by show 6 * k + 0 ≤ 96; omega)⟩ (fun r187 σ187 hp187 => ?_)
                          obtain ⟨hsg187, hr187⟩ := hp187
                          rw [hsg187, l_mix_s]
                          obtain rfl : r187 = S 13 k := hr187.trans (by first | rfl | (congr 1; omega))
                          refine wq_iadd C dL_areLinks_190 ?_
                          refine wq_iconst C dL_areLinks_191 ?_
                          refine wq_icmp_gt C 218 (by omega) (by omega) (by decide) dL_areLinks_192 (fun hc192 => ?_) (fun hc192 => ?_)
                          · skip
                            exfalso; omega
                          · skip
                            refine wq_iload C rfl dL_areLinks_195 ?_
                            refine wq_aload_n C rfl dL_areLinks_197 ?_
                            refine wq_iload C rfl dL_areLinks_198 ?_
                            refine wq_iconst C dL_areLinks_200 ?_
                            refine wq_idiv C (by omega) (by omega) dL_areLinks_201 ?_
                            refine wq_iload C rfl dL_areLinks_202 ?_
                            refine wq_iconst C dL_areLinks_204 ?_
                            refine wq_irem C (by omega) (by omega) dL_areLinks_205 ?_
                            refine wq_cI C (av := [.inl ((((k : Nat) : Int)) / (4)), .inl ((((k : Nat) : Int)) % (4))]) (index := 75) (z_X5_northCredits l g (lC_inj hI) σ ((((k : Nat) : Int)) / (4)) ((((k : Nat) : Int)) % (4)) S (48 * S 19 3) hC hS (by omega)) (cwV 2 C.1.2.2.2.2 gL_areLinks_X5_northCredits rfl rfl rfl (by decide +kernel) ⟨Nat.le_of_ble_eq_true rfl, Nat.le_of_ble_eq_true rfl⟩) rfl rfl (Nat.le_of_ble_eq_true rfl) dL_areLinks_206 ⟨(by show k + 0 ≤ 16; omega), (by show 6 * k + 0 ≤ 96; omega)⟩ (fun r206 σ206 hp206 => ?_)
                            obtain ⟨hsg206, hr206⟩ := hp206
                            rw [hsg206, l_mix_s]
                            obtain rfl : r206 = S 13 (32 + k) := hr206.trans (by first | rfl | (congr 1; omega))
                            refine wq_iadd C dL_areLinks_209 ?_
                            refine wq_iconst C dL_areLinks_210 ?_
                            refine wq_icmp_gt C 218 (by omega) (by omega) (by decide) dL_areLinks_211 (fun hc211 => ?_) (fun hc211 => ?_)
                            · skip
                              exfalso; omega
                            · skip
                              refine wq_iconst C dL_areLinks_214 ?_
                              refine wq_goto C 219 (by decide) dL_areLinks_215 ?_
                              refine wq_istore C (by decide) (Nat.le_of_ble_eq_true rfl) rfl dL_areLinks_219 ?_
                              refine wq_iload C rfl dL_areLinks_221 ?_
                              refine wq_if_eq C 346 (by omega) (by decide) dL_areLinks_223 (fun hc223 => ?_) (fun hc223 => ?_)
                              · skip
                                exfalso; omega
                              · skip
                                refine wq_iload C rfl dL_areLinks_226 ?_
                                refine wq_iconst C dL_areLinks_228 ?_
                                refine wq_idiv C (by omega) (by omega) dL_areLinks_229 ?_
                                refine wq_iload C rfl dL_areLinks_230 ?_
                                refine wq_iconst C dL_areLinks_232 ?_
                                refine wq_irem C (by omega) (by omega) dL_areLinks_233 ?_
                                refine wq_icmp_eq C 346 (by omega) (by omega) (by decide) dL_areLinks_234 (fun hc234 => ?_) (fun hc234 => ?_)
                                · skip
                                  refine wq_iload C rfl dL_areLinks_346 ?_
                                  refine wq_if_eq C 374 (by omega) (by decide) dL_areLinks_348 (fun hc348 => ?_) (fun hc348 => ?_)
                                  · skip
                                    exfalso; omega
                                  · skip
                                    refine wq_aload_n C rfl dL_areLinks_351 ?_
                                    refine wq_bipush C (n := 7) (by decide) dL_areLinks_352 ?_
                                    refine wq_iload C rfl dL_areLinks_354 ?_
                                    refine wq_iconst C dL_areLinks_356 ?_
                                    refine wq_idiv C (by omega) (by omega) dL_areLinks_357 ?_
                                    refine wq_iload C rfl dL_areLinks_358 ?_
                                    refine wq_iconst C dL_areLinks_360 ?_
                                    refine wq_idiv C (by omega) (by omega) dL_areLinks_361 ?_
                                    refine wq_sW C (av := [.ref ((g.2.2 0 0)), qi (7), qi ((((k : Nat) : Int)) / (4)), qi ((((k : Nat) : Int)) / (4))]) (index := 151) (w_ask l hl g hI σ 7 _ _ (by omega) (by omega) (by omega) S (48 * S 19 3) hC hS (Or.inr (Or.inr ⟨rfl, fun z => z.2.2 rfl⟩))) (vx_cwSW 4 C.1.2.2.2.2 gL_areLinks_L_ask rfl rfl rfl (by decide +kernel) ⟨Nat.le_of_ble_eq_true rfl, Nat.le_of_ble_eq_true rfl⟩) rfl rfl (Nat.le_of_ble_eq_true rfl) dL_areLinks_362 ⟨(by show k + 1 ≤ 16; omega), (by show 6 * k + 6 ≤ 96; omega)⟩ (fun r362 σ362 hp362 => ?_)
                                    obtain ⟨hsg362, rfl⟩ := hp362
                                    rw [hsg362]
                                    refine wq_bipush C (n := -62) (by decide) dL_areLinks_365 ?_
                                    refine wq_icmp_ne C 374 (by omega) (by omega) (by decide) dL_areLinks_367 (fun hc367 => ?_) (fun hc367 => ?_)
                                    · skip
                                      exfalso; omega
                                    · skip
                                      refine wq_iconst C dL_areLinks_370 ?_
                                      refine wq_goto C 375 (by decide) dL_areLinks_371 ?_
                                      refine wq_istore C (by decide) (Nat.le_of_ble_eq_true rfl) rfl dL_areLinks_375 ?_
                                      refine wq_iinc C rfl (by decide) rfl dL_areLinks_377 ?_
                                      refine wq_goto C 13 (by decide) dL_areLinks_380 ?_
                                      refine wq_wide (c1 := k + 1) (s1 := 6 * (k + 1)) (by omega) (by omega) ?_
                                      refine wq_lz (lw := [some (.ref ((g.2.2 0 0))), some (.ref ((g.2.2 61 0))), some (qi (am_sum (fun k => lq S k) (k + 1))), some (qi (am_sum (fun k => S 16 k) (k + 1))), some (qi (am_sum (fun k => lw S k) (k + 1))), some (qi (1)), some (qi ((((k + 1) : Nat) : Int))), none, none, none, none, none, none]) ?_ (ihk (k + 1) (by omega) (by omega))
                                      repeat (first | exact lz_0 | refine lz_s ?_ | refine lz_n ?_)
                                · skip
                                  refine wq_iconst C dL_areLinks_237 ?_
                                  refine wq_istore C (by decide) (Nat.le_of_ble_eq_true rfl) rfl dL_areLinks_238 ?_
                                  refine wq_iconst C dL_areLinks_240 ?_
                                  refine wq_istore C (by decide) (Nat.le_of_ble_eq_true rfl) rfl dL_areLinks_241 ?_
                                  have hl243 : ∀ (dx x : Nat), 5 ≤ x + dx → x ≤ 4 → wq g p l e (headSpec wsL_areLinks ({ frames := 9, cells := 16, slots := 96, locals := 149 })).room s m ([.ref ((g.2.2 0 0)), .ref ((g.2.2 61 0))] : List Value).toArray below meth c (k) (6 * k) (MQ below (lQ g (fun r σ' => σ' = σ ∧ r = 1)) ([.ref ((g.2.2 0 0)), .ref ((g.2.2 61 0))] : List Value).toArray s 16 96 (am_FA (gL g))) (am_FA (gL g)) 13 243 [some (.ref ((g.2.2 0 0))), some (.ref ((g.2.2 61 0))), some (qi (am_sum (fun k => lq S k) (k + 1))), some (qi (am_sum (fun k => S 16 k) (k + 1))), some (qi (am_sum (fun k => lw S k) (k + 1))), some (qi (1)), some (qi (((k : Nat) : Int))), some (qi (S 14 k)), some (qi (S 14 (32 + k))), some (qi (S 14 (16 + k))), some (qi (S 14 (48 + k))), some (qi (lset S (k / 4) (k % 4) x)), some (qi (((x : Nat) : Int)))] [] σ := by
                                    intro dx
                                    induction dx with
                                    | zero => intro x h1 h2; omega
                                    | succ dx ihx =>
                                      intro x h1x h2x
                                      refine wq_iload C rfl dL_areLinks_243 ?_
                                      refine wq_iconst C dL_areLinks_245 ?_
                                      refine wq_icmp_ge C 302 (by omega) (by omega) (by decide) dL_areLinks_246 (fun hc246 => ?_) (fun hc246 => ?_)
                                      · skip
                                        obtain rfl : x = 4 := by omega
                                        rw [lset_4]
                                        refine wq_aload_n C rfl dL_areLinks_302 ?_
                                        refine wq_iload C rfl dL_areLinks_303 ?_
                                        refine wq_iconst C dL_areLinks_305 ?_
                                        refine wq_idiv C (by omega) (by omega) dL_areLinks_306 ?_
                                        refine wq_iload C rfl dL_areLinks_307 ?_
                                        refine wq_iconst C dL_areLinks_309 ?_
                                        refine wq_irem C (by omega) (by omega) dL_areLinks_310 ?_
                                        refine wq_cI C (av := [.inl ((((k : Nat) : Int)) / (4)), .inl ((((k : Nat) : Int)) % (4))]) (index := 78) (z_X5_usable l g (lC_inj hI) σ ((((k : Nat) : Int)) / (4)) ((((k : Nat) : Int)) % (4)) S (48 * S 19 3) hC hS (by omega)) (cwV 2 C.1.2.2.2.2 gL_areLinks_X5_usable rfl rfl rfl (by decide +kernel) ⟨Nat.le_of_ble_eq_true rfl, Nat.le_of_ble_eq_true rfl⟩) rfl rfl (Nat.le_of_ble_eq_true rfl) dL_areLinks_311 ⟨(by show k + 0 ≤ 16; omega), (by show 6 * k + 0 ≤ 96; omega)⟩ (fun r311 σ311 hp311 => ?_)
                                        obtain ⟨hsg311, hr311⟩ := hp311
                                        rw [hsg311, l_mix_s]
                                        obtain rfl : r311 = ab_um S (k / 4) (k % 4) := hr311.trans (by first | rfl | (congr 1; omega))
                                        refine wq_iload C rfl dL_areLinks_314 ?_
                                        refine wq_icmp_ne C 340 (by omega) (by omega) (by decide) dL_areLinks_316 (fun hc316 => ?_) (fun hc316 => ?_)
                                        · skip
                                          exfalso; omega
                                        · skip
                                          refine wq_aload_n C rfl dL_areLinks_319 ?_
                                          refine wq_iload C rfl dL_areLinks_320 ?_
                                          refine wq_iconst C dL_areLinks_322 ?_
                                          refine wq_irem C (by omega) (by omega) dL_areLinks_323 ?_
                                          refine wq_iload C rfl dL_areLinks_324 ?_
                                          refine wq_iconst C dL_areLinks_326 ?_
                                          refine wq_idiv C (by omega) (by omega) dL_areLinks_327 ?_
                                          refine wq_cI C (av := [.inl ((((k : Nat) : Int)) % (4)), .inl ((((k : Nat) : Int)) / (4))]) (index := 78) (z_X5_usable l g (lC_inj hI) σ ((((k : Nat) : Int)) % (4)) ((((k : Nat) : Int)) / (4)) S (48 * S 19 3) hC hS (by omega)) (cwV 2 C.1.2.2.2.2 gL_areLinks_X5_usable rfl rfl rfl (by decide +kernel) ⟨Nat.le_of_ble_eq_true rfl, Nat.le_of_ble_eq_true rfl⟩) rfl rfl (Nat.le_of_ble_eq_true rfl) dL_areLinks_328 ⟨(by show k + 0 ≤ 16; omega), (by show 6 * k + 0 ≤ 96; omega)⟩ (fun r328 σ328 hp328 => ?_)
                                          obtain ⟨hsg328, hr328⟩ := hp328
                                          rw [hsg328, l_mix_s]
                                          obtain rfl : r328 = ab_um S (k % 4) (k / 4) := hr328.trans (by first | rfl | (congr 1; omega))
                                          rw [um_sym S (k / 4) (k % 4)]
                                          refine wq_iload C rfl dL_areLinks_331 ?_
                                          refine wq_icmp_ne C 340 (by omega) (by omega) (by decide) dL_areLinks_333 (fun hc333 => ?_) (fun hc333 => ?_)
                                          · skip
                                            exfalso; omega
                                          · skip
                                            refine wq_iconst C dL_areLinks_336 ?_
                                            refine wq_goto C 341 (by decide) dL_areLinks_337 ?_
                                            refine wq_istore C (by decide) (Nat.le_of_ble_eq_true rfl) rfl dL_areLinks_341 ?_
                                            refine wq_goto C 377 (by decide) dL_areLinks_343 ?_
                                            refine wq_iinc C rfl (by decide) rfl dL_areLinks_377 ?_
                                            refine wq_goto C 13 (by decide) dL_areLinks_380 ?_
                                            refine wq_wide (c1 := k + 1) (s1 := 6 * (k + 1)) (by omega) (by omega) ?_
                                            refine wq_lz (lw := [some (.ref ((g.2.2 0 0))), some (.ref ((g.2.2 61 0))), some (qi (am_sum (fun k => lq S k) (k + 1))), some (qi (am_sum (fun k => S 16 k) (k + 1))), some (qi (am_sum (fun k => lw S k) (k + 1))), some (qi (1)), some (qi ((((k + 1) : Nat) : Int))), none, none, none, none, none, none]) ?_ (ihk (k + 1) (by omega) (by omega))
                                            repeat (first | exact lz_0 | refine lz_s ?_ | refine lz_n ?_)
                                      · skip
                                        have hu1 : (ub S (4 * (k / 4) + x)).toNat ≤ 1 := by cases ub S (4 * (k / 4) + x) <;> decide
                                        have hu2 : (ub S (4 * (k % 4) + x)).toNat ≤ 1 := by cases ub S (4 * (k % 4) + x) <;> decide
                                        refine wq_iload C rfl dL_areLinks_249 ?_
                                        refine wq_aload_n C rfl dL_areLinks_251 ?_
                                        refine wq_iconst C dL_areLinks_252 ?_
                                        refine wq_iald C (k := 61) (n := 4) rfl (by decide) (by decide) (3) rfl (by omega) dL_areLinks_253 ?_
                                        rw [hm3]
                                        refine wq_iload C rfl dL_areLinks_254 ?_
                                        refine wq_iconst C dL_areLinks_256 ?_
                                        refine wq_idiv C (by omega) (by omega) dL_areLinks_257 ?_
                                        refine wq_iconst C dL_areLinks_258 ?_
                                        refine wq_imul C dL_areLinks_259 ?_
                                        refine wq_iload C rfl dL_areLinks_260 ?_
                                        refine wq_iadd C dL_areLinks_262 ?_
                                        refine wq_ishr C (((lcm S / 2 ^ (4 * (k / 4) + x) : Nat) : Int)) (by rw [show ((((k : Nat) : Int) / 4) * 4 + ((x : Nat) : Int)) = ((4 * (k / 4) + x : Nat) : Int) by omega]; exact l_shr (Nat.lt_trans (lcm_lt S) (by decide)) (by omega)) dL_areLinks_263 ?_
                                        refine wq_iconst C dL_areLinks_264 ?_
                                        refine wq_iand C ((((ub S (4 * (k / 4) + x)).toNat : Nat) : Int)) ((l_mask (lcm S / 2 ^ (4 * (k / 4) + x)) 1).trans (congrArg (fun n : Nat => Int32.ofInt (n : Int)) (lm_bit (u := ub S) (q := 4 * (k / 4) + x) (by omega)))) dL_areLinks_265 ?_
                                        refine wq_aload_n C rfl dL_areLinks_266 ?_
                                        refine wq_iconst C dL_areLinks_267 ?_
                                        refine wq_iald C (k := 61) (n := 4) rfl (by decide) (by decide) (3) rfl (by omega) dL_areLinks_268 ?_
                                        rw [hm3]
                                        refine wq_iload C rfl dL_areLinks_269 ?_
                                        refine wq_iconst C dL_areLinks_271 ?_
                                        refine wq_irem C (by omega) (by omega) dL_areLinks_272 ?_
                                        refine wq_iconst C dL_areLinks_273 ?_
                                        refine wq_imul C dL_areLinks_274 ?_
                                        refine wq_iload C rfl dL_areLinks_275 ?_
                                        refine wq_iadd C dL_areLinks_277 ?_
                                        refine wq_ishr C (((lcm S / 2 ^ (4 * (k % 4) + x) : Nat) : Int)) (by rw [show ((((k : Nat) : Int) % 4) * 4 + ((x : Nat) : Int)) = ((4 * (k % 4) + x : Nat) : Int) by omega]; exact l_shr (Nat.lt_trans (lcm_lt S) (by decide)) (by omega)) dL_areLinks_278 ?_
                                        refine wq_iconst C dL_areLinks_279 ?_
                                        refine wq_iand C ((((ub S (4 * (k % 4) + x)).toNat : Nat) : Int)) ((l_mask (lcm S / 2 ^ (4 * (k % 4) + x)) 1).trans (congrArg (fun n : Nat => Int32.ofInt (n : Int)) (lm_bit (u := ub S) (q := 4 * (k % 4) + x) (by omega)))) dL_areLinks_280 ?_
                                        refine wq_iadd C dL_areLinks_281 ?_
                                        refine wq_if_ne C 292 (by omega) (by decide) dL_areLinks_282 (fun hc282 => ?_) (fun hc282 => ?_)
                                        · skip
                                          refine wq_iconst C dL_areLinks_292 ?_
                                          refine wq_iadd C dL_areLinks_293 ?_
                                          refine wq_istore C (by decide) (Nat.le_of_ble_eq_true rfl) rfl dL_areLinks_294 ?_
                                          refine wq_iinc C rfl (by decide) rfl dL_areLinks_296 ?_
                                          refine wq_goto C 243 (by decide) dL_areLinks_299 ?_
                                          have hag : (lset S (k / 4) (k % 4) x) + (0) = lset S (k / 4) (k % 4) (x + 1) := by
                                            unfold lset
                                            rw [am_sum]
                                            first | rw [us_f hc282] | rw [us_t hc282]
                                            rfl
                                          rw [hag]
                                          exact ihx (x + 1) (by omega) (by omega)
                                        · skip
                                          refine wq_iconst C dL_areLinks_285 ?_
                                          refine wq_iload C rfl dL_areLinks_286 ?_
                                          refine wq_ishl C (((2 ^ x : Nat) : Int)) (l_pow (by omega)) dL_areLinks_288 ?_
                                          refine wq_goto C 293 (by decide) dL_areLinks_289 ?_
                                          refine wq_iadd C dL_areLinks_293 ?_
                                          refine wq_istore C (by decide) (Nat.le_of_ble_eq_true rfl) rfl dL_areLinks_294 ?_
                                          refine wq_iinc C rfl (by decide) rfl dL_areLinks_296 ?_
                                          refine wq_goto C 243 (by decide) dL_areLinks_299 ?_
                                          have hag : (lset S (k / 4) (k % 4) x) + (((2 ^ x : Nat) : Int)) = lset S (k / 4) (k % 4) (x + 1) := by
                                            unfold lset
                                            rw [am_sum]
                                            first | rw [us_f hc282] | rw [us_t hc282]
                                            rfl
                                          rw [hag]
                                          exact ihx (x + 1) (by omega) (by omega)
                                  exact hl243 (5) 0 (by omega) (by omega)
  exact hl13 17 0 (by omega) (by omega)

set_option maxRecDepth 100000 in
set_option maxHeartbeats 4000000 in
theorem w_isLeast (l : Launch) (hl : l.stackTraces = false) (g : am_g) (hI : am_inj (gL g)) (σ : am_M)  (S : ab_S) (hw : lW S σ) : Met l yL_isLeast wsL_isLeast ({ frames := 4, cells := 0, slots := 0, locals := 87 }) (lP g σ [.ref ((g.2.2 0 0)), .ref ((g.2.2 60 0)), .ref ((g.2.2 61 0))]) (lQ g (fun r σ' => σ' = σ ∧ r = 1)) 0 0 (am_FA (gL g)) := by
  refine wq_start (cc := cL_isLeast) (nL := 10) (ret := (some .boolean)) (by decide) rfl hI rfl (fun v hv => by simp only [List.mem_cons, List.not_mem_nil, or_false] at hv; rcases hv with rfl | rfl | rfl <;> rfl) (Nat.le_of_ble_eq_true rfl) ?_
  intro p e s m below meth c C hr hlk
  change wq g p l e (headSpec wsL_isLeast ({ frames := 4, cells := 0, slots := 0, locals := 87 })).room s m ([.ref ((g.2.2 0 0)), .ref ((g.2.2 60 0)), .ref ((g.2.2 61 0))] : List Value).toArray below meth c (0) (0) (MQ below (lQ g (fun r σ' => σ' = σ ∧ r = 1)) ([.ref ((g.2.2 0 0)), .ref ((g.2.2 60 0)), .ref ((g.2.2 61 0))] : List Value).toArray s 0 0 (am_FA (gL g))) (am_FA (gL g)) 10 0 [some (.ref ((g.2.2 0 0))), some (.ref ((g.2.2 60 0))), some (.ref ((g.2.2 61 0))), none, none, none, none, none, none, none] [] σ
  obtain ⟨hC, hS, hJ, hp, hcl, hfn, hm0, hm1, hm2, hm3⟩ := id hw
  have hn24 := hS.2.1.2.2.2.2
  have hn : ((ab_n S : Nat) : Int) = S 19 4 := Int.toNat_of_nonneg hn24.1
  have hc0 := hS.2.1.2.2.2.1
  have hwd := hS.2.1.2.2.1
  have hdl := hS.2.1.1
  refine wq_aload_n C rfl dL_isLeast_0 ?_
  refine wq_cI C (av := []) (index := 155) (c_X5_leastTicks l g (lC_inj hI) σ S (48 * S 19 3) hC hS hJ (by omega)) (cwV 0 C.1.2.2.2.2 gL_isLeast_X5_leastTicks rfl rfl rfl (by decide +kernel) ⟨Nat.le_of_ble_eq_true rfl, Nat.le_of_ble_eq_true rfl⟩) rfl rfl (Nat.le_of_ble_eq_true rfl) dL_isLeast_1 ⟨(Nat.le_of_ble_eq_true rfl), (Nat.le_of_ble_eq_true rfl)⟩ (fun r1 σ1 hp1 => ?_)
  obtain ⟨hsg1, hr1⟩ := hp1
  rw [hsg1, l_mix_s]
  obtain rfl : r1 = ab_least S := hr1.trans (by first | rfl | (congr 1; omega))
  refine wq_istore_n C (by decide) (Nat.le_of_ble_eq_true rfl) rfl dL_isLeast_4 ?_
  refine wq_iconst C dL_isLeast_5 ?_
  refine wq_istore C (by decide) (Nat.le_of_ble_eq_true rfl) rfl dL_isLeast_6 ?_
  refine wq_iconst C dL_isLeast_8 ?_
  refine wq_istore C (by decide) (Nat.le_of_ble_eq_true rfl) rfl dL_isLeast_9 ?_
  refine wq_iconst C dL_isLeast_11 ?_
  refine wq_istore C (by decide) (Nat.le_of_ble_eq_true rfl) rfl dL_isLeast_12 ?_
  refine wq_iconst C dL_isLeast_14 ?_
  refine wq_istore C (by decide) (Nat.le_of_ble_eq_true rfl) rfl dL_isLeast_15 ?_
  have hl17 : ∀ (dk k : Nat), ab_n S + 1 ≤ k + dk → k ≤ ab_n S → wq g p l e (headSpec wsL_isLeast ({ frames := 4, cells := 0, slots := 0, locals := 87 })).room s m ([.ref ((g.2.2 0 0)), .ref ((g.2.2 60 0)), .ref ((g.2.2 61 0))] : List Value).toArray below meth c (0) (0) (MQ below (lQ g (fun r σ' => σ' = σ ∧ r = 1)) ([.ref ((g.2.2 0 0)), .ref ((g.2.2 60 0)), .ref ((g.2.2 61 0))] : List Value).toArray s 0 0 (am_FA (gL g))) (am_FA (gL g)) 10 17 [some (.ref ((g.2.2 0 0))), some (.ref ((g.2.2 60 0))), some (.ref ((g.2.2 61 0))), some (qi (ab_least S)), some (qi (ts S k)), some (qi (mx S k)), some (qi (ab_1 (br S k))), some (qi (((k : Nat) : Int))), none, none] [] σ := by
    intro dk
    induction dk with
    | zero => intro k h1 h2; omega
    | succ dk ihk =>
      intro k h1k h2k
      refine wq_iload C rfl dL_isLeast_17 ?_
      refine wq_aload_n C rfl dL_isLeast_19 ?_
      refine wq_cI C (av := []) (index := 92) (c_X5_flows l g (lC_inj hI) σ S (48 * S 19 3) hC hS) (cwV 0 C.1.2.2.2.2 gL_isLeast_X5_flows rfl rfl rfl (by decide +kernel) ⟨Nat.le_of_ble_eq_true rfl, Nat.le_of_ble_eq_true rfl⟩) rfl rfl (Nat.le_of_ble_eq_true rfl) dL_isLeast_20 ⟨(Nat.le_of_ble_eq_true rfl), (Nat.le_of_ble_eq_true rfl)⟩ (fun r20 σ20 hp20 => ?_)
      obtain ⟨hsg20, hr20⟩ := hp20
      rw [hsg20, l_mix_s]
      obtain rfl : r20 = S 19 4 := hr20.trans (by first | rfl | (congr 1; omega))
      refine wq_icmp_ge C 159 (by omega) (by omega) (by decide) dL_isLeast_23 (fun hc23 => ?_) (fun hc23 => ?_)
      · skip
        obtain rfl : k = ab_n S := by omega
        have ht := ts_r hw
        have hm := mx_r hw (Nat.le_refl (ab_n S))
        have hlt := least_t hS hJ (by omega)
        have r1 := ab_1r (br S (ab_n S))
        have hlr : -1 ≤ ab_least S ∧ ab_least S ≤ 7200000 := by
          cases hb : br S (ab_n S) with
          | true => have := hlt.1 hb; omega
          | false => have := hlt.2 hb; omega
        refine wq_iload C rfl dL_isLeast_159 ?_
        refine wq_if_eq C 177 (by omega) (by decide) dL_isLeast_161 (fun hc161 => ?_) (fun hc161 => ?_)
        · skip
          have hb : br S (ab_n S) = false := by
            cases h : br S (ab_n S) with
            | true => rw [h] at hc161; exact absurd hc161 (by decide)
            | false => rfl
          obtain ⟨z1, z2, z3⟩ := hlt.2 hb
          have z4 : (ab_least S = 0 ∧ ts S (ab_n S) = 0) ∨ (¬ ab_least S = 0 ∧ ¬ ts S (ab_n S) = 0) := by
            by_cases y : ab_least S = 0
            · exact Or.inl ⟨y, z3.mp y⟩
            · exact Or.inr ⟨y, fun w => y (z3.mpr w)⟩
          refine wq_iload_n C rfl dL_isLeast_177 ?_
          refine wq_iload C rfl dL_isLeast_178 ?_
          refine wq_icmp_lt C 215 (by omega) (by omega) (by decide) dL_isLeast_180 (fun hc180 => ?_) (fun hc180 => ?_)
          · skip
            exfalso; omega
          · skip
            refine wq_iload_n C rfl dL_isLeast_183 ?_
            refine wq_iload C rfl dL_isLeast_184 ?_
            refine wq_icmp_gt C 215 (by omega) (by omega) (by decide) dL_isLeast_186 (fun hc186 => ?_) (fun hc186 => ?_)
            · skip
              exfalso; omega
            · skip
              refine wq_iload_n C rfl dL_isLeast_189 ?_
              refine wq_if_ne C 197 (by omega) (by decide) dL_isLeast_190 (fun hc190 => ?_) (fun hc190 => ?_)
              · skip
                refine wq_iconst C dL_isLeast_197 ?_
                refine wq_iload C rfl dL_isLeast_198 ?_
                refine wq_if_ne C 207 (by omega) (by decide) dL_isLeast_200 (fun hc200 => ?_) (fun hc200 => ?_)
                · skip
                  refine wq_iconst C dL_isLeast_207 ?_
                  refine wq_icmp_ne C 215 (by omega) (by omega) (by decide) dL_isLeast_208 (fun hc208 => ?_) (fun hc208 => ?_)
                  · skip
                    exfalso; omega
                  · skip
                    refine wq_iconst C dL_isLeast_211 ?_
                    refine wq_goto C 216 (by decide) dL_isLeast_212 ?_
                    refine wq_zret C hr hlk (Nat.le_of_ble_eq_true rfl) (Nat.le_of_ble_eq_true rfl) (by omega) dL_isLeast_216 ?_
                    exact ⟨rfl, rfl⟩
                · skip
                  refine wq_iconst C dL_isLeast_203 ?_
                  refine wq_goto C 208 (by decide) dL_isLeast_204 ?_
                  refine wq_icmp_ne C 215 (by omega) (by omega) (by decide) dL_isLeast_208 (fun hc208 => ?_) (fun hc208 => ?_)
                  · skip
                    exfalso; omega
                  · skip
                    refine wq_iconst C dL_isLeast_211 ?_
                    refine wq_goto C 216 (by decide) dL_isLeast_212 ?_
                    refine wq_zret C hr hlk (Nat.le_of_ble_eq_true rfl) (Nat.le_of_ble_eq_true rfl) (by omega) dL_isLeast_216 ?_
                    exact ⟨rfl, rfl⟩
              · skip
                refine wq_iconst C dL_isLeast_193 ?_
                refine wq_goto C 198 (by decide) dL_isLeast_194 ?_
                refine wq_iload C rfl dL_isLeast_198 ?_
                refine wq_if_ne C 207 (by omega) (by decide) dL_isLeast_200 (fun hc200 => ?_) (fun hc200 => ?_)
                · skip
                  refine wq_iconst C dL_isLeast_207 ?_
                  refine wq_icmp_ne C 215 (by omega) (by omega) (by decide) dL_isLeast_208 (fun hc208 => ?_) (fun hc208 => ?_)
                  · skip
                    exfalso; omega
                  · skip
                    refine wq_iconst C dL_isLeast_211 ?_
                    refine wq_goto C 216 (by decide) dL_isLeast_212 ?_
                    refine wq_zret C hr hlk (Nat.le_of_ble_eq_true rfl) (Nat.le_of_ble_eq_true rfl) (by omega) dL_isLeast_216 ?_
                    exact ⟨rfl, rfl⟩
                · skip
                  refine wq_iconst C dL_isLeast_203 ?_
                  refine wq_goto C 208 (by decide) dL_isLeast_204 ?_
                  refine wq_icmp_ne C 215 (by omega) (by omega) (by decide) dL_isLeast_208 (fun hc208 => ?_) (fun hc208 => ?_)
                  · skip
                    exfalso; omega
                  · skip
                    refine wq_iconst C dL_isLeast_211 ?_
                    refine wq_goto C 216 (by decide) dL_isLeast_212 ?_
                    refine wq_zret C hr hlk (Nat.le_of_ble_eq_true rfl) (Nat.le_of_ble_eq_true rfl) (by omega) dL_isLeast_216 ?_
                    exact ⟨rfl, rfl⟩
        · skip
          have hb : br S (ab_n S) = true := by
            cases h : br S (ab_n S) with
            | true => rfl
            | false => rw [h] at hc161; exact absurd (show ab_1 false = 0 from rfl) hc161
          have z1 := hlt.1 hb
          refine wq_iload_n C rfl dL_isLeast_164 ?_
          refine wq_iconst C dL_isLeast_165 ?_
          refine wq_icmp_ne C 173 (by omega) (by omega) (by decide) dL_isLeast_166 (fun hc166 => ?_) (fun hc166 => ?_)
          · skip
            exfalso; omega
          · skip
            refine wq_iconst C dL_isLeast_169 ?_
            refine wq_goto C 216 (by decide) dL_isLeast_170 ?_
            refine wq_zret C hr hlk (Nat.le_of_ble_eq_true rfl) (Nat.le_of_ble_eq_true rfl) (by omega) dL_isLeast_216 ?_
            exact ⟨rfl, rfl⟩
      · skip
        have hkn : k < ab_n S := by omega
        have hk : ((k : Nat) : Int) < S 19 4 := by omega
        obtain ⟨e0, e1, e2, e3, -⟩ := enc_f hw hk
        have i := hS.2.2.1 k hk
        have hlb := ab_lbv i
        unfold ab_If at i
        obtain ⟨-, -, -, -, i4, i5, i6, -⟩ := i
        have ht := tos_r hw hkn
        have hm := mx_r hw (k := k) (by omega)
        have sA := sh_t hS hlb.2.2.2
        have sB := sh_t hS hlb.2.1
        have dA : lcm S / 2 ^ (4 * ab_la S k) % 16 < 16 := Nat.mod_lt _ (by decide)
        have dB : lcm S / 2 ^ (4 * ab_lb S k) % 16 < 16 := Nat.mod_lt _ (by decide)
        have r1 := ab_1r (br S k)
        have r2 := ab_1r (ab_far S k)
        have r3 := ab_1r (shut S (ab_la S k) || shut S (ab_lb S k))
        refine wq_aload_n C rfl dL_isLeast_26 ?_
        refine wq_iload C rfl dL_isLeast_27 ?_
        refine wq_sI C (av := [.ref ((g.2.2 60 0)), qi (((k : Nat) : Int))]) (index := 141) (w_packets l hl g hI σ k S hw hk) (va_cwS 2 C.1.2.2.2.2 gL_isLeast_L_packets rfl rfl rfl (by decide +kernel) ⟨Nat.le_of_ble_eq_true rfl, Nat.le_of_ble_eq_true rfl⟩) rfl rfl (Nat.le_of_ble_eq_true rfl) dL_isLeast_29 ⟨(Nat.le_of_ble_eq_true rfl), (Nat.le_of_ble_eq_true rfl)⟩ (fun r29 σ29 hp29 => ?_)
        obtain ⟨hsg29, rfl⟩ := hp29
        rw [hsg29]
        refine wq_aload_n C rfl dL_isLeast_32 ?_
        refine wq_iload C rfl dL_isLeast_33 ?_
        refine wq_cI C (av := [.inl (((k : Nat) : Int))]) (index := 34) (z_X5_sent l g (lC_inj hI) σ (((k : Nat) : Int)) S (48 * S 19 3) hC hS (by omega)) (cwV 1 C.1.2.2.2.2 gL_isLeast_X5_sent rfl rfl rfl (by decide +kernel) ⟨Nat.le_of_ble_eq_true rfl, Nat.le_of_ble_eq_true rfl⟩) rfl rfl (Nat.le_of_ble_eq_true rfl) dL_isLeast_35 ⟨(Nat.le_of_ble_eq_true rfl), (Nat.le_of_ble_eq_true rfl)⟩ (fun r35 σ35 hp35 => ?_)
        obtain ⟨hsg35, hr35⟩ := hp35
        rw [hsg35, l_mix_s]
        obtain rfl : r35 = S 4 k := hr35.trans (by first | rfl | (congr 1; omega))
        refine wq_isub C dL_isLeast_38 ?_
        refine wq_aload_n C rfl dL_isLeast_39 ?_
        refine wq_iload C rfl dL_isLeast_40 ?_
        refine wq_cI C (av := [.inl (((k : Nat) : Int))]) (index := 40) (z_X5_lost l g (lC_inj hI) σ (((k : Nat) : Int)) S (48 * S 19 3) hC hS (by omega)) (cwV 1 C.1.2.2.2.2 gL_isLeast_X5_lost rfl rfl rfl (by decide +kernel) ⟨Nat.le_of_ble_eq_true rfl, Nat.le_of_ble_eq_true rfl⟩) rfl rfl (Nat.le_of_ble_eq_true rfl) dL_isLeast_42 ⟨(Nat.le_of_ble_eq_true rfl), (Nat.le_of_ble_eq_true rfl)⟩ (fun r42 σ42 hp42 => ?_)
        obtain ⟨hsg42, hr42⟩ := hp42
        rw [hsg42, l_mix_s]
        obtain rfl : r42 = S 6 k := hr42.trans (by first | rfl | (congr 1; omega))
        refine wq_iadd C dL_isLeast_45 ?_
        rw [show S 2 k - S 4 k + S 6 k = ab_tos S k from by unfold ab_tos; omega]
        refine wq_istore C (by decide) (Nat.le_of_ble_eq_true rfl) rfl dL_isLeast_46 ?_
        have hj130 : ∀ bv : Int, bv = ab_1 (br S (k + 1)) → wq g p l e (headSpec wsL_isLeast ({ frames := 4, cells := 0, slots := 0, locals := 87 })).room s m ([.ref ((g.2.2 0 0)), .ref ((g.2.2 60 0)), .ref ((g.2.2 61 0))] : List Value).toArray below meth c (0) (0) (MQ below (lQ g (fun r σ' => σ' = σ ∧ r = 1)) ([.ref ((g.2.2 0 0)), .ref ((g.2.2 60 0)), .ref ((g.2.2 61 0))] : List Value).toArray s 0 0 (am_FA (gL g))) (am_FA (gL g)) 10 130 [some (.ref ((g.2.2 0 0))), some (.ref ((g.2.2 60 0))), some (.ref ((g.2.2 61 0))), some (qi (ab_least S)), some (qi (ts S k)), some (qi (mx S k)), some (qi (bv)), some (qi (((k : Nat) : Int))), some (qi (ab_tos S k)), none] [] σ := by
          intro bv hbv
          subst hbv
          refine wq_iload C rfl dL_isLeast_130 ?_
          refine wq_iload C rfl dL_isLeast_132 ?_
          refine wq_iadd C dL_isLeast_134 ?_
          refine wq_istore C (by decide) (Nat.le_of_ble_eq_true rfl) rfl dL_isLeast_135 ?_
          refine wq_iload C rfl dL_isLeast_137 ?_
          refine wq_iload C rfl dL_isLeast_139 ?_
          refine wq_icmp_le C 149 (by omega) (by omega) (by decide) dL_isLeast_141 (fun hc141 => ?_) (fun hc141 => ?_)
          · skip
            refine wq_iload C rfl dL_isLeast_149 ?_
            refine wq_istore C (by decide) (Nat.le_of_ble_eq_true rfl) rfl dL_isLeast_151 ?_
            refine wq_iinc C rfl (by decide) rfl dL_isLeast_153 ?_
            refine wq_goto C 17 (by decide) dL_isLeast_156 ?_
            have hag4 : (ts S k) + (ab_tos S k) = ts S (k + 1) := rfl
            rw [hag4]
            have hag5 : mx S k = mx S (k + 1) := by
              rw [mx]
              first | rw [if_pos (by omega)] | rw [if_neg (by omega)]
            rw [hag5]
            refine wq_lz (lw := [some (.ref ((g.2.2 0 0))), some (.ref ((g.2.2 60 0))), some (.ref ((g.2.2 61 0))), some (qi (ab_least S)), some (qi (ts S (k + 1))), some (qi (mx S (k + 1))), some (qi (ab_1 (br S (k + 1)))), some (qi ((((k + 1) : Nat) : Int))), none, none]) ?_ (ihk (k + 1) (by omega) (by omega))
            repeat (first | exact lz_0 | refine lz_s ?_ | refine lz_n ?_)
          · skip
            refine wq_iload C rfl dL_isLeast_144 ?_
            refine wq_goto C 151 (by decide) dL_isLeast_146 ?_
            refine wq_istore C (by decide) (Nat.le_of_ble_eq_true rfl) rfl dL_isLeast_151 ?_
            refine wq_iinc C rfl (by decide) rfl dL_isLeast_153 ?_
            refine wq_goto C 17 (by decide) dL_isLeast_156 ?_
            have hag4 : (ts S k) + (ab_tos S k) = ts S (k + 1) := rfl
            rw [hag4]
            have hag5 : ab_tos S k = mx S (k + 1) := by
              rw [mx]
              first | rw [if_pos (by omega)] | rw [if_neg (by omega)]
            rw [hag5]
            refine wq_lz (lw := [some (.ref ((g.2.2 0 0))), some (.ref ((g.2.2 60 0))), some (.ref ((g.2.2 61 0))), some (qi (ab_least S)), some (qi (ts S (k + 1))), some (qi (mx S (k + 1))), some (qi (ab_1 (br S (k + 1)))), some (qi ((((k + 1) : Nat) : Int))), none, none]) ?_ (ihk (k + 1) (by omega) (by omega))
            repeat (first | exact lz_0 | refine lz_s ?_ | refine lz_n ?_)
        have hj99 : ∀ sv : Int, sv = ab_1 (shut S (ab_la S k) || shut S (ab_lb S k)) → wq g p l e (headSpec wsL_isLeast ({ frames := 4, cells := 0, slots := 0, locals := 87 })).room s m ([.ref ((g.2.2 0 0)), .ref ((g.2.2 60 0)), .ref ((g.2.2 61 0))] : List Value).toArray below meth c (0) (0) (MQ below (lQ g (fun r σ' => σ' = σ ∧ r = 1)) ([.ref ((g.2.2 0 0)), .ref ((g.2.2 60 0)), .ref ((g.2.2 61 0))] : List Value).toArray s 0 0 (am_FA (gL g))) (am_FA (gL g)) 10 99 [some (.ref ((g.2.2 0 0))), some (.ref ((g.2.2 60 0))), some (.ref ((g.2.2 61 0))), some (qi (ab_least S)), some (qi (ts S k)), some (qi (mx S k)), some (qi (ab_1 (br S k))), some (qi (((k : Nat) : Int))), some (qi (ab_tos S k)), some (qi (sv))] [] σ := by
          intro sv hsv
          refine wq_iload C rfl dL_isLeast_99 ?_
          refine wq_if_ne C 123 (by omega) (by decide) dL_isLeast_101 (fun hc101 => ?_) (fun hc101 => ?_)
          · skip
            refine wq_iconst C dL_isLeast_123 ?_
            refine wq_goto C 128 (by decide) dL_isLeast_124 ?_
            refine wq_istore C (by decide) (Nat.le_of_ble_eq_true rfl) rfl dL_isLeast_128 ?_
            refine wq_lz (lw := [some (.ref ((g.2.2 0 0))), some (.ref ((g.2.2 60 0))), some (.ref ((g.2.2 61 0))), some (qi (ab_least S)), some (qi (ts S k)), some (qi (mx S k)), some (qi (1)), some (qi (((k : Nat) : Int))), some (qi (ab_tos S k)), none]) ?_ (hj130 (1) ?_)
            · repeat (first | exact lz_0 | refine lz_s ?_ | refine lz_n ?_)
            · first
              | rw [brv S k hsv, if_pos hc101]
              | rw [brv S k hsv, if_neg (fun z => z hc101), if_pos hc106]
              | rw [brv S k hsv, if_neg (fun z => z hc101), if_neg (Int.not_le.mpr hc106), if_pos hc115]
              | rw [brv S k hsv, if_neg (fun z => z hc101), if_neg (Int.not_le.mpr hc106), if_neg hc115, if_pos hc120]
              | rw [brv S k hsv, if_neg (fun z => z hc101), if_neg (Int.not_le.mpr hc106), if_neg hc115, if_neg hc120]
          · skip
            refine wq_iload C rfl dL_isLeast_104 ?_
            refine wq_if_le C 127 (by omega) (by decide) dL_isLeast_106 (fun hc106 => ?_) (fun hc106 => ?_)
            · skip
              refine wq_iconst C dL_isLeast_127 ?_
              refine wq_istore C (by decide) (Nat.le_of_ble_eq_true rfl) rfl dL_isLeast_128 ?_
              refine wq_lz (lw := [some (.ref ((g.2.2 0 0))), some (.ref ((g.2.2 60 0))), some (.ref ((g.2.2 61 0))), some (qi (ab_least S)), some (qi (ts S k)), some (qi (mx S k)), some (qi (0)), some (qi (((k : Nat) : Int))), some (qi (ab_tos S k)), none]) ?_ (hj130 (0) ?_)
              · repeat (first | exact lz_0 | refine lz_s ?_ | refine lz_n ?_)
              · first
                | rw [brv S k hsv, if_pos hc101]
                | rw [brv S k hsv, if_neg (fun z => z hc101), if_pos hc106]
                | rw [brv S k hsv, if_neg (fun z => z hc101), if_neg (Int.not_le.mpr hc106), if_pos hc115]
                | rw [brv S k hsv, if_neg (fun z => z hc101), if_neg (Int.not_le.mpr hc106), if_neg hc115, if_pos hc120]
                | rw [brv S k hsv, if_neg (fun z => z hc101), if_neg (Int.not_le.mpr hc106), if_neg hc115, if_neg hc120]
            · skip
              refine wq_aload_n C rfl dL_isLeast_109 ?_
              refine wq_iload C rfl dL_isLeast_110 ?_
              refine wq_sI C (av := [.ref ((g.2.2 60 0)), qi (((k : Nat) : Int))]) (index := 147) (w_isFar l hl g hI σ k S hw hk) (va_cwS 2 C.1.2.2.2.2 gL_isLeast_L_isFar rfl rfl rfl (by decide +kernel) ⟨Nat.le_of_ble_eq_true rfl, Nat.le_of_ble_eq_true rfl⟩) rfl rfl (Nat.le_of_ble_eq_true rfl) dL_isLeast_112 ⟨(Nat.le_of_ble_eq_true rfl), (Nat.le_of_ble_eq_true rfl)⟩ (fun r112 σ112 hp112 => ?_)
              obtain ⟨hsg112, rfl⟩ := hp112
              rw [hsg112]
              refine wq_if_eq C 127 (by omega) (by decide) dL_isLeast_115 (fun hc115 => ?_) (fun hc115 => ?_)
              · skip
                refine wq_iconst C dL_isLeast_127 ?_
                refine wq_istore C (by decide) (Nat.le_of_ble_eq_true rfl) rfl dL_isLeast_128 ?_
                refine wq_lz (lw := [some (.ref ((g.2.2 0 0))), some (.ref ((g.2.2 60 0))), some (.ref ((g.2.2 61 0))), some (qi (ab_least S)), some (qi (ts S k)), some (qi (mx S k)), some (qi (0)), some (qi (((k : Nat) : Int))), some (qi (ab_tos S k)), none]) ?_ (hj130 (0) ?_)
                · repeat (first | exact lz_0 | refine lz_s ?_ | refine lz_n ?_)
                · first
                  | rw [brv S k hsv, if_pos hc101]
                  | rw [brv S k hsv, if_neg (fun z => z hc101), if_pos hc106]
                  | rw [brv S k hsv, if_neg (fun z => z hc101), if_neg (Int.not_le.mpr hc106), if_pos hc115]
                  | rw [brv S k hsv, if_neg (fun z => z hc101), if_neg (Int.not_le.mpr hc106), if_neg hc115, if_pos hc120]
                  | rw [brv S k hsv, if_neg (fun z => z hc101), if_neg (Int.not_le.mpr hc106), if_neg hc115, if_neg hc120]
              · skip
                refine wq_iload C rfl dL_isLeast_118 ?_
                refine wq_if_eq C 127 (by omega) (by decide) dL_isLeast_120 (fun hc120 => ?_) (fun hc120 => ?_)
                · skip
                  refine wq_iconst C dL_isLeast_127 ?_
                  refine wq_istore C (by decide) (Nat.le_of_ble_eq_true rfl) rfl dL_isLeast_128 ?_
                  refine wq_lz (lw := [some (.ref ((g.2.2 0 0))), some (.ref ((g.2.2 60 0))), some (.ref ((g.2.2 61 0))), some (qi (ab_least S)), some (qi (ts S k)), some (qi (mx S k)), some (qi (0)), some (qi (((k : Nat) : Int))), some (qi (ab_tos S k)), none]) ?_ (hj130 (0) ?_)
                  · repeat (first | exact lz_0 | refine lz_s ?_ | refine lz_n ?_)
                  · first
                    | rw [brv S k hsv, if_pos hc101]
                    | rw [brv S k hsv, if_neg (fun z => z hc101), if_pos hc106]
                    | rw [brv S k hsv, if_neg (fun z => z hc101), if_neg (Int.not_le.mpr hc106), if_pos hc115]
                    | rw [brv S k hsv, if_neg (fun z => z hc101), if_neg (Int.not_le.mpr hc106), if_neg hc115, if_pos hc120]
                    | rw [brv S k hsv, if_neg (fun z => z hc101), if_neg (Int.not_le.mpr hc106), if_neg hc115, if_neg hc120]
                · skip
                  refine wq_iconst C dL_isLeast_123 ?_
                  refine wq_goto C 128 (by decide) dL_isLeast_124 ?_
                  refine wq_istore C (by decide) (Nat.le_of_ble_eq_true rfl) rfl dL_isLeast_128 ?_
                  refine wq_lz (lw := [some (.ref ((g.2.2 0 0))), some (.ref ((g.2.2 60 0))), some (.ref ((g.2.2 61 0))), some (qi (ab_least S)), some (qi (ts S k)), some (qi (mx S k)), some (qi (1)), some (qi (((k : Nat) : Int))), some (qi (ab_tos S k)), none]) ?_ (hj130 (1) ?_)
                  · repeat (first | exact lz_0 | refine lz_s ?_ | refine lz_n ?_)
                  · first
                    | rw [brv S k hsv, if_pos hc101]
                    | rw [brv S k hsv, if_neg (fun z => z hc101), if_pos hc106]
                    | rw [brv S k hsv, if_neg (fun z => z hc101), if_neg (Int.not_le.mpr hc106), if_pos hc115]
                    | rw [brv S k hsv, if_neg (fun z => z hc101), if_neg (Int.not_le.mpr hc106), if_neg hc115, if_pos hc120]
                    | rw [brv S k hsv, if_neg (fun z => z hc101), if_neg (Int.not_le.mpr hc106), if_neg hc115, if_neg hc120]
        refine wq_aload_n C rfl dL_isLeast_48 ?_
        refine wq_iconst C dL_isLeast_49 ?_
        refine wq_iald C (k := 61) (n := 4) rfl (by decide) (by decide) (3) rfl (by omega) dL_isLeast_50 ?_
        rw [hm3]
        refine wq_aload_n C rfl dL_isLeast_51 ?_
        refine wq_iload C rfl dL_isLeast_52 ?_
        refine wq_sI C (av := [.ref ((g.2.2 60 0)), qi (((k : Nat) : Int))]) (index := 81) (w_source l hl g hI σ k S hw hk) (va_cwS 2 C.1.2.2.2.2 gL_isLeast_L_source rfl rfl rfl (by decide +kernel) ⟨Nat.le_of_ble_eq_true rfl, Nat.le_of_ble_eq_true rfl⟩) rfl rfl (Nat.le_of_ble_eq_true rfl) dL_isLeast_54 ⟨(Nat.le_of_ble_eq_true rfl), (Nat.le_of_ble_eq_true rfl)⟩ (fun r54 σ54 hp54 => ?_)
        obtain ⟨hsg54, rfl⟩ := hp54
        rw [hsg54]
        refine wq_iconst C dL_isLeast_57 ?_
        refine wq_idiv C (by omega) (by omega) dL_isLeast_58 ?_
        refine wq_iconst C dL_isLeast_59 ?_
        refine wq_imul C dL_isLeast_60 ?_
        refine wq_ishr C (((lcm S / 2 ^ (4 * ab_la S k) : Nat) : Int)) (by rw [show S 0 k / 4 * 4 = ((4 * ab_la S k : Nat) : Int) by omega]; exact l_shr (Nat.lt_trans (lcm_lt S) (by decide)) (by omega)) dL_isLeast_61 ?_
        refine wq_bipush C (n := 15) (by decide) dL_isLeast_62 ?_
        refine wq_iand C (((lcm S / 2 ^ (4 * ab_la S k) % 16 : Nat) : Int)) (l_mask (lcm S / 2 ^ (4 * ab_la S k)) 4) dL_isLeast_64 ?_
        refine wq_bipush C (n := 15) (by decide) dL_isLeast_65 ?_
        refine wq_icmp_eq C 92 (by omega) (by omega) (by decide) dL_isLeast_67 (fun hc67 => ?_) (fun hc67 => ?_)
        · skip
          refine wq_iconst C dL_isLeast_92 ?_
          refine wq_goto C 97 (by decide) dL_isLeast_93 ?_
          refine wq_istore C (by decide) (Nat.le_of_ble_eq_true rfl) rfl dL_isLeast_97 ?_
          refine hj99 _ ?_
          first
            | rw [sA.mp hc67]; rfl
            | rw [sB.mp hc89, Bool.or_true]; rfl
            | rw [Bool.eq_false_iff.mpr (fun z => hc67 (sA.mpr z)), Bool.eq_false_iff.mpr (fun z => hc89 (sB.mpr z))]; rfl
        · skip
          refine wq_aload_n C rfl dL_isLeast_70 ?_
          refine wq_iconst C dL_isLeast_71 ?_
          refine wq_iald C (k := 61) (n := 4) rfl (by decide) (by decide) (3) rfl (by omega) dL_isLeast_72 ?_
          rw [hm3]
          refine wq_aload_n C rfl dL_isLeast_73 ?_
          refine wq_iload C rfl dL_isLeast_74 ?_
          refine wq_sI C (av := [.ref ((g.2.2 60 0)), qi (((k : Nat) : Int))]) (index := 87) (w_target l hl g hI σ k S hw hk) (va_cwS 2 C.1.2.2.2.2 gL_isLeast_L_target rfl rfl rfl (by decide +kernel) ⟨Nat.le_of_ble_eq_true rfl, Nat.le_of_ble_eq_true rfl⟩) rfl rfl (Nat.le_of_ble_eq_true rfl) dL_isLeast_76 ⟨(Nat.le_of_ble_eq_true rfl), (Nat.le_of_ble_eq_true rfl)⟩ (fun r76 σ76 hp76 => ?_)
          obtain ⟨hsg76, rfl⟩ := hp76
          rw [hsg76]
          refine wq_iconst C dL_isLeast_79 ?_
          refine wq_idiv C (by omega) (by omega) dL_isLeast_80 ?_
          refine wq_iconst C dL_isLeast_81 ?_
          refine wq_imul C dL_isLeast_82 ?_
          refine wq_ishr C (((lcm S / 2 ^ (4 * ab_lb S k) : Nat) : Int)) (by rw [show S 1 k / 4 * 4 = ((4 * ab_lb S k : Nat) : Int) by omega]; exact l_shr (Nat.lt_trans (lcm_lt S) (by decide)) (by omega)) dL_isLeast_83 ?_
          refine wq_bipush C (n := 15) (by decide) dL_isLeast_84 ?_
          refine wq_iand C (((lcm S / 2 ^ (4 * ab_lb S k) % 16 : Nat) : Int)) (l_mask (lcm S / 2 ^ (4 * ab_lb S k)) 4) dL_isLeast_86 ?_
          refine wq_bipush C (n := 15) (by decide) dL_isLeast_87 ?_
          refine wq_icmp_ne C 96 (by omega) (by omega) (by decide) dL_isLeast_89 (fun hc89 => ?_) (fun hc89 => ?_)
          · skip
            refine wq_iconst C dL_isLeast_96 ?_
            refine wq_istore C (by decide) (Nat.le_of_ble_eq_true rfl) rfl dL_isLeast_97 ?_
            refine hj99 _ ?_
            first
              | rw [sA.mp hc67]; rfl
              | rw [sB.mp hc89, Bool.or_true]; rfl
              | rw [Bool.eq_false_iff.mpr (fun z => hc67 (sA.mpr z)), Bool.eq_false_iff.mpr (fun z => hc89 (sB.mpr z))]; rfl
          · skip
            refine wq_iconst C dL_isLeast_92 ?_
            refine wq_goto C 97 (by decide) dL_isLeast_93 ?_
            refine wq_istore C (by decide) (Nat.le_of_ble_eq_true rfl) rfl dL_isLeast_97 ?_
            refine hj99 _ ?_
            first
              | rw [sA.mp hc67]; rfl
              | rw [sB.mp hc89, Bool.or_true]; rfl
              | rw [Bool.eq_false_iff.mpr (fun z => hc67 (sA.mpr z)), Bool.eq_false_iff.mpr (fun z => hc89 (sB.mpr z))]; rfl
  exact hl17 (ab_n S + 1) 0 (by omega) (by omega)
