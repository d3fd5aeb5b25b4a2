/-! FabricsimModel: the small methods -/
/-- what it shows of the cuts and of the flows' ends; of the queues' firsts -/
def ab_Rv (S : ab_S) (σ : am_M) : Prop := (∀ q : Nat, q < 16 → σ 47 0 q = S 18 q) ∧ ∀ f : Nat, (f : Int) < S 19 4 → σ 25 0 f = S 0 f ∧ σ 26 0 f = S 1 f
def ab_Rq (S : ab_S) (σ : am_M) : Prop := (∀ L : Nat, L < 64 → σ 39 0 L = S 14 L) ∧ ∀ L : Nat, L < 64 → 0 < S 14 L → σ 43 0 (4 * L) = S 20 (4 * L) ∧ σ 45 0 (4 * L) = S 23 (4 * L)
theorem Rv_of {S : ab_S} {σ : am_M} (h : ab_R S σ) : ab_Rv S σ := ⟨h.2.2.2.2.2.2, fun f hf => ⟨h.2.1 f 0 hf (by omega), h.2.1 f 1 hf (by omega)⟩⟩
theorem Rq_of {S : ab_S} {σ : am_M} (h : ab_R S σ) : ab_Rq S σ := ⟨fun L hL => (h.2.2.2.1 L hL).1, fun L hL hp => by
  have h5 := h.2.2.2.2.1 L 0 hL (by simpa using hp)
  simp only [Nat.add_zero] at h5
  exact ⟨h5.1, h5.2.2.2⟩⟩
def ab_umk (S : ab_S) (a b : Nat) : Nat → Int
  | 0 => 0
  | k + 1 => ab_umk S a b k + ((2 ^ k : Nat) : Int) * ab_1 (ab_us S a b k)
theorem ab_umk4 (S : ab_S) (a b : Nat) : ab_umk S a b 4 = ab_um S a b := by
  simp only [ab_umk, ab_um]; omega
theorem ab_umk_rng (S : ab_S) (a b : Nat) : ∀ k : Nat, 0 ≤ ab_umk S a b k ∧ ab_umk S a b k < ((2 ^ k : Nat) : Int)
  | 0 => by simp [ab_umk]
  | k + 1 => by
    have h := ab_umk_rng S a b k
    have hp : (2 ^ (k + 1) : Nat) = 2 * 2 ^ k := by rw [Nat.pow_succ]; omega
    rw [ab_umk, hp]
    generalize hg : (2 ^ k : Nat) = z at h ⊢
    cases ab_us S a b k with
    | true => rw [show ab_1 true = 1 from rfl]; omega
    | false => rw [show ab_1 false = 0 from rfl]; omega
theorem ab_umk_set {S : ab_S} {a b k : Nat} (hk : k < 4) (h : ab_us S a b k = true) : Int32.ofInt (ab_umk S a b k) ||| Int32.ofInt ((2 ^ k : Nat) : Int) = Int32.ofInt (ab_umk S a b (k + 1)) := by
  have hr := ab_umk_rng S a b k
  obtain ⟨m, hm⟩ : ∃ m : Nat, ab_umk S a b k = (m : Int) := ⟨(ab_umk S a b k).toNat, by omega⟩
  have hp : (2 ^ k : Nat) ≤ 8 := by
    match k, hk with
    | 0, _ => decide
    | 1, _ => decide
    | 2, _ => decide
    | 3, _ => decide
  have hlt : m < 2 ^ k := by omega
  have hm16 : m < 16 := by omega
  rw [ab_umk, h, show ab_1 true = 1 from rfl, hm, bt_set hm16 hk, Nat.div_eq_of_lt hlt]
  congr 1
theorem ab_umk_no {S : ab_S} {a b k : Nat} (hk : k < 4) (h : ab_us S a b k = false) : Int32.ofInt (ab_umk S a b k) ||| Int32.ofInt 0 = Int32.ofInt (ab_umk S a b (k + 1)) := by
  have hr := ab_umk_rng S a b k
  obtain ⟨m, hm⟩ : ∃ m : Nat, ab_umk S a b k = (m : Int) := ⟨(ab_umk S a b k).toNat, by omega⟩
  have hp : (2 ^ k : Nat) ≤ 8 := by
    match k, hk with
    | 0, _ => decide
    | 1, _ => decide
    | 2, _ => decide
    | 3, _ => decide
  have hm16 : m < 16 := by omega
  rw [ab_umk, h, show ab_1 false = 0 from rfl, hm, bt_or0 hm16]
  congr 1
def ab_cnt (u : Nat → Bool) : Nat → Int
  | 0 => 0
  | n + 1 => ab_cnt u n + ab_1 (u n)
theorem ab_cnt_rng (u : Nat → Bool) : ∀ n : Nat, 0 ≤ ab_cnt u n ∧ ab_cnt u n ≤ n
  | 0 => by simp [ab_cnt]
  | n + 1 => by
    have h := ab_cnt_rng u n
    have := ab_1r (u n)
    rw [ab_cnt]
    omega
theorem ab_many_cnt (S : ab_S) (a b : Nat) : ab_many S a b = ab_cnt (ab_us S a b) 4 := by
  simp only [ab_cnt, ab_many]; omega
/-- the search for a place from the highest spine down, after d spines -/
def ab_fd (u : Nat → Bool) (p : Int) : Nat → Int
  | 0 => -1
  | d + 1 => if u (3 - d) = true ∧ ab_cnt u (3 - d) = p then ((3 - d : Nat) : Int) else ab_fd u p d
theorem ab_fd_rng (u : Nat → Bool) (p : Int) : ∀ d : Nat, -1 ≤ ab_fd u p d ∧ ab_fd u p d ≤ 3
  | 0 => by simp [ab_fd]
  | d + 1 => by
    have := ab_fd_rng u p d
    rw [ab_fd]
    split
    · omega
    · exact this
theorem ab_fd4 (u : Nat → Bool) (p : Int) : ab_fd u p 4 = ab_nth (u 0) (u 1) (u 2) (u 3) p := by
  simp only [ab_fd, ab_nth, ab_cnt, Nat.sub_self, Nat.sub_zero, Nat.reduceSub, Int.zero_add]
  have e : ∀ x : Int, (x = p) = (p = x) := fun x => propext ⟨Eq.symm, Eq.symm⟩
  simp only [e]
  rfl
theorem ab_chosen_fd (S : ab_S) (f : Nat) (k : Int) (u : Nat → Bool) (hu : u = ab_us S (ab_la S f) (ab_lb S f)) : ab_chosen S f k = ab_fd u (if ab_cnt u 4 = 0 then 0 else (7 * (f : Int) + 13 * k + 3 * S 0 f + 5 * S 1 f) % ab_cnt u 4) 4 := by
  subst hu
  unfold ab_chosen
  rw [ab_fd4, ab_many_cnt]
  by_cases q : ab_cnt (ab_us S (ab_la S f) (ab_lb S f)) 4 = 0
  · rw [if_pos q, if_pos q]
    simp only [ab_cnt] at q
    have h0 := ab_1r (ab_us S (ab_la S f) (ab_lb S f) 0)
    have h1 := ab_1r (ab_us S (ab_la S f) (ab_lb S f) 1)
    have h2 := ab_1r (ab_us S (ab_la S f) (ab_lb S f) 2)
    have h3 := ab_1r (ab_us S (ab_la S f) (ab_lb S f) 3)
    have z : ∀ c : Bool, ab_1 c = 0 → c = false := fun c hc => by cases c; rfl; exact absurd hc (by decide)
    rw [z _ (show ab_1 (ab_us S (ab_la S f) (ab_lb S f) 0) = 0 by omega), z _ (show ab_1 (ab_us S (ab_la S f) (ab_lb S f) 1) = 0 by omega), z _ (show ab_1 (ab_us S (ab_la S f) (ab_lb S f) 2) = 0 by omega), z _ (show ab_1 (ab_us S (ab_la S f) (ab_lb S f) 3) = 0 by omega)]
    simp [ab_nth]
  · rw [if_neg q, if_neg q]
theorem rl_sh39 (ρ : am_M) (q : Nat) (v : Int) (n : Nat) : rl_sh ρ q v n 39 0 q = v := by simp [rl_sh]
theorem rl_shq (ρ : am_M) {q : Nat} (v : Int) {n k p : Nat} (hk : 43 ≤ k ∧ k ≤ 46) (hp : 4 * q + n ≤ p) : rl_sh ρ q v n k 0 p = ρ k 0 p := by
  unfold rl_sh; rw [if_neg (by omega), if_neg (by omega)]
theorem rl_sho (ρ : am_M) (q : Nat) (v : Int) (n : Nat) {k : Nat} (i p : Nat) (hk : ¬ (k = 39 ∨ (43 ≤ k ∧ k ≤ 46))) : rl_sh ρ q v n k i p = ρ k i p := by
  unfold rl_sh; rw [if_neg (by omega), if_neg (by omega)]

set_option maxRecDepth 100000 in
set_option maxHeartbeats 4000000 in
theorem c_X6_north (l : Launch) (g : am_g) (hI : am_inj (gR g)) (σ : am_M) (a c2 : Nat) (ha : a < 4) (hc2 : c2 < 4)  : Met l yX6_north wsX6_north ({ frames := 0, cells := 0, slots := 0, locals := 0 }) (am_P (gR g) σ [.inl ((a : Nat) : Int), .inl ((c2 : Nat) : Int)]) (am_QI (gR g) (fun r σ' => σ' = σ ∧ r = ((32 + 4 * a + c2 : Nat) : Int))) 0 0 (am_FA (gR g)) := by
  refine wk_start (cc := cX6_north) (nL := 2) (ret := (some .int)) (own := RX6) (by decide) rfl hI rfl (Nat.le_of_ble_eq_true rfl) ?_
  intro p e s m below meth c C hr hlk
  change wk _ p l e _ s m _ below meth c 0 0 _ _ _ _ 0 [some (.inl ((a : Nat) : Int)), some (.inl ((c2 : Nat) : Int))] [] σ
  refine wk_bipush C (n := 32) (by decide) dX6_north_0 ?_
  refine wk_iconst C dX6_north_2 ?_
  refine wk_iload_n C rfl dX6_north_3 ?_
  refine wk_imul C dX6_north_4 ?_
  refine wk_iadd C dX6_north_5 ?_
  refine wk_iload_n C rfl dX6_north_6 ?_
  refine wk_iadd C dX6_north_7 ?_
  refine wk_iret C hr hlk dX6_north_8 ?_
  exact ⟨rfl, by omega⟩

set_option maxRecDepth 100000 in
set_option maxHeartbeats 4000000 in
theorem c_X6_south (l : Launch) (g : am_g) (hI : am_inj (gR g)) (σ : am_M) (a c2 : Nat) (ha : a < 4) (hc2 : c2 < 4)  : Met l yX6_south wsX6_south ({ frames := 0, cells := 0, slots := 0, locals := 0 }) (am_P (gR g) σ [.inl ((a : Nat) : Int), .inl ((c2 : Nat) : Int)]) (am_QI (gR g) (fun r σ' => σ' = σ ∧ r = ((48 + 4 * a + c2 : Nat) : Int))) 0 0 (am_FA (gR g)) := by
  refine wk_start (cc := cX6_south) (nL := 2) (ret := (some .int)) (own := RX6) (by decide) rfl hI rfl (Nat.le_of_ble_eq_true rfl) ?_
  intro p e s m below meth c C hr hlk
  change wk _ p l e _ s m _ below meth c 0 0 _ _ _ _ 0 [some (.inl ((a : Nat) : Int)), some (.inl ((c2 : Nat) : Int))] [] σ
  refine wk_bipush C (n := 48) (by decide) dX6_south_0 ?_
  refine wk_iconst C dX6_south_2 ?_
  refine wk_iload_n C rfl dX6_south_3 ?_
  refine wk_imul C dX6_south_4 ?_
  refine wk_iadd C dX6_south_5 ?_
  refine wk_iload_n C rfl dX6_south_6 ?_
  refine wk_iadd C dX6_south_7 ?_
  refine wk_iret C hr hlk dX6_south_8 ?_
  exact ⟨rfl, by omega⟩

theorem in_c_X6_isUsable_X6 : ∀ w ∈ u_ws RX6 TX6 36, w ∈ wsX6_isUsable := by decide +kernel
set_option maxRecDepth 100000 in
set_option maxHeartbeats 4000000 in
theorem c_X6_isUsable (l : Launch) (g : am_g) (hI : am_inj (gR g)) (σ : am_M) (a b2 s2 : Nat) (ha : a < 4) (hb2 : b2 < 4) (hs2 : s2 < 4) (S : ab_S) (b : Int) (hv : ab_Rv S σ) (hS : ab_I S b) : Met l yX6_isUsable wsX6_isUsable ({ frames := 0, cells := 0, slots := 0, locals := 0 }) (am_P (gR g) σ [.inr (20, 0), .inl ((a : Nat) : Int), .inl ((b2 : Nat) : Int), .inl ((s2 : Nat) : Int)]) (am_QI (gR g) (fun r σ' => σ' = σ ∧ r = ab_1 (ab_us S a b2 s2))) 0 0 (am_FA (gR g)) := by
  refine wk_start (cc := cX6_isUsable) (nL := 4) (ret := (some .boolean)) (own := RX6) (by decide) rfl hI rfl (Nat.le_of_ble_eq_true rfl) ?_
  intro p e s m below meth c C hr hlk
  change wk _ p l e _ s m _ below meth c 0 0 _ _ _ _ 0 [some (.inr (20, 0)), some (.inl ((a : Nat) : Int)), some (.inl ((b2 : Nat) : Int)), some (.inl ((s2 : Nat) : Int))] [] σ
  have ua := hS.2.2.2.2.2.2.1 (4 * a + s2) (by omega)
  have ub := hS.2.2.2.2.2.2.1 (4 * b2 + s2) (by omega)
  refine wk_aload_n C rfl dX6_isUsable_0 ?_
  refine wk_getr C (k := 20) (ci := 6) (j := 27) (T := TX6) rfl (show 0 < (1:Nat) by decide) rfl in_c_X6_isUsable_X6 (by decide) (by decide +kernel) rfl dX6_isUsable_1 ?_
  refine wk_iconst C dX6_isUsable_4 ?_
  refine wk_iload_n C rfl dX6_isUsable_5 ?_
  refine wk_imul C dX6_isUsable_6 ?_
  refine wk_iload_n C rfl dX6_isUsable_7 ?_
  refine wk_iadd C dX6_isUsable_8 ?_
  refine wk_zald C (k := 47) rfl (show 0 < (1:Nat) by decide) (Nat.le_of_ble_eq_true rfl) (((4 * a) + s2)) (by omega) (show _ < (16:Nat) by omega) dX6_isUsable_9 ?_
  rw [hv.1 (4 * a + s2) (by omega)]
  refine wk_if_ne C 30 (by omega) (by decide) dX6_isUsable_10 (fun hc10 => ?_) (fun hc10 => ?_)
  · skip
    refine wk_iconst C dX6_isUsable_30 ?_
    refine wk_zret C hr hlk (by omega) dX6_isUsable_31 ?_
    refine ⟨rfl, ?_⟩
    unfold ab_us
    first
      | (rw [decide_eq_true (show S 18 (4 * a + s2) = 0 by omega), decide_eq_true (show S 18 (4 * b2 + s2) = 0 by omega)]; rfl)
      | (rw [decide_eq_false (show ¬ S 18 (4 * a + s2) = 0 by omega)]; rfl)
      | (rw [decide_eq_false (show ¬ S 18 (4 * b2 + s2) = 0 by omega), Bool.and_false]; rfl)
  · skip
    refine wk_aload_n C rfl dX6_isUsable_13 ?_
    refine wk_getr C (k := 20) (ci := 6) (j := 27) (T := TX6) rfl (show 0 < (1:Nat) by decide) rfl in_c_X6_isUsable_X6 (by decide) (by decide +kernel) rfl dX6_isUsable_14 ?_
    refine wk_iconst C dX6_isUsable_17 ?_
    refine wk_iload_n C rfl dX6_isUsable_18 ?_
    refine wk_imul C dX6_isUsable_19 ?_
    refine wk_iload_n C rfl dX6_isUsable_20 ?_
    refine wk_iadd C dX6_isUsable_21 ?_
    refine wk_zald C (k := 47) rfl (show 0 < (1:Nat) by decide) (Nat.le_of_ble_eq_true rfl) (((4 * b2) + s2)) (by omega) (show _ < (16:Nat) by omega) dX6_isUsable_22 ?_
    rw [hv.1 (4 * b2 + s2) (by omega)]
    refine wk_if_ne C 30 (by omega) (by decide) dX6_isUsable_23 (fun hc23 => ?_) (fun hc23 => ?_)
    · skip
      refine wk_iconst C dX6_isUsable_30 ?_
      refine wk_zret C hr hlk (by omega) dX6_isUsable_31 ?_
      refine ⟨rfl, ?_⟩
      unfold ab_us
      first
        | (rw [decide_eq_true (show S 18 (4 * a + s2) = 0 by omega), decide_eq_true (show S 18 (4 * b2 + s2) = 0 by omega)]; rfl)
        | (rw [decide_eq_false (show ¬ S 18 (4 * a + s2) = 0 by omega)]; rfl)
        | (rw [decide_eq_false (show ¬ S 18 (4 * b2 + s2) = 0 by omega), Bool.and_false]; rfl)
    · skip
      refine wk_iconst C dX6_isUsable_26 ?_
      refine wk_goto C 31 (by decide) dX6_isUsable_27 ?_
      refine wk_zret C hr hlk (by omega) dX6_isUsable_31 ?_
      refine ⟨rfl, ?_⟩
      unfold ab_us
      first
        | (rw [decide_eq_true (show S 18 (4 * a + s2) = 0 by omega), decide_eq_true (show S 18 (4 * b2 + s2) = 0 by omega)]; rfl)
        | (rw [decide_eq_false (show ¬ S 18 (4 * a + s2) = 0 by omega)]; rfl)
        | (rw [decide_eq_false (show ¬ S 18 (4 * b2 + s2) = 0 by omega), Bool.and_false]; rfl)

set_option maxRecDepth 100000 in
set_option maxHeartbeats 4000000 in
theorem c_X6_usableSet (l : Launch) (g : am_g) (hI : am_inj (gR g)) (σ : am_M) (a b2 : Nat) (ha : a < 4) (hb2 : b2 < 4) (S : ab_S) (b : Int) (hv : ab_Rv S σ) (hS : ab_I S b) : Met l yX6_usableSet wsX6_usableSet ({ frames := 1, cells := 0, slots := 0, locals := 23 }) (am_P (gR g) σ [.inr (20, 0), .inl ((a : Nat) : Int), .inl ((b2 : Nat) : Int)]) (am_QI (gR g) (fun r σ' => σ' = σ ∧ r = ab_um S a b2)) 0 0 (am_FA (gR g)) := by
  refine wk_start (cc := cX6_usableSet) (nL := 5) (ret := (some .int)) (own := RX6) (by decide) rfl hI rfl (Nat.le_of_ble_eq_true rfl) ?_
  intro p e s m below meth c C hr hlk
  change wk _ p l e _ s m _ below meth c 0 0 _ _ _ _ 0 [some (.inr (20, 0)), some (.inl ((a : Nat) : Int)), some (.inl ((b2 : Nat) : Int)), none, none] [] σ
  refine wk_iconst C dX6_usableSet_0 ?_
  refine wk_istore_n C (by decide) (Nat.le_of_ble_eq_true rfl) dX6_usableSet_1 ?_
  refine wk_iconst C dX6_usableSet_2 ?_
  refine wk_istore C (by decide) (Nat.le_of_ble_eq_true rfl) dX6_usableSet_3 ?_
  have hl5 : ∀ (d k : Nat), 5 ≤ k + d → k ≤ 4 → wk (gR g) p l e (headSpec wsX6_usableSet ({ frames := 1, cells := 0, slots := 0, locals := 23 })).room s m ([.inr (20, 0), .inl ((a : Nat) : Int), .inl ((b2 : Nat) : Int)].map (am_tv (gR g))).toArray below meth c 0 0 (MQ below (am_QI (gR g) (fun r σ' => σ' = σ ∧ r = ab_um S a b2)) ([.inr (20, 0), .inl ((a : Nat) : Int), .inl ((b2 : Nat) : Int)].map (am_tv (gR g))).toArray s 0 0 (am_FA (gR g))) (am_FA (gR g)) s.heap 5 5 [some (.inr (20, 0)), some (.inl ((a : Nat) : Int)), some (.inl ((b2 : Nat) : Int)), some (.inl (ab_umk S a b2 k)), some (.inl ((k : Nat) : Int))] [] σ := by
    intro d
    induction d with
    | zero => intro k h1 h2; omega
    | succ d ih =>
      intro k h1 h2
      refine wk_iload C rfl dX6_usableSet_5 ?_
      refine wk_iconst C dX6_usableSet_7 ?_
      refine wk_icmp_ge C 39 (by omega) (by omega) (by decide) dX6_usableSet_8 (fun hc8 => ?_) (fun hc8 => ?_)
      · skip
        refine wk_iload_n C rfl dX6_usableSet_39 ?_
        refine wk_iret C hr hlk dX6_usableSet_40 ?_
        have h4 : k = 4 := by omega
        subst h4
        exact ⟨rfl, ab_umk4 S a b2⟩
      · skip
        refine wk_iload_n C rfl dX6_usableSet_11 ?_
        refine wk_aload_n C rfl dX6_usableSet_12 ?_
        refine wk_iload_n C rfl dX6_usableSet_13 ?_
        refine wk_iload_n C rfl dX6_usableSet_14 ?_
        refine wk_iload C rfl dX6_usableSet_15 ?_
        refine wk_ofI C (wk_runV (index := 145) (ci := 6) (st := [_]) C (c_X6_isUsable l g hI _ a b2 k ha hb2 (by omega) S b hv hS) (cwV 3 C.2.2.2.2.1 gX6_usableSet_X6_isUsable rfl rfl rfl (by decide +kernel) ⟨Nat.le_of_ble_eq_true rfl, Nat.le_of_ble_eq_true rfl⟩) rfl (show 0 < (1:Nat) by decide) rfl rfl rfl (Nat.le_of_ble_eq_true rfl) dX6_usableSet_17 ⟨Nat.zero_le _, Nat.zero_le _⟩) (fun r17 σ17 hp17 => ?_)
        obtain ⟨hsg17, rfl⟩ := hp17
        rw [hsg17]
        have h1r := ab_1r (ab_us S a b2 k)
        refine wk_if_eq C 30 (by omega) (by decide) dX6_usableSet_20 (fun hc20 => ?_) (fun hc20 => ?_)
        · skip
          have hus : ab_us S a b2 k = false := by
            cases hz : ab_us S a b2 k
            · rfl
            · rw [hz, ab_1t] at hc20; omega
          refine wk_iconst C dX6_usableSet_30 ?_
          refine wk_ior C (ab_umk S a b2 (k + 1)) (by first | exact ab_umk_set (by omega) hus | exact ab_umk_no (by omega) hus) dX6_usableSet_31 ?_
          refine wk_istore_n C (by decide) (Nat.le_of_ble_eq_true rfl) dX6_usableSet_32 ?_
          refine wk_iinc C rfl (by decide) dX6_usableSet_33 ?_
          refine wk_goto C 5 (by decide) dX6_usableSet_36 ?_
          exact ih (k + 1) (by omega) (by omega)
        · skip
          have hus : ab_us S a b2 k = true := by
            cases hz : ab_us S a b2 k
            · rw [hz, ab_1f] at hc20; omega
            · rfl
          refine wk_iconst C dX6_usableSet_23 ?_
          refine wk_iload C rfl dX6_usableSet_24 ?_
          refine wk_ishl C (((2 ^ k : Nat) : Int)) (bt_shl (by omega)) dX6_usableSet_26 ?_
          refine wk_goto C 31 (by decide) dX6_usableSet_27 ?_
          refine wk_ior C (ab_umk S a b2 (k + 1)) (by first | exact ab_umk_set (by omega) hus | exact ab_umk_no (by omega) hus) dX6_usableSet_31 ?_
          refine wk_istore_n C (by decide) (Nat.le_of_ble_eq_true rfl) dX6_usableSet_32 ?_
          refine wk_iinc C rfl (by decide) dX6_usableSet_33 ?_
          refine wk_goto C 5 (by decide) dX6_usableSet_36 ?_
          exact ih (k + 1) (by omega) (by omega)
  exact hl5 5 0 (by omega) (by omega)

theorem in_c_X6_isFar_X6 : ∀ w ∈ u_ws RX6 TX6 36, w ∈ wsX6_isFar := by decide +kernel
set_option maxRecDepth 100000 in
set_option maxHeartbeats 4000000 in
theorem c_X6_isFar (l : Launch) (g : am_g) (hI : am_inj (gR g)) (σ : am_M) (f : Nat) (S : ab_S) (b : Int) (hv : ab_Rv S σ) (hS : ab_I S b) (hf : (f : Int) < S 19 4) : Met l yX6_isFar wsX6_isFar ({ frames := 0, cells := 0, slots := 0, locals := 0 }) (am_P (gR g) σ [.inr (20, 0), .inl ((f : Nat) : Int)]) (am_QI (gR g) (fun r σ' => σ' = σ ∧ r = ab_1 (ab_far S f))) 0 0 (am_FA (gR g)) := by
  refine wk_start (cc := cX6_isFar) (nL := 2) (ret := (some .boolean)) (own := RX6) (by decide) rfl hI rfl (Nat.le_of_ble_eq_true rfl) ?_
  intro p e s m below meth c C hr hlk
  change wk _ p l e _ s m _ below meth c 0 0 _ _ _ _ 0 [some (.inr (20, 0)), some (.inl ((f : Nat) : Int))] [] σ
  have hif := hS.2.2.1 f hf
  unfold ab_If at hif
  obtain ⟨i0, i1, i2, i3, i4, i5, i6, i7, i8, i9, i10, i11, i12, i13, i14⟩ := hif
  have hn24 := hS.2.1.2.2.2.2
  have hf24 : f < 24 := by omega
  have hcf0 : σ 25 0 f = S 0 f := (hv.2 f hf).1
  have hcf1 : σ 26 0 f = S 1 f := (hv.2 f hf).2
  refine wk_aload_n C rfl dX6_isFar_0 ?_
  refine wk_getr C (k := 20) (ci := 6) (j := 5) (T := TX6) rfl (show 0 < (1:Nat) by decide) rfl in_c_X6_isFar_X6 (by decide) (by decide +kernel) rfl dX6_isFar_1 ?_
  refine wk_iload_n C rfl dX6_isFar_4 ?_
  refine wk_iald C (k := 25) rfl (show 0 < (1:Nat) by decide) (Nat.le_of_ble_eq_true rfl) (f) (by omega) (show _ < (24:Nat) by omega) dX6_isFar_5 ?_
  rw [hcf0]
  refine wk_iconst C dX6_isFar_6 ?_
  refine wk_idiv C (by omega) (by omega) dX6_isFar_7 ?_
  refine wk_aload_n C rfl dX6_isFar_8 ?_
  refine wk_getr C (k := 20) (ci := 6) (j := 6) (T := TX6) rfl (show 0 < (1:Nat) by decide) rfl in_c_X6_isFar_X6 (by decide) (by decide +kernel) rfl dX6_isFar_9 ?_
  refine wk_iload_n C rfl dX6_isFar_12 ?_
  refine wk_iald C (k := 26) rfl (show 0 < (1:Nat) by decide) (Nat.le_of_ble_eq_true rfl) (f) (by omega) (show _ < (24:Nat) by omega) dX6_isFar_13 ?_
  rw [hcf1]
  refine wk_iconst C dX6_isFar_14 ?_
  refine wk_idiv C (by omega) (by omega) dX6_isFar_15 ?_
  refine wk_icmp_eq C 23 (by omega) (by omega) (by decide) dX6_isFar_16 (fun hc16 => ?_) (fun hc16 => ?_)
  · skip
    refine wk_iconst C dX6_isFar_23 ?_
    refine wk_zret C hr hlk (by omega) dX6_isFar_24 ?_
    refine ⟨rfl, ?_⟩
    unfold ab_far
    first
      | (rw [decide_eq_true (by omega)]; rfl)
      | (rw [decide_eq_false (by omega)]; rfl)
  · skip
    refine wk_iconst C dX6_isFar_19 ?_
    refine wk_goto C 24 (by decide) dX6_isFar_20 ?_
    refine wk_zret C hr hlk (by omega) dX6_isFar_24 ?_
    refine ⟨rfl, ?_⟩
    unfold ab_far
    first
      | (rw [decide_eq_true (by omega)]; rfl)
      | (rw [decide_eq_false (by omega)]; rfl)

theorem in_c_X6_targetOf_X6 : ∀ w ∈ u_ws RX6 TX6 36, w ∈ wsX6_targetOf := by decide +kernel
set_option maxRecDepth 100000 in
set_option maxHeartbeats 4000000 in
theorem c_X6_targetOf (l : Launch) (g : am_g) (hI : am_inj (gR g)) (σ : am_M) (q : Nat) (hq : q < 64) (S : ab_S) (b : Int) (hv : ab_Rv S σ) (hS : ab_I S b) (hw : ab_Rq S σ) (hp : 0 < S 14 q) : Met l yX6_targetOf wsX6_targetOf ({ frames := 0, cells := 0, slots := 0, locals := 0 }) (am_P (gR g) σ [.inr (20, 0), .inl ((q : Nat) : Int)]) (am_QI (gR g) (fun r σ' => σ' = σ ∧ r = S 1 (ab_fl S q))) 0 0 (am_FA (gR g)) := by
  refine wk_start (cc := cX6_targetOf) (nL := 2) (ret := (some .int)) (own := RX6) (by decide) rfl hI rfl (Nat.le_of_ble_eq_true rfl) ?_
  intro p e s m below meth c C hr hlk
  change wk _ p l e _ s m _ below meth c 0 0 _ _ _ _ 0 [some (.inr (20, 0)), some (.inl ((q : Nat) : Int))] [] σ
  obtain ⟨e, e1, e2, e3, e4, e5, e6, e7, e8⟩ := ab_hd hS hq hp
  have hn24 := hS.2.1.2.2.2.2
  have h43 : σ 43 0 (4 * q) = S 20 (4 * q) := (hw.2 q hq hp).1
  have h45 : σ 45 0 (4 * q) = S 23 (4 * q) := (hw.2 q hq hp).2
  have hcf1 : σ 26 0 (ab_fl S q) = S 1 (ab_fl S q) := (hv.2 _ e1).2
  refine wk_aload_n C rfl dX6_targetOf_0 ?_
  refine wk_getr C (k := 20) (ci := 6) (j := 6) (T := TX6) rfl (show 0 < (1:Nat) by decide) rfl in_c_X6_targetOf_X6 (by decide) (by decide +kernel) rfl dX6_targetOf_1 ?_
  refine wk_aload_n C rfl dX6_targetOf_4 ?_
  refine wk_getr C (k := 20) (ci := 6) (j := 23) (T := TX6) rfl (show 0 < (1:Nat) by decide) rfl in_c_X6_targetOf_X6 (by decide) (by decide +kernel) rfl dX6_targetOf_5 ?_
  refine wk_iconst C dX6_targetOf_8 ?_
  refine wk_iload_n C rfl dX6_targetOf_9 ?_
  refine wk_imul C dX6_targetOf_10 ?_
  refine wk_iald C (k := 43) rfl (show 0 < (1:Nat) by decide) (Nat.le_of_ble_eq_true rfl) ((4 * q)) (by omega) (show _ < (256:Nat) by omega) dX6_targetOf_11 ?_
  rw [h43]
  refine wk_iald C (k := 26) rfl (show 0 < (1:Nat) by decide) (Nat.le_of_ble_eq_true rfl) ((ab_fl S q)) e.symm (show _ < (24:Nat) by omega) dX6_targetOf_12 ?_
  rw [hcf1]
  refine wk_iret C hr hlk dX6_targetOf_13 ?_
  exact ⟨rfl, rfl⟩

theorem in_c_X6_isShut_X6 : ∀ w ∈ u_ws RX6 TX6 36, w ∈ wsX6_isShut := by decide +kernel
set_option maxRecDepth 100000 in
set_option maxHeartbeats 4000000 in
theorem c_X6_isShut (l : Launch) (g : am_g) (hI : am_inj (gR g)) (σ : am_M) (q : Nat) (hq : q < 64) (S : ab_S) (b : Int) (hv : ab_Rv S σ) (hS : ab_I S b) : Met l yX6_isShut wsX6_isShut ({ frames := 0, cells := 0, slots := 0, locals := 0 }) (am_P (gR g) σ [.inr (20, 0), .inl ((q : Nat) : Int)]) (am_QI (gR g) (fun r σ' => σ' = σ ∧ r = ab_1 (ab_shut S q))) 0 0 (am_FA (gR g)) := by
  refine wk_start (cc := cX6_isShut) (nL := 2) (ret := (some .boolean)) (own := RX6) (by decide) rfl hI rfl (Nat.le_of_ble_eq_true rfl) ?_
  intro p e s m below meth c C hr hlk
  change wk _ p l e _ s m _ below meth c 0 0 _ _ _ _ 0 [some (.inr (20, 0)), some (.inl ((q : Nat) : Int))] [] σ
  have hu := hS.2.2.2.2.2.2.1
  refine wk_iload_n C rfl dX6_isShut_0 ?_
  refine wk_bipush C (n := 48) (by decide) dX6_isShut_1 ?_
  refine wk_icmp_lt C 29 (by omega) (by omega) (by decide) dX6_isShut_3 (fun hc3 => ?_) (fun hc3 => ?_)
  · skip
    refine wk_iload_n C rfl dX6_isShut_29 ?_
    refine wk_bipush C (n := 32) (by decide) dX6_isShut_30 ?_
    refine wk_icmp_lt C 51 (by omega) (by omega) (by decide) dX6_isShut_32 (fun hc32 => ?_) (fun hc32 => ?_)
    · skip
      refine wk_iconst C dX6_isShut_51 ?_
      refine wk_zret C hr hlk (by omega) dX6_isShut_52 ?_
      refine ⟨rfl, ?_⟩
      unfold ab_shut
      first
        | (rw [if_pos (by omega)]; rcases u1 with u1 | u1 <;> rw [u1] <;> rfl)
        | (rw [if_neg (by omega), decide_eq_true (by omega), decide_eq_true (by omega)]; rfl)
        | (rw [if_neg (by omega), decide_eq_true (show 32 ≤ q by omega), decide_eq_false (by omega)]; rfl)
        | (rw [if_neg (by omega), decide_eq_false (by omega)]; rfl)
    · skip
      refine wk_aload_n C rfl dX6_isShut_35 ?_
      refine wk_getr C (k := 20) (ci := 6) (j := 27) (T := TX6) rfl (show 0 < (1:Nat) by decide) rfl in_c_X6_isShut_X6 (by decide) (by decide +kernel) rfl dX6_isShut_36 ?_
      refine wk_iload_n C rfl dX6_isShut_39 ?_
      refine wk_bipush C (n := 32) (by decide) dX6_isShut_40 ?_
      refine wk_isub C dX6_isShut_42 ?_
      have hlt : q < 48 := by omega
      refine wk_zald C (k := 47) rfl (show 0 < (1:Nat) by decide) (Nat.le_of_ble_eq_true rfl) ((q - 32)) (by omega) (show _ < (16:Nat) by omega) dX6_isShut_43 ?_
      rw [hv.1 (q - 32) (by omega)]
      have u1 := hu (q - 32) (by omega)
      refine wk_if_eq C 51 (by omega) (by decide) dX6_isShut_44 (fun hc44 => ?_) (fun hc44 => ?_)
      · skip
        refine wk_iconst C dX6_isShut_51 ?_
        refine wk_zret C hr hlk (by omega) dX6_isShut_52 ?_
        refine ⟨rfl, ?_⟩
        unfold ab_shut
        first
          | (rw [if_pos (by omega)]; rcases u1 with u1 | u1 <;> rw [u1] <;> rfl)
          | (rw [if_neg (by omega), decide_eq_true (by omega), decide_eq_true (by omega)]; rfl)
          | (rw [if_neg (by omega), decide_eq_true (show 32 ≤ q by omega), decide_eq_false (by omega)]; rfl)
          | (rw [if_neg (by omega), decide_eq_false (by omega)]; rfl)
      · skip
        refine wk_iconst C dX6_isShut_47 ?_
        refine wk_goto C 52 (by decide) dX6_isShut_48 ?_
        refine wk_zret C hr hlk (by omega) dX6_isShut_52 ?_
        refine ⟨rfl, ?_⟩
        unfold ab_shut
        first
          | (rw [if_pos (by omega)]; rcases u1 with u1 | u1 <;> rw [u1] <;> rfl)
          | (rw [if_neg (by omega), decide_eq_true (by omega), decide_eq_true (by omega)]; rfl)
          | (rw [if_neg (by omega), decide_eq_true (show 32 ≤ q by omega), decide_eq_false (by omega)]; rfl)
          | (rw [if_neg (by omega), decide_eq_false (by omega)]; rfl)
  · skip
    refine wk_aload_n C rfl dX6_isShut_6 ?_
    refine wk_getr C (k := 20) (ci := 6) (j := 27) (T := TX6) rfl (show 0 < (1:Nat) by decide) rfl in_c_X6_isShut_X6 (by decide) (by decide +kernel) rfl dX6_isShut_7 ?_
    refine wk_iconst C dX6_isShut_10 ?_
    refine wk_iload_n C rfl dX6_isShut_11 ?_
    refine wk_bipush C (n := 48) (by decide) dX6_isShut_12 ?_
    refine wk_isub C dX6_isShut_14 ?_
    refine wk_iconst C dX6_isShut_15 ?_
    refine wk_irem C (by omega) (by omega) dX6_isShut_16 ?_
    refine wk_imul C dX6_isShut_17 ?_
    refine wk_iload_n C rfl dX6_isShut_18 ?_
    refine wk_bipush C (n := 48) (by decide) dX6_isShut_19 ?_
    refine wk_isub C dX6_isShut_21 ?_
    refine wk_iconst C dX6_isShut_22 ?_
    refine wk_idiv C (by omega) (by omega) dX6_isShut_23 ?_
    refine wk_iadd C dX6_isShut_24 ?_
    refine wk_zald C (k := 47) rfl (show 0 < (1:Nat) by decide) (Nat.le_of_ble_eq_true rfl) ((4 * ((q - 48) % 4) + (q - 48) / 4)) (by omega) (show _ < (16:Nat) by omega) dX6_isShut_25 ?_
    rw [hv.1 (4 * ((q - 48) % 4) + (q - 48) / 4) (by omega)]
    have u1 := hu (4 * ((q - 48) % 4) + (q - 48) / 4) (by omega)
    refine wk_goto C 52 (by decide) dX6_isShut_26 ?_
    refine wk_zret C hr hlk (by omega) dX6_isShut_52 ?_
    refine ⟨rfl, ?_⟩
    unfold ab_shut
    first
      | (rw [if_pos (by omega)]; rcases u1 with u1 | u1 <;> rw [u1] <;> rfl)
      | (rw [if_neg (by omega), decide_eq_true (by omega), decide_eq_true (by omega)]; rfl)
      | (rw [if_neg (by omega), decide_eq_true (show 32 ≤ q by omega), decide_eq_false (by omega)]; rfl)
      | (rw [if_neg (by omega), decide_eq_false (by omega)]; rfl)

set_option maxRecDepth 100000 in
set_option maxHeartbeats 4000000 in
theorem c_X6_queueAt (l : Launch) (g : am_g) (hI : am_inj (gR g)) (σ : am_M) (q pl : Nat) (hq : 16 ≤ q ∧ q < 64) (hpl : pl < ab_m q)  : Met l yX6_queueAt wsX6_queueAt ({ frames := 1, cells := 0, slots := 0, locals := 21 }) (am_P (gR g) σ [.inl ((q : Nat) : Int), .inl ((pl : Nat) : Int)]) (am_QI (gR g) (fun r σ' => σ' = σ ∧ r = ((ab_qat q pl : Nat) : Int))) 0 0 (am_FA (gR g)) := by
  refine wk_start (cc := cX6_queueAt) (nL := 3) (ret := (some .int)) (own := RX6) (by decide) rfl hI rfl (Nat.le_of_ble_eq_true rfl) ?_
  intro p e s m below meth c C hr hlk
  change wk _ p l e _ s m _ below meth c 0 0 _ _ _ _ 0 [some (.inl ((q : Nat) : Int)), some (.inl ((pl : Nat) : Int)), none] [] σ
  have hm : ab_m q = if 48 ≤ q then 4 else 8 := rfl
  refine wk_iload_n C rfl dX6_queueAt_0 ?_
  refine wk_bipush C (n := 48) (by decide) dX6_queueAt_1 ?_
  refine wk_icmp_lt C 26 (by omega) (by omega) (by decide) dX6_queueAt_3 (fun hc3 => ?_) (fun hc3 => ?_)
  · skip
    rw [if_neg (by omega)] at hm
    refine wk_iload_n C rfl dX6_queueAt_26 ?_
    refine wk_bipush C (n := 32) (by decide) dX6_queueAt_27 ?_
    refine wk_icmp_lt C 41 (by omega) (by omega) (by decide) dX6_queueAt_29 (fun hc29 => ?_) (fun hc29 => ?_)
    · skip
      refine wk_iload_n C rfl dX6_queueAt_41 ?_
      refine wk_bipush C (n := 16) (by decide) dX6_queueAt_42 ?_
      refine wk_isub C dX6_queueAt_44 ?_
      refine wk_iconst C dX6_queueAt_45 ?_
      refine wk_idiv C (by omega) (by omega) dX6_queueAt_46 ?_
      obtain ⟨lf, hlf⟩ : ∃ lf : Nat, lf = (if 32 ≤ q then (q - 32) / 4 else (q - 16) / 4) := ⟨_, rfl⟩
      first
        | (rw [if_pos (by omega)] at hlf; rw [show (((q : Nat) : Int) - 32) / 4 = ((lf : Nat) : Int) by omega])
        | (rw [if_neg (by omega)] at hlf; rw [show (((q : Nat) : Int) - 16) / 4 = ((lf : Nat) : Int) by omega])
      refine wk_istore_n C (by decide) (Nat.le_of_ble_eq_true rfl) dX6_queueAt_47 ?_
      refine wk_iload_n C rfl dX6_queueAt_48 ?_
      refine wk_iconst C dX6_queueAt_49 ?_
      refine wk_icmp_ge C 61 (by omega) (by omega) (by decide) dX6_queueAt_50 (fun hc50 => ?_) (fun hc50 => ?_)
      · skip
        refine wk_iload_n C rfl dX6_queueAt_61 ?_
        refine wk_iconst C dX6_queueAt_62 ?_
        refine wk_isub C dX6_queueAt_63 ?_
        refine wk_iload_n C rfl dX6_queueAt_64 ?_
        rw [show ((pl : Nat) : Int) - 4 = ((pl - 4 : Nat) : Int) by omega]
        refine wk_ofI C (wk_runS (index := 142) (st := []) C (c_X6_south l g hI _ (pl - 4) lf (by omega) (by omega)) (cwS 2 C.2.2.2.2.1 gX6_queueAt_X6_south rfl rfl rfl (by decide +kernel) ⟨Nat.le_of_ble_eq_true rfl, Nat.le_of_ble_eq_true rfl⟩) rfl rfl (Nat.le_of_ble_eq_true rfl) dX6_queueAt_65 ⟨Nat.zero_le _, Nat.zero_le _⟩) (fun r65 σ65 hp65 => ?_)
        obtain ⟨hsg65, rfl⟩ := hp65
        rw [hsg65]
        refine wk_iret C hr hlk dX6_queueAt_68 ?_
        refine ⟨rfl, ?_⟩
        unfold ab_qat
        rw [if_neg (by omega)]
        first
          | (rw [if_pos (by omega), if_pos (by omega)]; omega)
          | (rw [if_pos (by omega), if_neg (by omega)]; omega)
          | (rw [if_neg (by omega), if_pos (by omega)]; omega)
          | (rw [if_neg (by omega), if_neg (by omega)]; omega)
      · skip
        refine wk_iconst C dX6_queueAt_53 ?_
        refine wk_iload_n C rfl dX6_queueAt_54 ?_
        refine wk_imul C dX6_queueAt_55 ?_
        refine wk_iload_n C rfl dX6_queueAt_56 ?_
        refine wk_iadd C dX6_queueAt_57 ?_
        refine wk_goto C 68 (by decide) dX6_queueAt_58 ?_
        refine wk_iret C hr hlk dX6_queueAt_68 ?_
        refine ⟨rfl, ?_⟩
        unfold ab_qat
        rw [if_neg (by omega)]
        first
          | (rw [if_pos (by omega), if_pos (by omega)]; omega)
          | (rw [if_pos (by omega), if_neg (by omega)]; omega)
          | (rw [if_neg (by omega), if_pos (by omega)]; omega)
          | (rw [if_neg (by omega), if_neg (by omega)]; omega)
    · skip
      refine wk_iload_n C rfl dX6_queueAt_32 ?_
      refine wk_bipush C (n := 32) (by decide) dX6_queueAt_33 ?_
      refine wk_isub C dX6_queueAt_35 ?_
      refine wk_iconst C dX6_queueAt_36 ?_
      refine wk_idiv C (by omega) (by omega) dX6_queueAt_37 ?_
      refine wk_goto C 47 (by decide) dX6_queueAt_38 ?_
      obtain ⟨lf, hlf⟩ : ∃ lf : Nat, lf = (if 32 ≤ q then (q - 32) / 4 else (q - 16) / 4) := ⟨_, rfl⟩
      first
        | (rw [if_pos (by omega)] at hlf; rw [show (((q : Nat) : Int) - 32) / 4 = ((lf : Nat) : Int) by omega])
        | (rw [if_neg (by omega)] at hlf; rw [show (((q : Nat) : Int) - 16) / 4 = ((lf : Nat) : Int) by omega])
      refine wk_istore_n C (by decide) (Nat.le_of_ble_eq_true rfl) dX6_queueAt_47 ?_
      refine wk_iload_n C rfl dX6_queueAt_48 ?_
      refine wk_iconst C dX6_queueAt_49 ?_
      refine wk_icmp_ge C 61 (by omega) (by omega) (by decide) dX6_queueAt_50 (fun hc50 => ?_) (fun hc50 => ?_)
      · skip
        refine wk_iload_n C rfl dX6_queueAt_61 ?_
        refine wk_iconst C dX6_queueAt_62 ?_
        refine wk_isub C dX6_queueAt_63 ?_
        refine wk_iload_n C rfl dX6_queueAt_64 ?_
        rw [show ((pl : Nat) : Int) - 4 = ((pl - 4 : Nat) : Int) by omega]
        refine wk_ofI C (wk_runS (index := 142) (st := []) C (c_X6_south l g hI _ (pl - 4) lf (by omega) (by omega)) (cwS 2 C.2.2.2.2.1 gX6_queueAt_X6_south rfl rfl rfl (by decide +kernel) ⟨Nat.le_of_ble_eq_true rfl, Nat.le_of_ble_eq_true rfl⟩) rfl rfl (Nat.le_of_ble_eq_true rfl) dX6_queueAt_65 ⟨Nat.zero_le _, Nat.zero_le _⟩) (fun r65 σ65 hp65 => ?_)
        obtain ⟨hsg65, rfl⟩ := hp65
        rw [hsg65]
        refine wk_iret C hr hlk dX6_queueAt_68 ?_
        refine ⟨rfl, ?_⟩
        unfold ab_qat
        rw [if_neg (by omega)]
        first
          | (rw [if_pos (by omega), if_pos (by omega)]; omega)
          | (rw [if_pos (by omega), if_neg (by omega)]; omega)
          | (rw [if_neg (by omega), if_pos (by omega)]; omega)
          | (rw [if_neg (by omega), if_neg (by omega)]; omega)
      · skip
        refine wk_iconst C dX6_queueAt_53 ?_
        refine wk_iload_n C rfl dX6_queueAt_54 ?_
        refine wk_imul C dX6_queueAt_55 ?_
        refine wk_iload_n C rfl dX6_queueAt_56 ?_
        refine wk_iadd C dX6_queueAt_57 ?_
        refine wk_goto C 68 (by decide) dX6_queueAt_58 ?_
        refine wk_iret C hr hlk dX6_queueAt_68 ?_
        refine ⟨rfl, ?_⟩
        unfold ab_qat
        rw [if_neg (by omega)]
        first
          | (rw [if_pos (by omega), if_pos (by omega)]; omega)
          | (rw [if_pos (by omega), if_neg (by omega)]; omega)
          | (rw [if_neg (by omega), if_pos (by omega)]; omega)
          | (rw [if_neg (by omega), if_neg (by omega)]; omega)
  · skip
    rw [if_pos (by omega)] at hm
    refine wk_iload_n C rfl dX6_queueAt_6 ?_
    refine wk_iconst C dX6_queueAt_7 ?_
    refine wk_icmp_ge C 24 (by omega) (by omega) (by decide) dX6_queueAt_8 (fun hc8 => ?_) (fun hc8 => ?_)
    · skip
      refine wk_iconst C dX6_queueAt_24 ?_
      refine wk_iret C hr hlk dX6_queueAt_25 ?_
      refine ⟨rfl, ?_⟩
      first
        | (exfalso; omega)
        | (unfold ab_qat; rw [if_pos (by omega)])
    · skip
      refine wk_iload_n C rfl dX6_queueAt_11 ?_
      refine wk_iload_n C rfl dX6_queueAt_12 ?_
      refine wk_bipush C (n := 48) (by decide) dX6_queueAt_13 ?_
      refine wk_isub C dX6_queueAt_15 ?_
      refine wk_iconst C dX6_queueAt_16 ?_
      refine wk_idiv C (by omega) (by omega) dX6_queueAt_17 ?_
      rw [show (((q : Nat) : Int) - 48) / 4 = (((q - 48) / 4 : Nat) : Int) by omega]
      refine wk_ofI C (wk_runS (index := 138) (st := []) C (c_X6_north l g hI _ pl ((q - 48) / 4) (by omega) (by omega)) (cwS 2 C.2.2.2.2.1 gX6_queueAt_X6_north rfl rfl rfl (by decide +kernel) ⟨Nat.le_of_ble_eq_true rfl, Nat.le_of_ble_eq_true rfl⟩) rfl rfl (Nat.le_of_ble_eq_true rfl) dX6_queueAt_18 ⟨Nat.zero_le _, Nat.zero_le _⟩) (fun r18 σ18 hp18 => ?_)
      obtain ⟨hsg18, rfl⟩ := hp18
      rw [hsg18]
      refine wk_goto C 25 (by decide) dX6_queueAt_21 ?_
      refine wk_iret C hr hlk dX6_queueAt_25 ?_
      refine ⟨rfl, ?_⟩
      first
        | (exfalso; omega)
        | (unfold ab_qat; rw [if_pos (by omega)])

theorem in_c_X6_wanted_X6 : ∀ w ∈ u_ws RX6 TX6 36, w ∈ wsX6_wanted := by decide +kernel
set_option maxRecDepth 100000 in
set_option maxHeartbeats 4000000 in
theorem c_X6_wanted (l : Launch) (g : am_g) (hI : am_inj (gR g)) (σ : am_M) (q : Nat) (hq : q < 64) (S : ab_S) (b : Int) (hv : ab_Rv S σ) (hS : ab_I S b) (hw : ab_Rq S σ) : Met l yX6_wanted wsX6_wanted ({ frames := 1, cells := 0, slots := 0, locals := 23 }) (am_P (gR g) σ [.inr (20, 0), .inl ((q : Nat) : Int)]) (am_QI (gR g) (fun r σ' => σ' = σ ∧ r = ab_w S q)) 0 0 (am_FA (gR g)) := by
  refine wk_start (cc := cX6_wanted) (nL := 4) (ret := (some .int)) (own := RX6) (by decide) rfl hI rfl (Nat.le_of_ble_eq_true rfl) ?_
  intro p e s m below meth c C hr hlk
  change wk _ p l e _ s m _ below meth c 0 0 _ _ _ _ 0 [some (.inr (20, 0)), some (.inl ((q : Nat) : Int)), none, none] [] σ
  have hs4 := hS.s4 hq
  have h39 := hw.1 q hq
  refine wk_aload_n C rfl dX6_wanted_0 ?_
  refine wk_getr C (k := 20) (ci := 6) (j := 19) (T := TX6) rfl (show 0 < (1:Nat) by decide) rfl in_c_X6_wanted_X6 (by decide) (by decide +kernel) rfl dX6_wanted_1 ?_
  refine wk_iload_n C rfl dX6_wanted_4 ?_
  refine wk_iald C (k := 39) rfl (show 0 < (1:Nat) by decide) (Nat.le_of_ble_eq_true rfl) (q) (by omega) (show _ < (64:Nat) by omega) dX6_wanted_5 ?_
  rw [h39]
  refine wk_if_eq C 21 (by omega) (by decide) dX6_wanted_6 (fun hc6 => ?_) (fun hc6 => ?_)
  · skip
    refine wk_iconst C dX6_wanted_21 ?_
    refine wk_iret C hr hlk dX6_wanted_22 ?_
    exact ⟨rfl, by rw [ab_w, if_pos (by omega)]⟩
  · skip
    refine wk_iload_n C rfl dX6_wanted_9 ?_
    refine wk_bipush C (n := 16) (by decide) dX6_wanted_10 ?_
    refine wk_icmp_lt C 23 (by omega) (by omega) (by decide) dX6_wanted_12 (fun hc12 => ?_) (fun hc12 => ?_)
    · skip
      have hp : 0 < S 14 q := by omega
      obtain ⟨e, e1, e2, e3, e4, e5, e6, e7, e8⟩ := ab_hd hS hq hp
      have hn24 := hS.2.1.2.2.2.2
      have h43 : σ 43 0 (4 * q) = S 20 (4 * q) := (hw.2 q hq hp).1
      have h45 : σ 45 0 (4 * q) = S 23 (4 * q) := (hw.2 q hq hp).2
      obtain ⟨f1, f2, f3, f4⟩ := ab_lbv e2
      have g1 := e2.2.1
      have hw0 : ¬ (S 14 q = 0 ∨ (16 ≤ q ∧ q < 32)) := by omega
      refine wk_aload_n C rfl dX6_wanted_23 ?_
      refine wk_iload_n C rfl dX6_wanted_24 ?_
      refine wk_ofI C (wk_runV (index := 148) (ci := 6) (st := []) C (c_X6_targetOf l g hI _ q hq S b hv hS hw hp) (cwV 1 C.2.2.2.2.1 gX6_wanted_X6_targetOf rfl rfl rfl (by decide +kernel) ⟨Nat.le_of_ble_eq_true rfl, Nat.le_of_ble_eq_true rfl⟩) rfl (show 0 < (1:Nat) by decide) rfl rfl rfl (Nat.le_of_ble_eq_true rfl) dX6_wanted_25 ⟨Nat.zero_le _, Nat.zero_le _⟩) (fun r25 σ25 hp25 => ?_)
      obtain ⟨hsg25, rfl⟩ := hp25
      rw [hsg25]
      refine wk_istore_n C (by decide) (Nat.le_of_ble_eq_true rfl) dX6_wanted_28 ?_
      refine wk_iload_n C rfl dX6_wanted_29 ?_
      refine wk_bipush C (n := 48) (by decide) dX6_wanted_30 ?_
      refine wk_icmp_lt C 40 (by omega) (by omega) (by decide) dX6_wanted_32 (fun hc32 => ?_) (fun hc32 => ?_)
      · skip
        refine wk_iload_n C rfl dX6_wanted_40 ?_
        refine wk_bipush C (n := 32) (by decide) dX6_wanted_41 ?_
        refine wk_icmp_lt C 59 (by omega) (by omega) (by decide) dX6_wanted_43 (fun hc43 => ?_) (fun hc43 => ?_)
        · skip
          have hq16 : q < 16 := by omega
          have h6 := e6 hq16
          refine wk_aload_n C rfl dX6_wanted_59 ?_
          refine wk_getr C (k := 20) (ci := 6) (j := 25) (T := TX6) rfl (show 0 < (1:Nat) by decide) rfl in_c_X6_wanted_X6 (by decide) (by decide +kernel) rfl dX6_wanted_60 ?_
          refine wk_iconst C dX6_wanted_63 ?_
          refine wk_iload_n C rfl dX6_wanted_64 ?_
          refine wk_imul C dX6_wanted_65 ?_
          refine wk_iald C (k := 45) rfl (show 0 < (1:Nat) by decide) (Nat.le_of_ble_eq_true rfl) ((4 * q)) (by omega) (show _ < (256:Nat) by omega) dX6_wanted_66 ?_
          rw [h45]
          refine wk_istore_n C (by decide) (Nat.le_of_ble_eq_true rfl) dX6_wanted_67 ?_
          refine wk_iload_n C rfl dX6_wanted_68 ?_
          refine wk_iconst C dX6_wanted_69 ?_
          refine wk_idiv C (by omega) (by omega) dX6_wanted_70 ?_
          refine wk_iload_n C rfl dX6_wanted_71 ?_
          refine wk_iconst C dX6_wanted_72 ?_
          refine wk_idiv C (by omega) (by omega) dX6_wanted_73 ?_
          refine wk_icmp_ne C 84 (by omega) (by omega) (by decide) dX6_wanted_74 (fun hc74 => ?_) (fun hc74 => ?_)
          · skip
            have hfar : ab_far S (ab_fl S q) = true := by unfold ab_far; rw [decide_eq_true (by omega)]
            have h6 := h6.2 hfar
            have h23 : S 23 (4 * q) = (((S 23 (4 * q)).toNat : Nat) : Int) := (Int.toNat_of_nonneg h6.2).symm
            rw [h23]
            refine wk_aload_n C rfl dX6_wanted_84 ?_
            refine wk_iload_n C rfl dX6_wanted_85 ?_
            refine wk_iconst C dX6_wanted_86 ?_
            refine wk_idiv C (by omega) (by omega) dX6_wanted_87 ?_
            refine wk_iload_n C rfl dX6_wanted_88 ?_
            refine wk_iconst C dX6_wanted_89 ?_
            refine wk_idiv C (by omega) (by omega) dX6_wanted_90 ?_
            refine wk_iload_n C rfl dX6_wanted_91 ?_
            rw [show ((q : Nat) : Int) / 4 = ((q / 4 : Nat) : Int) by omega, show S 1 (ab_fl S q) / 4 = ((ab_lb S (ab_fl S q) : Nat) : Int) from f1.symm]
            refine wk_ofI C (wk_runV (index := 145) (ci := 6) (st := []) C (c_X6_isUsable l g hI _ (q / 4) (ab_lb S (ab_fl S q)) (S 23 (4 * q)).toNat (by omega) f2 (by omega) S b hv hS) (cwV 3 C.2.2.2.2.1 gX6_wanted_X6_isUsable rfl rfl rfl (by decide +kernel) ⟨Nat.le_of_ble_eq_true rfl, Nat.le_of_ble_eq_true rfl⟩) rfl (show 0 < (1:Nat) by decide) rfl rfl rfl (Nat.le_of_ble_eq_true rfl) dX6_wanted_92 ⟨Nat.zero_le _, Nat.zero_le _⟩) (fun r92 σ92 hp92 => ?_)
            obtain ⟨hsg92, rfl⟩ := hp92
            rw [hsg92]
            have h1r := ab_1r (ab_us S (q / 4) (ab_lb S (ab_fl S q)) (S 23 (4 * q)).toNat)
            refine wk_if_eq C 108 (by omega) (by decide) dX6_wanted_95 (fun hc95 => ?_) (fun hc95 => ?_)
            · skip
              have hus : ab_us S (q / 4) (ab_lb S (ab_fl S q)) (S 23 (4 * q)).toNat = false := by
                cases hz : ab_us S (q / 4) (ab_lb S (ab_fl S q)) (S 23 (4 * q)).toNat
                · rfl
                · rw [hz, ab_1t] at hc95; omega
              refine wk_iconst C dX6_wanted_108 ?_
              refine wk_iret C hr hlk dX6_wanted_109 ?_
              refine ⟨rfl, ?_⟩
              rw [ab_w, if_neg hw0, if_neg (by omega), if_neg (by omega)]
              first
                | (rw [if_neg (show ¬ ((q / 4 : Nat) : Int) = S 1 (ab_fl S q) / 4 by omega), if_pos hus]; omega)
                | (rw [if_neg (show ¬ ((q / 4 : Nat) : Int) = S 1 (ab_fl S q) / 4 by omega), if_neg (by rw [hus]; decide)])
                | rw [if_pos (show ((q / 4 : Nat) : Int) = S 1 (ab_fl S q) / 4 by omega)]
            · skip
              have hus : ab_us S (q / 4) (ab_lb S (ab_fl S q)) (S 23 (4 * q)).toNat = true := by
                cases hz : ab_us S (q / 4) (ab_lb S (ab_fl S q)) (S 23 (4 * q)).toNat
                · rw [hz, ab_1f] at hc95; omega
                · rfl
              refine wk_iload_n C rfl dX6_wanted_98 ?_
              refine wk_iconst C dX6_wanted_99 ?_
              refine wk_idiv C (by omega) (by omega) dX6_wanted_100 ?_
              refine wk_iload_n C rfl dX6_wanted_101 ?_
              rw [show ((q : Nat) : Int) / 4 = ((q / 4 : Nat) : Int) by omega]
              refine wk_ofI C (wk_runS (index := 138) (st := []) C (c_X6_north l g hI _ (q / 4) (S 23 (4 * q)).toNat (by omega) (by omega)) (cwS 2 C.2.2.2.2.1 gX6_wanted_X6_north rfl rfl rfl (by decide +kernel) ⟨Nat.le_of_ble_eq_true rfl, Nat.le_of_ble_eq_true rfl⟩) rfl rfl (Nat.le_of_ble_eq_true rfl) dX6_wanted_102 ⟨Nat.zero_le _, Nat.zero_le _⟩) (fun r102 σ102 hp102 => ?_)
              obtain ⟨hsg102, rfl⟩ := hp102
              rw [hsg102]
              refine wk_goto C 109 (by decide) dX6_wanted_105 ?_
              refine wk_iret C hr hlk dX6_wanted_109 ?_
              refine ⟨rfl, ?_⟩
              rw [ab_w, if_neg hw0, if_neg (by omega), if_neg (by omega)]
              first
                | (rw [if_neg (show ¬ ((q / 4 : Nat) : Int) = S 1 (ab_fl S q) / 4 by omega), if_pos hus]; omega)
                | (rw [if_neg (show ¬ ((q / 4 : Nat) : Int) = S 1 (ab_fl S q) / 4 by omega), if_neg (by rw [hus]; decide)])
                | rw [if_pos (show ((q / 4 : Nat) : Int) = S 1 (ab_fl S q) / 4 by omega)]
          · skip
            refine wk_bipush C (n := 16) (by decide) dX6_wanted_77 ?_
            refine wk_iload_n C rfl dX6_wanted_79 ?_
            refine wk_iadd C dX6_wanted_80 ?_
            refine wk_goto C 109 (by decide) dX6_wanted_81 ?_
            refine wk_iret C hr hlk dX6_wanted_109 ?_
            refine ⟨rfl, ?_⟩
            rw [ab_w, if_neg hw0, if_neg (by omega), if_neg (by omega)]
            first
              | (rw [if_neg (show ¬ ((q / 4 : Nat) : Int) = S 1 (ab_fl S q) / 4 by omega), if_pos hus]; omega)
              | (rw [if_neg (show ¬ ((q / 4 : Nat) : Int) = S 1 (ab_fl S q) / 4 by omega), if_neg (by rw [hus]; decide)])
              | rw [if_pos (show ((q / 4 : Nat) : Int) = S 1 (ab_fl S q) / 4 by omega)]
        · skip
          refine wk_iload_n C rfl dX6_wanted_46 ?_
          refine wk_bipush C (n := 32) (by decide) dX6_wanted_47 ?_
          refine wk_isub C dX6_wanted_49 ?_
          refine wk_iconst C dX6_wanted_50 ?_
          refine wk_irem C (by omega) (by omega) dX6_wanted_51 ?_
          refine wk_iload_n C rfl dX6_wanted_52 ?_
          refine wk_iconst C dX6_wanted_53 ?_
          refine wk_idiv C (by omega) (by omega) dX6_wanted_54 ?_
          rw [show (((q : Nat) : Int) - 32) % 4 = (((q - 32) % 4 : Nat) : Int) by omega, show S 1 (ab_fl S q) / 4 = ((ab_lb S (ab_fl S q) : Nat) : Int) from f1.symm]
          refine wk_ofI C (wk_runS (index := 142) (st := []) C (c_X6_south l g hI _ ((q - 32) % 4) (ab_lb S (ab_fl S q)) (by omega) (by omega)) (cwS 2 C.2.2.2.2.1 gX6_wanted_X6_south rfl rfl rfl (by decide +kernel) ⟨Nat.le_of_ble_eq_true rfl, Nat.le_of_ble_eq_true rfl⟩) rfl rfl (Nat.le_of_ble_eq_true rfl) dX6_wanted_55 ⟨Nat.zero_le _, Nat.zero_le _⟩) (fun r55 σ55 hp55 => ?_)
          obtain ⟨hsg55, rfl⟩ := hp55
          rw [hsg55]
          refine wk_iret C hr hlk dX6_wanted_58 ?_
          refine ⟨rfl, ?_⟩
          rw [ab_w, if_neg hw0, if_neg (by omega), if_pos (by omega)]
          omega
      · skip
        refine wk_bipush C (n := 16) (by decide) dX6_wanted_35 ?_
        refine wk_iload_n C rfl dX6_wanted_37 ?_
        refine wk_iadd C dX6_wanted_38 ?_
        refine wk_iret C hr hlk dX6_wanted_39 ?_
        exact ⟨rfl, by rw [ab_w, if_neg hw0, if_pos (by omega)]⟩
    · skip
      refine wk_iload_n C rfl dX6_wanted_15 ?_
      refine wk_bipush C (n := 32) (by decide) dX6_wanted_16 ?_
      refine wk_icmp_ge C 23 (by omega) (by omega) (by decide) dX6_wanted_18 (fun hc18 => ?_) (fun hc18 => ?_)
      · skip
        have hp : 0 < S 14 q := by omega
        obtain ⟨e, e1, e2, e3, e4, e5, e6, e7, e8⟩ := ab_hd hS hq hp
        have hn24 := hS.2.1.2.2.2.2
        have h43 : σ 43 0 (4 * q) = S 20 (4 * q) := (hw.2 q hq hp).1
        have h45 : σ 45 0 (4 * q) = S 23 (4 * q) := (hw.2 q hq hp).2
        obtain ⟨f1, f2, f3, f4⟩ := ab_lbv e2
        have g1 := e2.2.1
        have hw0 : ¬ (S 14 q = 0 ∨ (16 ≤ q ∧ q < 32)) := by omega
        refine wk_aload_n C rfl dX6_wanted_23 ?_
        refine wk_iload_n C rfl dX6_wanted_24 ?_
        refine wk_ofI C (wk_runV (index := 148) (ci := 6) (st := []) C (c_X6_targetOf l g hI _ q hq S b hv hS hw hp) (cwV 1 C.2.2.2.2.1 gX6_wanted_X6_targetOf rfl rfl rfl (by decide +kernel) ⟨Nat.le_of_ble_eq_true rfl, Nat.le_of_ble_eq_true rfl⟩) rfl (show 0 < (1:Nat) by decide) rfl rfl rfl (Nat.le_of_ble_eq_true rfl) dX6_wanted_25 ⟨Nat.zero_le _, Nat.zero_le _⟩) (fun r25 σ25 hp25 => ?_)
        obtain ⟨hsg25, rfl⟩ := hp25
        rw [hsg25]
        refine wk_istore_n C (by decide) (Nat.le_of_ble_eq_true rfl) dX6_wanted_28 ?_
        refine wk_iload_n C rfl dX6_wanted_29 ?_
        refine wk_bipush C (n := 48) (by decide) dX6_wanted_30 ?_
        refine wk_icmp_lt C 40 (by omega) (by omega) (by decide) dX6_wanted_32 (fun hc32 => ?_) (fun hc32 => ?_)
        · skip
          refine wk_iload_n C rfl dX6_wanted_40 ?_
          refine wk_bipush C (n := 32) (by decide) dX6_wanted_41 ?_
          refine wk_icmp_lt C 59 (by omega) (by omega) (by decide) dX6_wanted_43 (fun hc43 => ?_) (fun hc43 => ?_)
          · skip
            have hq16 : q < 16 := by omega
            have h6 := e6 hq16
            refine wk_aload_n C rfl dX6_wanted_59 ?_
            refine wk_getr C (k := 20) (ci := 6) (j := 25) (T := TX6) rfl (show 0 < (1:Nat) by decide) rfl in_c_X6_wanted_X6 (by decide) (by decide +kernel) rfl dX6_wanted_60 ?_
            refine wk_iconst C dX6_wanted_63 ?_
            refine wk_iload_n C rfl dX6_wanted_64 ?_
            refine wk_imul C dX6_wanted_65 ?_
            refine wk_iald C (k := 45) rfl (show 0 < (1:Nat) by decide) (Nat.le_of_ble_eq_true rfl) ((4 * q)) (by omega) (show _ < (256:Nat) by omega) dX6_wanted_66 ?_
            rw [h45]
            refine wk_istore_n C (by decide) (Nat.le_of_ble_eq_true rfl) dX6_wanted_67 ?_
            refine wk_iload_n C rfl dX6_wanted_68 ?_
            refine wk_iconst C dX6_wanted_69 ?_
            refine wk_idiv C (by omega) (by omega) dX6_wanted_70 ?_
            refine wk_iload_n C rfl dX6_wanted_71 ?_
            refine wk_iconst C dX6_wanted_72 ?_
            refine wk_idiv C (by omega) (by omega) dX6_wanted_73 ?_
            refine wk_icmp_ne C 84 (by omega) (by omega) (by decide) dX6_wanted_74 (fun hc74 => ?_) (fun hc74 => ?_)
            · skip
              have hfar : ab_far S (ab_fl S q) = true := by unfold ab_far; rw [decide_eq_true (by omega)]
              have h6 := h6.2 hfar
              have h23 : S 23 (4 * q) = (((S 23 (4 * q)).toNat : Nat) : Int) := (Int.toNat_of_nonneg h6.2).symm
              rw [h23]
              refine wk_aload_n C rfl dX6_wanted_84 ?_
              refine wk_iload_n C rfl dX6_wanted_85 ?_
              refine wk_iconst C dX6_wanted_86 ?_
              refine wk_idiv C (by omega) (by omega) dX6_wanted_87 ?_
              refine wk_iload_n C rfl dX6_wanted_88 ?_
              refine wk_iconst C dX6_wanted_89 ?_
              refine wk_idiv C (by omega) (by omega) dX6_wanted_90 ?_
              refine wk_iload_n C rfl dX6_wanted_91 ?_
              rw [show ((q : Nat) : Int) / 4 = ((q / 4 : Nat) : Int) by omega, show S 1 (ab_fl S q) / 4 = ((ab_lb S (ab_fl S q) : Nat) : Int) from f1.symm]
              refine wk_ofI C (wk_runV (index := 145) (ci := 6) (st := []) C (c_X6_isUsable l g hI _ (q / 4) (ab_lb S (ab_fl S q)) (S 23 (4 * q)).toNat (by omega) f2 (by omega) S b hv hS) (cwV 3 C.2.2.2.2.1 gX6_wanted_X6_isUsable rfl rfl rfl (by decide +kernel) ⟨Nat.le_of_ble_eq_true rfl, Nat.le_of_ble_eq_true rfl⟩) rfl (show 0 < (1:Nat) by decide) rfl rfl rfl (Nat.le_of_ble_eq_true rfl) dX6_wanted_92 ⟨Nat.zero_le _, Nat.zero_le _⟩) (fun r92 σ92 hp92 => ?_)
              obtain ⟨hsg92, rfl⟩ := hp92
              rw [hsg92]
              have h1r := ab_1r (ab_us S (q / 4) (ab_lb S (ab_fl S q)) (S 23 (4 * q)).toNat)
              refine wk_if_eq C 108 (by omega) (by decide) dX6_wanted_95 (fun hc95 => ?_) (fun hc95 => ?_)
              · skip
                have hus : ab_us S (q / 4) (ab_lb S (ab_fl S q)) (S 23 (4 * q)).toNat = false := by
                  cases hz : ab_us S (q / 4) (ab_lb S (ab_fl S q)) (S 23 (4 * q)).toNat
                  · rfl
                  · rw [hz, ab_1t] at hc95; omega
                refine wk_iconst C dX6_wanted_108 ?_
                refine wk_iret C hr hlk dX6_wanted_109 ?_
                refine ⟨rfl, ?_⟩
                rw [ab_w, if_neg hw0, if_neg (by omega), if_neg (by omega)]
                first
                  | (rw [if_neg (show ¬ ((q / 4 : Nat) : Int) = S 1 (ab_fl S q) / 4 by omega), if_pos hus]; omega)
                  | (rw [if_neg (show ¬ ((q / 4 : Nat) : Int) = S 1 (ab_fl S q) / 4 by omega), if_neg (by rw [hus]; decide)])
                  | rw [if_pos (show ((q / 4 : Nat) : Int) = S 1 (ab_fl S q) / 4 by omega)]
              · skip
                have hus : ab_us S (q / 4) (ab_lb S (ab_fl S q)) (S 23 (4 * q)).toNat = true := by
                  cases hz : ab_us S (q / 4) (ab_lb S (ab_fl S q)) (S 23 (4 * q)).toNat
                  · rw [hz, ab_1f] at hc95; omega
                  · rfl
                refine wk_iload_n C rfl dX6_wanted_98 ?_
                refine wk_iconst C dX6_wanted_99 ?_
                refine wk_idiv C (by omega) (by omega) dX6_wanted_100 ?_
                refine wk_iload_n C rfl dX6_wanted_101 ?_
                rw [show ((q : Nat) : Int) / 4 = ((q / 4 : Nat) : Int) by omega]
                refine wk_ofI C (wk_runS (index := 138) (st := []) C (c_X6_north l g hI _ (q / 4) (S 23 (4 * q)).toNat (by omega) (by omega)) (cwS 2 C.2.2.2.2.1 gX6_wanted_X6_north rfl rfl rfl (by decide +kernel) ⟨Nat.le_of_ble_eq_true rfl, Nat.le_of_ble_eq_true rfl⟩) rfl rfl (Nat.le_of_ble_eq_true rfl) dX6_wanted_102 ⟨Nat.zero_le _, Nat.zero_le _⟩) (fun r102 σ102 hp102 => ?_)
                obtain ⟨hsg102, rfl⟩ := hp102
                rw [hsg102]
                refine wk_goto C 109 (by decide) dX6_wanted_105 ?_
                refine wk_iret C hr hlk dX6_wanted_109 ?_
                refine ⟨rfl, ?_⟩
                rw [ab_w, if_neg hw0, if_neg (by omega), if_neg (by omega)]
                first
                  | (rw [if_neg (show ¬ ((q / 4 : Nat) : Int) = S 1 (ab_fl S q) / 4 by omega), if_pos hus]; omega)
                  | (rw [if_neg (show ¬ ((q / 4 : Nat) : Int) = S 1 (ab_fl S q) / 4 by omega), if_neg (by rw [hus]; decide)])
                  | rw [if_pos (show ((q / 4 : Nat) : Int) = S 1 (ab_fl S q) / 4 by omega)]
            · skip
              refine wk_bipush C (n := 16) (by decide) dX6_wanted_77 ?_
              refine wk_iload_n C rfl dX6_wanted_79 ?_
              refine wk_iadd C dX6_wanted_80 ?_
              refine wk_goto C 109 (by decide) dX6_wanted_81 ?_
              refine wk_iret C hr hlk dX6_wanted_109 ?_
              refine ⟨rfl, ?_⟩
              rw [ab_w, if_neg hw0, if_neg (by omega), if_neg (by omega)]
              first
                | (rw [if_neg (show ¬ ((q / 4 : Nat) : Int) = S 1 (ab_fl S q) / 4 by omega), if_pos hus]; omega)
                | (rw [if_neg (show ¬ ((q / 4 : Nat) : Int) = S 1 (ab_fl S q) / 4 by omega), if_neg (by rw [hus]; decide)])
                | rw [if_pos (show ((q / 4 : Nat) : Int) = S 1 (ab_fl S q) / 4 by omega)]
          · skip
            refine wk_iload_n C rfl dX6_wanted_46 ?_
            refine wk_bipush C (n := 32) (by decide) dX6_wanted_47 ?_
            refine wk_isub C dX6_wanted_49 ?_
            refine wk_iconst C dX6_wanted_50 ?_
            refine wk_irem C (by omega) (by omega) dX6_wanted_51 ?_
            refine wk_iload_n C rfl dX6_wanted_52 ?_
            refine wk_iconst C dX6_wanted_53 ?_
            refine wk_idiv C (by omega) (by omega) dX6_wanted_54 ?_
            rw [show (((q : Nat) : Int) - 32) % 4 = (((q - 32) % 4 : Nat) : Int) by omega, show S 1 (ab_fl S q) / 4 = ((ab_lb S (ab_fl S q) : Nat) : Int) from f1.symm]
            refine wk_ofI C (wk_runS (index := 142) (st := []) C (c_X6_south l g hI _ ((q - 32) % 4) (ab_lb S (ab_fl S q)) (by omega) (by omega)) (cwS 2 C.2.2.2.2.1 gX6_wanted_X6_south rfl rfl rfl (by decide +kernel) ⟨Nat.le_of_ble_eq_true rfl, Nat.le_of_ble_eq_true rfl⟩) rfl rfl (Nat.le_of_ble_eq_true rfl) dX6_wanted_55 ⟨Nat.zero_le _, Nat.zero_le _⟩) (fun r55 σ55 hp55 => ?_)
            obtain ⟨hsg55, rfl⟩ := hp55
            rw [hsg55]
            refine wk_iret C hr hlk dX6_wanted_58 ?_
            refine ⟨rfl, ?_⟩
            rw [ab_w, if_neg hw0, if_neg (by omega), if_pos (by omega)]
            omega
        · skip
          refine wk_bipush C (n := 16) (by decide) dX6_wanted_35 ?_
          refine wk_iload_n C rfl dX6_wanted_37 ?_
          refine wk_iadd C dX6_wanted_38 ?_
          refine wk_iret C hr hlk dX6_wanted_39 ?_
          exact ⟨rfl, by rw [ab_w, if_neg hw0, if_pos (by omega)]⟩
      · skip
        refine wk_iconst C dX6_wanted_21 ?_
        refine wk_iret C hr hlk dX6_wanted_22 ?_
        exact ⟨rfl, by rw [ab_w, if_pos (by omega)]⟩

theorem in_c_X6_leaves_X6 : ∀ w ∈ u_ws RX6 TX6 36, w ∈ wsX6_leaves := by decide +kernel
set_option maxRecDepth 100000 in
set_option maxHeartbeats 4000000 in
theorem c_X6_leaves (l : Launch) (g : am_g) (hI : am_inj (gR g)) (σ : am_M) (q sl : Nat) (hq : q < 64) (hs : sl < 8) (hv : 1 ≤ σ 39 0 q ∧ σ 39 0 q ≤ 4) (hck : 0 ≤ σ 20 0 3 ∧ σ 20 0 3 ≤ 100000) (hdl : 0 ≤ σ 20 0 0 ∧ σ 20 0 0 ≤ 5) (hsl : (σ 20 0 3 + 1 + σ 20 0 0) % 8 = ((sl : Nat) : Int))  : Met l yX6_leaves wsX6_leaves ({ frames := 0, cells := 0, slots := 0, locals := 0 }) (am_P (gR g) σ [.inr (20, 0), .inl ((q : Nat) : Int)]) (am_QV (gR g) (fun σ' => σ' = rl_drop σ q sl)) 0 0 (am_FA (gR g)) := by
  refine wk_start (cc := cX6_leaves) (nL := 3) (ret := none) (own := RX6) (by decide) rfl hI rfl (Nat.le_of_ble_eq_true rfl) ?_
  intro p e s m below meth c C hr hlk
  change wk _ p l e _ s m _ below meth c 0 0 _ _ _ _ 0 [some (.inr (20, 0)), some (.inl ((q : Nat) : Int)), none] [] σ
  refine wk_aload_n C rfl dX6_leaves_0 ?_
  refine wk_getr C (k := 20) (ci := 6) (j := 19) (T := TX6) rfl (show 0 < (1:Nat) by decide) rfl in_c_X6_leaves_X6 (by decide) (by decide +kernel) rfl dX6_leaves_1 ?_
  refine wk_iload_n C rfl dX6_leaves_4 ?_
  refine wk_dup2 C dX6_leaves_5 ?_
  refine wk_iald C (k := 39) rfl (show 0 < (1:Nat) by decide) (Nat.le_of_ble_eq_true rfl) (q) (by omega) (show _ < (64:Nat) by omega) dX6_leaves_6 ?_
  refine wk_iconst C dX6_leaves_7 ?_
  refine wk_isub C dX6_leaves_8 ?_
  refine wk_iast C (k := 39) rfl (show 0 < (1:Nat) by decide) (Nat.le_of_ble_eq_true rfl) (q) (by omega) (show _ < (64:Nat) by omega) dX6_leaves_9 ?_
  refine wk_iconst C dX6_leaves_10 ?_
  refine wk_iload_n C rfl dX6_leaves_11 ?_
  refine wk_imul C dX6_leaves_12 ?_
  rw [show (4 : Int) * ((q : Nat) : Int) = ((4 * q + 0 : Nat) : Int) by omega]
  refine wk_istore_n C (by decide) (Nat.le_of_ble_eq_true rfl) dX6_leaves_13 ?_
  have hl14 : ∀ (d n : Nat), (σ 39 0 q - 1).toNat + 1 ≤ n + d → n ≤ (σ 39 0 q - 1).toNat → wk (gR g) p l e (headSpec wsX6_leaves ({ frames := 0, cells := 0, slots := 0, locals := 0 })).room s m ([.inr (20, 0), .inl ((q : Nat) : Int)].map (am_tv (gR g))).toArray below meth c 0 0 (MQ below (am_QV (gR g) (fun σ' => σ' = rl_drop σ q sl)) ([.inr (20, 0), .inl ((q : Nat) : Int)].map (am_tv (gR g))).toArray s 0 0 (am_FA (gR g))) (am_FA (gR g)) s.heap 3 14 [some (.inr (20, 0)), some (.inl ((q : Nat) : Int)), some (.inl ((4 * q + n : Nat) : Int))] [] (rl_sh σ q (σ 39 0 q - 1) n) := by
    intro d
    induction d with
    | zero => intro n h1 h2; omega
    | succ d ih =>
      intro n h1 h2
      refine wk_iload_n C rfl dX6_leaves_14 ?_
      refine wk_iconst C dX6_leaves_15 ?_
      refine wk_iload_n C rfl dX6_leaves_16 ?_
      refine wk_imul C dX6_leaves_17 ?_
      refine wk_aload_n C rfl dX6_leaves_18 ?_
      refine wk_getr C (k := 20) (ci := 6) (j := 19) (T := TX6) rfl (show 0 < (1:Nat) by decide) rfl in_c_X6_leaves_X6 (by decide) (by decide +kernel) rfl dX6_leaves_19 ?_
      refine wk_iload_n C rfl dX6_leaves_22 ?_
      refine wk_iald C (k := 39) rfl (show 0 < (1:Nat) by decide) (Nat.le_of_ble_eq_true rfl) (q) (by omega) (show _ < (64:Nat) by omega) dX6_leaves_23 ?_
      rw [rl_sh39]
      refine wk_iadd C dX6_leaves_24 ?_
      refine wk_icmp_ge C 90 (by omega) (by omega) (by decide) dX6_leaves_25 (fun hc25 => ?_) (fun hc25 => ?_)
      · skip
        have hn : n = (σ 39 0 q - 1).toNat := by omega
        subst hn
        refine wk_aload_n C rfl dX6_leaves_90 ?_
        refine wk_getr C (k := 20) (ci := 6) (j := 22) (T := TX6) rfl (show 0 < (1:Nat) by decide) rfl in_c_X6_leaves_X6 (by decide) (by decide +kernel) rfl dX6_leaves_91 ?_
        refine wk_bipush C (n := 8) (by decide) dX6_leaves_94 ?_
        refine wk_iload_n C rfl dX6_leaves_96 ?_
        refine wk_imul C dX6_leaves_97 ?_
        refine wk_aload_n C rfl dX6_leaves_98 ?_
        refine wk_geti C (k := 20) (ci := 6) (j := 3) (T := TX6) rfl (show 0 < (1:Nat) by decide) rfl in_c_X6_leaves_X6 (by decide) (by decide +kernel) rfl dX6_leaves_99 ?_
        rw [rl_sho _ _ _ _ _ _ (by omega)]
        refine wk_iconst C dX6_leaves_102 ?_
        refine wk_iadd C dX6_leaves_103 ?_
        refine wk_aload_n C rfl dX6_leaves_104 ?_
        refine wk_geti C (k := 20) (ci := 6) (j := 0) (T := TX6) rfl (show 0 < (1:Nat) by decide) rfl in_c_X6_leaves_X6 (by decide) (by decide +kernel) rfl dX6_leaves_105 ?_
        rw [rl_sho _ _ _ _ _ _ (by omega)]
        refine wk_iadd C dX6_leaves_108 ?_
        refine wk_bipush C (n := 8) (by decide) dX6_leaves_109 ?_
        refine wk_irem C (by omega) (by omega) dX6_leaves_111 ?_
        rw [hsl]
        refine wk_iadd C dX6_leaves_112 ?_
        refine wk_dup2 C dX6_leaves_113 ?_
        refine wk_iald C (k := 42) rfl (show 0 < (1:Nat) by decide) (Nat.le_of_ble_eq_true rfl) ((8 * q + sl)) (by omega) (show _ < (512:Nat) by omega) dX6_leaves_114 ?_
        rw [rl_sho _ _ _ _ _ _ (by omega)]
        refine wk_iconst C dX6_leaves_115 ?_
        refine wk_iadd C dX6_leaves_116 ?_
        refine wk_iast C (k := 42) rfl (show 0 < (1:Nat) by decide) (Nat.le_of_ble_eq_true rfl) ((8 * q + sl)) (by omega) (show _ < (512:Nat) by omega) dX6_leaves_117 ?_
        refine wk_vret C hr hlk dX6_leaves_118 ?_
        rfl
      · skip
        refine wk_aload_n C rfl dX6_leaves_28 ?_
        refine wk_getr C (k := 20) (ci := 6) (j := 23) (T := TX6) rfl (show 0 < (1:Nat) by decide) rfl in_c_X6_leaves_X6 (by decide) (by decide +kernel) rfl dX6_leaves_29 ?_
        refine wk_iload_n C rfl dX6_leaves_32 ?_
        refine wk_aload_n C rfl dX6_leaves_33 ?_
        refine wk_getr C (k := 20) (ci := 6) (j := 23) (T := TX6) rfl (show 0 < (1:Nat) by decide) rfl in_c_X6_leaves_X6 (by decide) (by decide +kernel) rfl dX6_leaves_34 ?_
        refine wk_iload_n C rfl dX6_leaves_37 ?_
        refine wk_iconst C dX6_leaves_38 ?_
        refine wk_iadd C dX6_leaves_39 ?_
        refine wk_iald C (k := 43) rfl (show 0 < (1:Nat) by decide) (Nat.le_of_ble_eq_true rfl) ((4 * q + n + 1)) (by omega) (show _ < (256:Nat) by omega) dX6_leaves_40 ?_
        rw [rl_shq _ _ (by omega) (by omega)]
        refine wk_iast C (k := 43) rfl (show 0 < (1:Nat) by decide) (Nat.le_of_ble_eq_true rfl) (4 * q + n) (by omega) (show _ < (256:Nat) by omega) dX6_leaves_41 ?_
        refine wk_aload_n C rfl dX6_leaves_42 ?_
        refine wk_getr C (k := 20) (ci := 6) (j := 24) (T := TX6) rfl (show 0 < (1:Nat) by decide) rfl in_c_X6_leaves_X6 (by decide) (by decide +kernel) rfl dX6_leaves_43 ?_
        refine wk_iload_n C rfl dX6_leaves_46 ?_
        refine wk_aload_n C rfl dX6_leaves_47 ?_
        refine wk_getr C (k := 20) (ci := 6) (j := 24) (T := TX6) rfl (show 0 < (1:Nat) by decide) rfl in_c_X6_leaves_X6 (by decide) (by decide +kernel) rfl dX6_leaves_48 ?_
        refine wk_iload_n C rfl dX6_leaves_51 ?_
        refine wk_iconst C dX6_leaves_52 ?_
        refine wk_iadd C dX6_leaves_53 ?_
        refine wk_iald C (k := 44) rfl (show 0 < (1:Nat) by decide) (Nat.le_of_ble_eq_true rfl) ((4 * q + n + 1)) (by omega) (show _ < (256:Nat) by omega) dX6_leaves_54 ?_
        rw [am_up_app, if_neg (by omega), rl_shq _ _ (by omega) (by omega)]
        refine wk_iast C (k := 44) rfl (show 0 < (1:Nat) by decide) (Nat.le_of_ble_eq_true rfl) (4 * q + n) (by omega) (show _ < (256:Nat) by omega) dX6_leaves_55 ?_
        refine wk_aload_n C rfl dX6_leaves_56 ?_
        refine wk_getr C (k := 20) (ci := 6) (j := 25) (T := TX6) rfl (show 0 < (1:Nat) by decide) rfl in_c_X6_leaves_X6 (by decide) (by decide +kernel) rfl dX6_leaves_57 ?_
        refine wk_iload_n C rfl dX6_leaves_60 ?_
        refine wk_aload_n C rfl dX6_leaves_61 ?_
        refine wk_getr C (k := 20) (ci := 6) (j := 25) (T := TX6) rfl (show 0 < (1:Nat) by decide) rfl in_c_X6_leaves_X6 (by decide) (by decide +kernel) rfl dX6_leaves_62 ?_
        refine wk_iload_n C rfl dX6_leaves_65 ?_
        refine wk_iconst C dX6_leaves_66 ?_
        refine wk_iadd C dX6_leaves_67 ?_
        refine wk_iald C (k := 45) rfl (show 0 < (1:Nat) by decide) (Nat.le_of_ble_eq_true rfl) ((4 * q + n + 1)) (by omega) (show _ < (256:Nat) by omega) dX6_leaves_68 ?_
        rw [am_up_app, if_neg (by omega), am_up_app, if_neg (by omega), rl_shq _ _ (by omega) (by omega)]
        refine wk_iast C (k := 45) rfl (show 0 < (1:Nat) by decide) (Nat.le_of_ble_eq_true rfl) (4 * q + n) (by omega) (show _ < (256:Nat) by omega) dX6_leaves_69 ?_
        refine wk_aload_n C rfl dX6_leaves_70 ?_
        refine wk_getr C (k := 20) (ci := 6) (j := 26) (T := TX6) rfl (show 0 < (1:Nat) by decide) rfl in_c_X6_leaves_X6 (by decide) (by decide +kernel) rfl dX6_leaves_71 ?_
        refine wk_iload_n C rfl dX6_leaves_74 ?_
        refine wk_aload_n C rfl dX6_leaves_75 ?_
        refine wk_getr C (k := 20) (ci := 6) (j := 26) (T := TX6) rfl (show 0 < (1:Nat) by decide) rfl in_c_X6_leaves_X6 (by decide) (by decide +kernel) rfl dX6_leaves_76 ?_
        refine wk_iload_n C rfl dX6_leaves_79 ?_
        refine wk_iconst C dX6_leaves_80 ?_
        refine wk_iadd C dX6_leaves_81 ?_
        refine wk_iald C (k := 46) rfl (show 0 < (1:Nat) by decide) (Nat.le_of_ble_eq_true rfl) ((4 * q + n + 1)) (by omega) (show _ < (256:Nat) by omega) dX6_leaves_82 ?_
        rw [am_up_app, if_neg (by omega), am_up_app, if_neg (by omega), am_up_app, if_neg (by omega), rl_shq _ _ (by omega) (by omega)]
        refine wk_iast C (k := 46) rfl (show 0 < (1:Nat) by decide) (Nat.le_of_ble_eq_true rfl) (4 * q + n) (by omega) (show _ < (256:Nat) by omega) dX6_leaves_83 ?_
        refine wk_iinc C rfl (by decide) dX6_leaves_84 ?_
        rw [show ((4 * q + n : Nat) : Int) + 1 = ((4 * q + (n + 1) : Nat) : Int) by omega]
        refine wk_goto C 14 (by decide) dX6_leaves_87 ?_
        have := ih (n + 1) (by omega) (by omega)
        rw [rl_shS] at this
        exact this
  have := hl14 ((σ 39 0 q - 1).toNat + 1) 0 (by omega) (by omega)
  rw [rl_sh0] at this
  exact this
