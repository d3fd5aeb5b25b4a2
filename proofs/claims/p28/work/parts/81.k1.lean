/-! what is set: a link, a host, a node -/
def lS (L k x j : Nat) : Prop := (k = 11 ∧ x = L ∧ j < 2) ∨ (k = 12 ∧ x = L ∧ j < 4)
def hS (h k x j : Nat) : Prop := (k = 10 ∧ x = h ∧ j < 2) ∨ (k = 11 ∧ (x = h ∨ x = 16 + h) ∧ j < 2) ∨ (k = 12 ∧ (x = h ∨ x = 16 + h) ∧ j < 4)
def nS (n k x j : Nat) : Prop := k = 15 ∧ x = n ∧ j < 3
def cS (a b c d e k x j : Nat) : Prop := (k = 0 ∧ x = 0 ∧ j < 8) ∨ (k = 1 ∧ x = 0 ∧ j < a) ∨ (k = 2 ∧ x = 0 ∧ j < b) ∨ (k = 10 ∧ x < b ∧ j < 2) ∨ (k = 11 ∧ j < 2 ∧ (x < b ∨ (16 ≤ x ∧ x < 16 + b) ∨ (32 ≤ x ∧ x < 32 + c) ∨ (48 ≤ x ∧ x < 48 + c))) ∨ (k = 12 ∧ j < 4 ∧ (x < b ∨ (16 ≤ x ∧ x < 16 + b) ∨ (32 ≤ x ∧ x < 32 + c) ∨ (48 ≤ x ∧ x < 48 + c))) ∨ (k = 3 ∧ x = 0 ∧ (j < b ∨ (16 ≤ j ∧ j < 16 + b) ∨ (32 ≤ j ∧ j < 32 + c) ∨ (48 ≤ j ∧ j < 48 + c))) ∨
  ((k = 4 ∨ k = 5) ∧ x = 0 ∧ j < c) ∨ (k = 6 ∧ x = 0 ∧ j < d) ∨ (k = 7 ∧ x = 0 ∧ j < e) ∨ (k = 15 ∧ j < 3 ∧ (x < d ∨ (4 ≤ x ∧ x < 4 + e))) ∨ ((k = 16 ∨ k = 17) ∧ ((x < d ∧ j < 8) ∨ (4 ≤ x ∧ x < 4 + e ∧ j < 4)))
theorem cs_imp {S P : Nat → Nat → Nat → Prop} {σ τ : am_M} (hs : ∀ k x j, S k x j → σ k x j ≠ 0) (hp : ∀ k x j, (σ k x j ≠ 0 ∨ P k x j) → τ k x j ≠ 0) : ∀ k x j, (S k x j ∨ P k x j) → τ k x j ≠ 0 :=
  fun k x j hq => hp k x j (hq.imp (hs k x j) id)
theorem up_nzI {S : Nat → Nat → Nat → Prop} {σ : am_M} (hs : ∀ k x j, S k x j → σ k x j ≠ 0) (K I J : Nat) (v : Int) (hv : v ≠ 0) : ∀ k x j, S k x j → am_up σ K I J v k x j ≠ 0 := by
  intro k x j hq
  rw [am_up_app]
  split
  · exact hv
  · exact hs k x j hq
theorem lc_dle (n : Nat) : lc_d n ≤ 8 := by unfold lc_d; split <;> omega

set_option maxRecDepth 100000 in
set_option maxHeartbeats 4000000 in
/-- new Packet -/
theorem cc_X4_init (l : Launch) (g : am_g) (hI : am_inj (gC g)) (z : Nat) (σ : am_M) (q : Nat)  : Met l yX4_init wsX4_init ({ frames := 1, cells := 0, slots := 0, locals := 20 }) (cP (gC g) (z, σ) [.inr (14, q)]) (cQV (gC g) (fun w => w = (z, σ))) (0) (0) (am_FA (gC g)) := by
  refine ck_start (cc := cX4_init) (nL := 1) (ret := none) (own := RX4) (by decide) rfl hI rfl (Nat.le_of_ble_eq_true rfl) ?_
  intro p e s m below meth c C hao hnm hr hlk
  change ck _ p l e _ s m _ below meth c 0 0 _ _ _ _ 0 [some (.inr (14, q))] [] (z, σ)
  refine ck_aload_n C rfl dX4_init_0 ?_
  refine ck_obj C (idx := 1) (by decide +kernel) (by decide +kernel) (by decide +kernel) (Nat.le_of_ble_eq_true rfl) (Nat.le_of_ble_eq_true rfl) (Nat.le_of_ble_eq_true rfl) dX4_init_1 ?_
  refine ck_vret C hr hlk rfl rfl dX4_init_4 ?_
  exact rfl

set_option maxRecDepth 100000 in
set_option maxHeartbeats 4000000 in
/-- new Flow -/
theorem cc_X0_init (l : Launch) (g : am_g) (hI : am_inj (gC g)) (z : Nat) (σ : am_M) (f : Nat)  : Met l yX0_init wsX0_init ({ frames := 1, cells := 0, slots := 0, locals := 20 }) (cP (gC g) (z, σ) [.inr (9, f)]) (cQV (gC g) (fun w => w = (z, σ))) (0) (0) (am_FA (gC g)) := by
  refine ck_start (cc := cX0_init) (nL := 1) (ret := none) (own := RX0) (by decide) rfl hI rfl (Nat.le_of_ble_eq_true rfl) ?_
  intro p e s m below meth c C hao hnm hr hlk
  change ck _ p l e _ s m _ below meth c 0 0 _ _ _ _ 0 [some (.inr (9, f))] [] (z, σ)
  refine ck_aload_n C rfl dX0_init_0 ?_
  refine ck_obj C (idx := 3) (by decide +kernel) (by decide +kernel) (by decide +kernel) (Nat.le_of_ble_eq_true rfl) (Nat.le_of_ble_eq_true rfl) (Nat.le_of_ble_eq_true rfl) dX0_init_1 ?_
  refine ck_vret C hr hlk rfl rfl dX0_init_4 ?_
  exact rfl

theorem in_cc_X2_init_X2 : ∀ w ∈ u_ws RX2 TX2 7, w ∈ wsX2_init := by decide +kernel
theorem in_cc_X2_init_X4 : ∀ w ∈ u_ws RX4 TX4 4, w ∈ wsX2_init := by decide +kernel
set_option maxRecDepth 100000 in
set_option maxHeartbeats 4000000 in
/-- new Link -/
theorem cc_X2_init (l : Launch) (g : am_g) (hI : am_inj (gC g)) (a : Nat) (σ : am_M) (L : Nat) (hL : L < 64) (hA : lk_A g L a) : Met l yX2_init wsX2_init ({ frames := 2, cells := 6, slots := 27, locals := 40 }) (cP (gC g) (a + 1, σ) [.inr (11, L)]) (cQV (gC g) (fun w => w.1 = a + 7 ∧ ∀ k x j, (σ k x j ≠ 0 ∨ lS L k x j) → w.2 k x j ≠ 0)) (6) (27) (am_FA (gC g)) := by
  refine ck_start (cc := cX2_init) (nL := 2) (ret := none) (own := RX2) (by decide) rfl hI rfl (Nat.le_of_ble_eq_true rfl) ?_
  intro p e s m below meth c C hao hnm hr hlk
  change ck _ p l e _ s m _ below meth c 0 0 _ _ _ _ 0 [some (.inr (11, L)), none] [] (a + 1, σ)
  have hs0 : ∀ k x j, σ k x j ≠ 0 → σ k x j ≠ 0 := fun _ _ _ h => h
  refine ck_aload_n C rfl dX2_init_0 ?_
  refine ck_obj C (idx := 3) (by decide +kernel) (by decide +kernel) (by decide +kernel) (Nat.le_of_ble_eq_true rfl) (Nat.le_of_ble_eq_true rfl) (Nat.le_of_ble_eq_true rfl) dX2_init_1 ?_
  refine ck_aload_n C rfl dX2_init_4 ?_
  refine ck_iconst C dX2_init_5 ?_
  refine ck_anew C (t := 6) (n := 4) (i := L) (index := 9) 12 hao.2.2.2.2 rfl rfl (show _ < (64:Nat) by omega) (Eq.trans hA.2.1 (show _ = a + 1 by omega)) (by omega) (by omega) (by decide +kernel) (show 0 + 1 ≤ 6 by omega) (show 0 + 4 ≤ 27 by omega) dX2_init_6 ?_
  change ck _ p l e _ s m _ below meth c (0 + 1) (0 + 4) _ _ _ _ _ _ _ (a + 1 + 1, σ)
  refine ck_putR C hnm (k := 11) (ci := 2) (j := 0) (T := TX2) rfl (show _ < (64:Nat) by omega) (ca_lt hA.1 (show _ < a + 1 + 1 by omega)) rfl in_cc_X2_init_X2 tyX2 tyX2_ok nmX2 (by decide) (by decide +kernel) rfl rfl rfl (fun _ => rfl) (fun _ => rfl) dX2_init_9 ?_
  have hs1 := up_nz hs0 11 (L) (0)
  change ck _ p l e _ s m _ below meth c (0 + 1) (0 + 4) _ _ _ _ _ _ _ (a + 1 + 1, am_up σ 11 (L) (0) 1)
  generalize am_up σ 11 (L) (0) 1 = σ1 at hs1 ⊢
  refine ck_aload_n C rfl dX2_init_12 ?_
  refine ck_bipush C (n := 7) (by decide) dX2_init_13 ?_
  refine ck_newa C (t := 0) (n := 7) (i := L) 13 rfl rfl rfl (show _ < (64:Nat) by omega) (Eq.trans hA.2.2.1 (show _ = a + 1 + 1 by omega)) (by omega) (by omega) (by decide) rfl (by intro D hD; cases hD) (by decide +kernel) (show 0 + 1 + 1 ≤ 6 by omega) (show 0 + 4 + 7 ≤ 27 by omega) dX2_init_15 ?_
  change ck _ p l e _ s m _ below meth c (0 + 1 + 1) (0 + 4 + 7) _ _ _ _ _ _ _ (a + 1 + 1 + 1, σ1)
  refine ck_putR C hnm (k := 11) (ci := 2) (j := 1) (T := TX2) rfl (show _ < (64:Nat) by omega) (ca_lt hA.1 (show _ < a + 1 + 1 + 1 by omega)) rfl in_cc_X2_init_X2 tyX2 tyX2_ok nmX2 (by decide) (by decide +kernel) rfl rfl rfl (fun _ => rfl) (fun _ => rfl) dX2_init_17 ?_
  have hs2 := up_nz hs1 11 (L) (1)
  change ck _ p l e _ s m _ below meth c (0 + 1 + 1) (0 + 4 + 7) _ _ _ _ _ _ _ (a + 1 + 1 + 1, am_up σ1 11 (L) (1) 1)
  generalize am_up σ1 11 (L) (1) 1 = σ2 at hs2 ⊢
  refine ck_iconst C dX2_init_20 ?_
  refine ck_istore_n C (by decide) (Nat.le_of_ble_eq_true rfl) dX2_init_21 ?_
  have hl22 : ∀ (d i : Nat) (σ3 : am_M), 5 ≤ i + d → i ≤ 4 → (∀ k x j, (σ k x j ≠ 0 ∨ (k = 11 ∧ x = L ∧ j < 2) ∨ (k = 12 ∧ x = L ∧ j < i)) → σ3 k x j ≠ 0) → ck (gC g) p l e (headSpec wsX2_init ({ frames := 2, cells := 6, slots := 27, locals := 40 })).room s m ([.inr (11, L)].map (am_tv (gC g))).toArray below meth c (2 + i) (11 + 4 * i) (MQ below (cQV (gC g) (fun w => w.1 = a + 7 ∧ ∀ k x j, (σ k x j ≠ 0 ∨ lS L k x j) → w.2 k x j ≠ 0)) ([.inr (11, L)].map (am_tv (gC g))).toArray s (6) (27) (am_FA (gC g))) (am_FA (gC g)) s.heap 2 22 [some (.inr (11, L)), some (.inl ((i : Nat) : Int))] [] (a + 3 + i, σ3) := by
    intro d
    induction d with
    | zero => intro i σ3 h1 h2 h3; exact absurd h1 (by omega)
    | succ d ih =>
      intro i σ3 h1 h2 hs3
      refine ck_iload_n C rfl dX2_init_22 ?_
      refine ck_aload_n C rfl dX2_init_23 ?_
      refine ck_getr C (k := 11) (ci := 2) (j := 0) (T := TX2) rfl (show _ < (64:Nat) by omega) (ca_lt hA.1 (show _ < a + 3 + i by omega)) (hs3 11 (L) 0 (by (try simp only [lS, hS, nS, cS]); (try simp) <;> omega)) rfl in_cc_X2_init_X2 (by decide) (by decide +kernel) rfl dX2_init_24 ?_
      refine ck_alenR C (k := 12) rfl rfl (show _ < (64:Nat) by omega) (ca_lt hA.2.1 (show _ < a + 3 + i by omega)) dX2_init_27 ?_
      refine ck_icmp_ge C 50 (by omega) (by omega) (by decide) dX2_init_28 (fun hc28 => ?_) (fun hc28 => ?_)
      · skip
        obtain rfl : i = 4 := by omega
        refine ck_vret C hr hlk rfl rfl dX2_init_50 ?_
        refine ⟨rfl, fun k x j hq => hs3 k x j ?_⟩
        (try simp only [lS, hS, nS, cS] at hq); (repeat' (first | (refine Or.elim hq ?_ ?_ <;> clear hq <;> intro hq) | fail)) <;> (first | (obtain ⟨rfl, hq⟩ := hq; ((try simp only [lS, hS, nS, cS]); (try simp) <;> omega)) | (obtain ⟨rfl | rfl, hq⟩ := hq <;> ((try simp only [lS, hS, nS, cS]); (try simp) <;> omega)) | (simp only [hq]; simp) | (simp [hq]))
      · skip
        refine ck_aload_n C rfl dX2_init_31 ?_
        refine ck_getr C (k := 11) (ci := 2) (j := 0) (T := TX2) rfl (show _ < (64:Nat) by omega) (ca_lt hA.1 (show _ < a + 3 + i by omega)) (hs3 11 (L) 0 (by (try simp only [lS, hS, nS, cS]); (try simp) <;> omega)) rfl in_cc_X2_init_X2 (by decide) (by decide +kernel) rfl dX2_init_32 ?_
        refine ck_iload_n C rfl dX2_init_35 ?_
        have hi4 : i < 4 := by omega
        refine ck_new C (ci := 4) (i := (4 * L + i)) (T := TX4) (index := 9) 14 [false, false, false, false] rfl (show _ < (256:Nat) by omega) (Eq.trans (hA.2.2.2 i (by omega)) (show _ = a + 3 + i by omega)) rfl in_cc_X2_init_X4 tyX4 tyX4_ok (by decide +kernel) (by decide +kernel) (by decide +kernel) rfl (by decide +kernel) (show 2 + i + 1 ≤ 6 by omega) (show 11 + 4 * i + 4 ≤ 27 by omega) dX2_init_36 ?_
        change ck _ p l e _ s m _ below meth c (2 + i + 1) (11 + 4 * i + 4) _ _ _ _ _ _ _ (a + 3 + i + 1, σ3)
        refine ck_dup C dX2_init_39 ?_
        refine ck_ofV C (ck_runIN (host := RX5) (index := 21) (st := [_, _, _]) C hao (cc_X4_init l g hI (a + 3 + i + 1) σ3 (4 * L + i)) ⟨va_cnB 0 C.2.2.2.2.1 gX2_init_X4_init_n21 rfl rfl rfl (C.2.2.2.2.2.1.2 _ (by decide +kernel)) (C.2.2.2.2.1 (.initialized RX4) (by decide +kernel)) (by decide +kernel) ⟨Nat.le_of_ble_eq_true rfl, Nat.le_of_ble_eq_true rfl⟩, rfl, C.2.2.2.2.1 (.instanceMethod yX4_init) (by decide +kernel)⟩ rfl rfl (Nat.le_of_ble_eq_true rfl) dX2_init_40 ⟨show 2 + i + 1 + 0 ≤ 6 by omega, show 11 + 4 * i + 4 + 0 ≤ 27 by omega⟩) (fun w4 hp4 => ?_)
        subst hp4
        refine ck_aast C (k := 12) (ci := 4) rfl rfl (show _ < (64:Nat) by omega) (ca_lt hA.2.1 (show _ < a + 3 + i + 1 by omega)) (Nat.le_of_ble_eq_true rfl) (i) (by omega) (show _ < (4:Nat) by omega) rfl rfl rfl (show _ < (256:Nat) by omega) (ca_lt (hA.2.2.2 i (by omega)) (show _ < a + 3 + i + 1 by omega)) dX2_init_43 ?_
        have hs5 := up_nz hs3 12 (L) (i)
        change ck _ p l e _ s m _ below meth c (2 + i + 1 + 0) (11 + 4 * i + 4 + 0) _ _ _ _ _ _ _ (a + 3 + i + 1, am_up σ3 12 (L) (i) 1)
        generalize am_up σ3 12 (L) (i) 1 = σ5 at hs5 ⊢
        refine ck_iinc C rfl (by decide) dX2_init_44 ?_
        refine ck_goto C 22 (by decide) dX2_init_47 ?_
        refine ck_of (cells' := 2 + (i + 1)) (slots' := 11 + 4 * (i + 1)) (σ' := (a + 3 + (i + 1), σ5)) (by omega) (by omega) (show _ = _ by omega) rfl ?_
        exact ih (i + 1) _ (by omega) (by omega) (fun k x j hq => hs5 k x j (by (try simp only [lS, hS, nS, cS] at hq); (repeat' (first | (refine Or.elim hq ?_ ?_ <;> clear hq <;> intro hq) | fail)) <;> (first | (obtain ⟨rfl, hq⟩ := hq; ((try simp only [lS, hS, nS, cS]); (try simp) <;> omega)) | (obtain ⟨rfl | rfl, hq⟩ := hq <;> ((try simp only [lS, hS, nS, cS]); (try simp) <;> omega)) | (simp only [hq]; simp) | (simp [hq]))))
  refine ck_of (cells' := 2 + 0) (slots' := 11 + 4 * 0) (σ' := (a + 3 + 0, σ2)) (by omega) (by omega) (show _ = _ by omega) rfl ?_
  exact hl22 5 0 _ (by omega) (by omega) (fun k x j hq => hs2 k x j (by (try simp only [lS, hS, nS, cS] at hq); (repeat' (first | (refine Or.elim hq ?_ ?_ <;> clear hq <;> intro hq) | fail)) <;> (first | (obtain ⟨rfl, hq⟩ := hq; ((try simp only [lS, hS, nS, cS]); (try simp) <;> omega)) | (obtain ⟨rfl | rfl, hq⟩ := hq <;> ((try simp only [lS, hS, nS, cS]); (try simp) <;> omega)) | (simp only [hq]; simp) | (simp [hq]))))

theorem in_cc_X1_init_X1 : ∀ w ∈ u_ws RX1 TX1 4, w ∈ wsX1_init := by decide +kernel
theorem in_cc_X1_init_X2 : ∀ w ∈ u_ws RX2 TX2 7, w ∈ wsX1_init := by decide +kernel
set_option maxRecDepth 100000 in
set_option maxHeartbeats 4000000 in
/-- new Host -/
theorem cc_X1_init (l : Launch) (g : am_g) (hI : am_inj (gC g)) (a : Nat) (σ : am_M) (h : Nat) (hh : h < 16) (hA : g.2.2 10 h = a) (hB : lk_A g h (a + 1)) (hD : lk_A g (16 + h) (a + 8)) : Met l yX1_init wsX1_init ({ frames := 3, cells := 14, slots := 68, locals := 61 }) (cP (gC g) (a + 1, σ) [.inr (10, h)]) (cQV (gC g) (fun w => w.1 = a + 15 ∧ ∀ k x j, (σ k x j ≠ 0 ∨ hS h k x j) → w.2 k x j ≠ 0)) (14) (68) (am_FA (gC g)) := by
  refine ck_start (cc := cX1_init) (nL := 1) (ret := none) (own := RX1) (by decide) rfl hI rfl (Nat.le_of_ble_eq_true rfl) ?_
  intro p e s m below meth c C hao hnm hr hlk
  change ck _ p l e _ s m _ below meth c 0 0 _ _ _ _ 0 [some (.inr (10, h))] [] (a + 1, σ)
  have hs0 : ∀ k x j, σ k x j ≠ 0 → σ k x j ≠ 0 := fun _ _ _ h => h
  refine ck_aload_n C rfl dX1_init_0 ?_
  refine ck_obj C (idx := 3) (by decide +kernel) (by decide +kernel) (by decide +kernel) (Nat.le_of_ble_eq_true rfl) (Nat.le_of_ble_eq_true rfl) (Nat.le_of_ble_eq_true rfl) dX1_init_1 ?_
  refine ck_aload_n C rfl dX1_init_4 ?_
  refine ck_new C (ci := 2) (i := h) (T := TX2) (index := 9) 11 [true, true, false, false, false, false, false] rfl (show _ < (64:Nat) by omega) (Eq.trans hB.1 (show _ = a + 1 by omega)) rfl in_cc_X1_init_X2 tyX2 tyX2_ok (by decide +kernel) (by decide +kernel) (by decide +kernel) rfl (by decide +kernel) (show 0 + 1 ≤ 14 by omega) (show 0 + 7 ≤ 68 by omega) dX1_init_5 ?_
  change ck _ p l e _ s m _ below meth c (0 + 1) (0 + 7) _ _ _ _ _ _ _ (a + 1 + 1, σ)
  refine ck_dup C dX1_init_8 ?_
  refine ck_ofV C (ck_runIN (host := RX5) (index := 11) (st := [_, _]) C hao (cc_X2_init l g hI (a + 1) σ h (by omega) hB) ⟨va_cnB 0 C.2.2.2.2.1 gX1_init_X2_init_n11 rfl rfl rfl (C.2.2.2.2.2.1.2 _ (by decide +kernel)) (C.2.2.2.2.1 (.initialized RX2) (by decide +kernel)) (by decide +kernel) ⟨Nat.le_of_ble_eq_true rfl, Nat.le_of_ble_eq_true rfl⟩, rfl, C.2.2.2.2.1 (.instanceMethod yX2_init) (by decide +kernel)⟩ rfl rfl (Nat.le_of_ble_eq_true rfl) dX1_init_9 ⟨show 0 + 1 + 6 ≤ 14 by omega, show 0 + 7 + 27 ≤ 68 by omega⟩) (fun w1 hp1 => ?_)
  obtain ⟨z1, σ1⟩ := w1
  obtain ⟨hz1, hp1⟩ := hp1
  change z1 = _ at hz1
  subst hz1
  have hs1 := cs_imp hs0 hp1
  change ck _ p l e _ s m _ below meth c (0 + 1 + 6) (0 + 7 + 27) _ _ _ _ _ _ _ (a + 1 + 7, σ1)
  refine ck_putR C hnm (k := 10) (ci := 1) (j := 0) (T := TX1) rfl (show _ < (16:Nat) by omega) (ca_lt hA (show _ < a + 1 + 7 by omega)) rfl in_cc_X1_init_X1 tyX1 tyX1_ok nmX1 (by decide) (by decide +kernel) rfl rfl rfl (fun _ => rfl) (fun _ => rfl) dX1_init_12 ?_
  have hs2 := up_nz hs1 10 (h) (0)
  change ck _ p l e _ s m _ below meth c (0 + 1 + 6) (0 + 7 + 27) _ _ _ _ _ _ _ (a + 1 + 7, am_up σ1 10 (h) (0) 1)
  generalize am_up σ1 10 (h) (0) 1 = σ2 at hs2 ⊢
  refine ck_aload_n C rfl dX1_init_15 ?_
  refine ck_new C (ci := 2) (i := (16 + h)) (T := TX2) (index := 9) 11 [true, true, false, false, false, false, false] rfl (show _ < (64:Nat) by omega) (Eq.trans hD.1 (show _ = a + 1 + 7 by omega)) rfl in_cc_X1_init_X2 tyX2 tyX2_ok (by decide +kernel) (by decide +kernel) (by decide +kernel) rfl (by decide +kernel) (show 0 + 1 + 6 + 1 ≤ 14 by omega) (show 0 + 7 + 27 + 7 ≤ 68 by omega) dX1_init_16 ?_
  change ck _ p l e _ s m _ below meth c (0 + 1 + 6 + 1) (0 + 7 + 27 + 7) _ _ _ _ _ _ _ (a + 1 + 7 + 1, σ2)
  refine ck_dup C dX1_init_19 ?_
  refine ck_ofV C (ck_runIN (host := RX5) (index := 11) (st := [_, _]) C hao (cc_X2_init l g hI (a + 8) σ2 (16 + h) (by omega) hD) ⟨va_cnB 0 C.2.2.2.2.1 gX1_init_X2_init_n11 rfl rfl rfl (C.2.2.2.2.2.1.2 _ (by decide +kernel)) (C.2.2.2.2.1 (.initialized RX2) (by decide +kernel)) (by decide +kernel) ⟨Nat.le_of_ble_eq_true rfl, Nat.le_of_ble_eq_true rfl⟩, rfl, C.2.2.2.2.1 (.instanceMethod yX2_init) (by decide +kernel)⟩ rfl rfl (Nat.le_of_ble_eq_true rfl) dX1_init_20 ⟨show 0 + 1 + 6 + 1 + 6 ≤ 14 by omega, show 0 + 7 + 27 + 7 + 27 ≤ 68 by omega⟩) (fun w3 hp3 => ?_)
  obtain ⟨z3, σ3⟩ := w3
  obtain ⟨hz3, hp3⟩ := hp3
  change z3 = _ at hz3
  subst hz3
  have hs3 := cs_imp hs2 hp3
  change ck _ p l e _ s m _ below meth c (0 + 1 + 6 + 1 + 6) (0 + 7 + 27 + 7 + 27) _ _ _ _ _ _ _ (a + 8 + 7, σ3)
  refine ck_putR C hnm (k := 10) (ci := 1) (j := 1) (T := TX1) rfl (show _ < (16:Nat) by omega) (ca_lt hA (show _ < a + 8 + 7 by omega)) rfl in_cc_X1_init_X1 tyX1 tyX1_ok nmX1 (by decide) (by decide +kernel) rfl rfl rfl (fun _ => rfl) (fun _ => rfl) dX1_init_23 ?_
  have hs4 := up_nz hs3 10 (h) (1)
  change ck _ p l e _ s m _ below meth c (0 + 1 + 6 + 1 + 6) (0 + 7 + 27 + 7 + 27) _ _ _ _ _ _ _ (a + 8 + 7, am_up σ3 10 (h) (1) 1)
  generalize am_up σ3 10 (h) (1) 1 = σ4 at hs4 ⊢
  refine ck_vret C hr hlk rfl rfl dX1_init_26 ?_
  refine ⟨rfl, fun k x j hq => hs4 k x j ?_⟩
  (try simp only [lS, hS, nS, cS] at hq); (repeat' (first | (refine Or.elim hq ?_ ?_ <;> clear hq <;> intro hq) | fail)) <;> (first | (obtain ⟨rfl, hq⟩ := hq; ((try simp only [lS, hS, nS, cS]); (try simp) <;> omega)) | (obtain ⟨rfl | rfl, hq⟩ := hq <;> ((try simp only [lS, hS, nS, cS]); (try simp) <;> omega)) | (simp only [hq]; simp) | (simp [hq]))

theorem in_cc_X3_init_X3 : ∀ w ∈ u_ws RX3 TX3 3, w ∈ wsX3_init := by decide +kernel
set_option maxRecDepth 100000 in
set_option maxHeartbeats 4000000 in
/-- new Node -/
theorem cc_X3_init (l : Launch) (g : am_g) (hI : am_inj (gC g)) (a : Nat) (σ : am_M) (n D : Nat) (hn : n < 8) (hD : lc_d n = D) (hA : nd_A g n a) : Met l yX3_init wsX3_init ({ frames := 1, cells := 3, slots := 3 * D, locals := 20 }) (cP (gC g) (a + 1, σ) [.inr (15, n), .inl ((D : Nat) : Int), .inl ((D : Nat) : Int)]) (cQV (gC g) (fun w => w.1 = a + 4 ∧ ∀ k x j, (σ k x j ≠ 0 ∨ nS n k x j) → w.2 k x j ≠ 0)) (3) (3 * D) (am_FA (gC g)) := by
  refine ck_start (cc := cX3_init) (nL := 3) (ret := none) (own := RX3) (by decide) rfl hI rfl (Nat.le_of_ble_eq_true rfl) ?_
  intro p e s m below meth c C hao hnm hr hlk
  change ck _ p l e _ s m _ below meth c 0 0 _ _ _ _ 0 [some (.inr (15, n)), some (.inl ((D : Nat) : Int)), some (.inl ((D : Nat) : Int))] [] (a + 1, σ)
  have hs0 : ∀ k x j, σ k x j ≠ 0 → σ k x j ≠ 0 := fun _ _ _ h => h
  refine ck_aload_n C rfl dX3_init_0 ?_
  refine ck_obj C (idx := 3) (by decide +kernel) (by decide +kernel) (by decide +kernel) (Nat.le_of_ble_eq_true rfl) (Nat.le_of_ble_eq_true rfl) (Nat.le_of_ble_eq_true rfl) dX3_init_1 ?_
  refine ck_aload_n C rfl dX3_init_4 ?_
  refine ck_iload_n C rfl dX3_init_5 ?_
  have hD8 := lc_dle n
  refine ck_anew C (t := 4) (n := lc_d n) (i := n) (index := 9) 16 hao.2.2.1 rfl rfl (show _ < (8:Nat) by omega) (Eq.trans hA.2.1 (show _ = a + 1 by omega)) (by omega) (by omega) (by decide +kernel) (show 0 + 1 ≤ 3 by omega) (show 0 + lc_d n ≤ 3 * D by omega) dX3_init_6 ?_
  change ck _ p l e _ s m _ below meth c (0 + 1) (0 + lc_d n) _ _ _ _ _ _ _ (a + 1 + 1, σ)
  refine ck_putR C hnm (k := 15) (ci := 3) (j := 0) (T := TX3) rfl (show _ < (8:Nat) by omega) (ca_lt hA.1 (show _ < a + 1 + 1 by omega)) rfl in_cc_X3_init_X3 tyX3 tyX3_ok nmX3 (by decide) (by decide +kernel) rfl rfl rfl (fun _ => rfl) (fun _ => rfl) dX3_init_9 ?_
  have hs1 := up_nz hs0 15 (n) (0)
  change ck _ p l e _ s m _ below meth c (0 + 1) (0 + lc_d n) _ _ _ _ _ _ _ (a + 1 + 1, am_up σ 15 (n) (0) 1)
  generalize am_up σ 15 (n) (0) 1 = σ1 at hs1 ⊢
  refine ck_aload_n C rfl dX3_init_12 ?_
  refine ck_iload_n C rfl dX3_init_13 ?_
  refine ck_anew C (t := 4) (n := lc_d n) (i := n) (index := 9) 17 hao.2.2.1 rfl rfl (show _ < (8:Nat) by omega) (Eq.trans hA.2.2.1 (show _ = a + 1 + 1 by omega)) (by omega) (by omega) (by decide +kernel) (show 0 + 1 + 1 ≤ 3 by omega) (show 0 + lc_d n + lc_d n ≤ 3 * D by omega) dX3_init_14 ?_
  change ck _ p l e _ s m _ below meth c (0 + 1 + 1) (0 + lc_d n + lc_d n) _ _ _ _ _ _ _ (a + 1 + 1 + 1, σ1)
  refine ck_putR C hnm (k := 15) (ci := 3) (j := 1) (T := TX3) rfl (show _ < (8:Nat) by omega) (ca_lt hA.1 (show _ < a + 1 + 1 + 1 by omega)) rfl in_cc_X3_init_X3 tyX3 tyX3_ok nmX3 (by decide) (by decide +kernel) rfl rfl rfl (fun _ => rfl) (fun _ => rfl) dX3_init_17 ?_
  have hs2 := up_nz hs1 15 (n) (1)
  change ck _ p l e _ s m _ below meth c (0 + 1 + 1) (0 + lc_d n + lc_d n) _ _ _ _ _ _ _ (a + 1 + 1 + 1, am_up σ1 15 (n) (1) 1)
  generalize am_up σ1 15 (n) (1) 1 = σ2 at hs2 ⊢
  refine ck_aload_n C rfl dX3_init_20 ?_
  refine ck_iload_n C rfl dX3_init_21 ?_
  refine ck_newa C (t := 0) (n := lc_d n) (i := n) 18 rfl rfl rfl (show _ < (8:Nat) by omega) (Eq.trans hA.2.2.2 (show _ = a + 1 + 1 + 1 by omega)) (by omega) (by omega) (by decide) rfl (by intro D hD; cases hD) (by decide +kernel) (show 0 + 1 + 1 + 1 ≤ 3 by omega) (show 0 + lc_d n + lc_d n + lc_d n ≤ 3 * D by omega) dX3_init_22 ?_
  change ck _ p l e _ s m _ below meth c (0 + 1 + 1 + 1) (0 + lc_d n + lc_d n + lc_d n) _ _ _ _ _ _ _ (a + 1 + 1 + 1 + 1, σ2)
  refine ck_putR C hnm (k := 15) (ci := 3) (j := 2) (T := TX3) rfl (show _ < (8:Nat) by omega) (ca_lt hA.1 (show _ < a + 1 + 1 + 1 + 1 by omega)) rfl in_cc_X3_init_X3 tyX3 tyX3_ok nmX3 (by decide) (by decide +kernel) rfl rfl rfl (fun _ => rfl) (fun _ => rfl) dX3_init_24 ?_
  have hs3 := up_nz hs2 15 (n) (2)
  change ck _ p l e _ s m _ below meth c (0 + 1 + 1 + 1) (0 + lc_d n + lc_d n + lc_d n) _ _ _ _ _ _ _ (a + 1 + 1 + 1 + 1, am_up σ2 15 (n) (2) 1)
  generalize am_up σ2 15 (n) (2) 1 = σ3 at hs3 ⊢
  refine ck_vret C hr hlk rfl (by omega) dX3_init_27 ?_
  refine ⟨rfl, fun k x j hq => hs3 k x j ?_⟩
  (try simp only [lS, hS, nS, cS] at hq); (repeat' (first | (refine Or.elim hq ?_ ?_ <;> clear hq <;> intro hq) | fail)) <;> (first | (obtain ⟨rfl, hq⟩ := hq; ((try simp only [lS, hS, nS, cS]); (try simp) <;> omega)) | (obtain ⟨rfl | rfl, hq⟩ := hq <;> ((try simp only [lS, hS, nS, cS]); (try simp) <;> omega)) | (simp only [hq]; simp) | (simp [hq]))
