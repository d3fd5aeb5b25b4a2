/-! sums over flows and links: what a tick changes of them -/
def s4 (S : ab_S) : Int := am_sum (fun f => S 4 f) (ab_n S)
def s5 (S : ab_S) : Int := am_sum (fun f => S 5 f) (ab_n S)
def s6 (S : ab_S) : Int := am_sum (fun f => S 6 f) (ab_n S)
theorem sm_cut {f : Nat → Int} {k : Nat} : ∀ m : Nat, (∀ d, k ≤ d → d < k + m → f d = 0) → am_sum f (k + m) = am_sum f k
  | 0, _ => rfl
  | m + 1, h => by
    rw [← Nat.add_assoc, am_sum, sm_cut m (fun d h1 h2 => h d h1 (by omega)), h (k + m) (by omega) (by omega)]; omega
theorem sm_app (f : Nat → Int) (k : Nat) : ∀ m : Nat, am_sum f (k + m) = am_sum f k + am_sum (fun d => f (k + d)) m
  | 0 => by rw [am_sum]; simp
  | m + 1 => by
    rw [← Nat.add_assoc, am_sum, sm_app f k m, am_sum]; omega
theorem sm_64 (f : Nat → Int) : am_sum f 64 = am_sum (fun k => f k + f (16 + k) + f (32 + k) + f (48 + k)) 16 := by
  have h1 := sm_app f 16 16
  have h2 := sm_app f 32 16
  have h3 := sm_app f 48 16
  rw [sm_add, sm_add, sm_add]
  show am_sum f (48 + 16) = _
  rw [h3]
  show am_sum f (32 + 16) + _ = _
  rw [h2]
  show am_sum f (16 + 16) + _ + _ = _
  rw [h1]
theorem sm_pos {f : Nat → Int} : ∀ {n : Nat}, 0 < am_sum f n → ∃ d, d < n ∧ 0 < f d
  | 0, h => absurd h (Int.lt_irrefl 0)
  | n + 1, h => by
    rw [am_sum] at h
    by_cases q : 0 < f n
    · exact ⟨n, by omega, q⟩
    · obtain ⟨d, h1, h2⟩ := sm_pos (show 0 < am_sum f n by omega)
      exact ⟨d, by omega, h2⟩
section PS
variable {S : ab_S} {b c : Int}
theorem qd_eq (h : ab_I S b) (hp : pva S c) : ab_qd S = s4 S - s5 S - s6 S := by
  rw [← tt_all h]
  unfold s4 s5 s6
  rw [← sm_sub, ← sm_sub]
  refine am_sum_cg (fun f hf => ?_)
  have := (hp.1 f (by unfold ab_n at hf; omega)).1.1
  omega
theorem ret_eq (h : ab_I S b) : ab_ret S = 256 - am_sum (fun L => S 13 L) 64 - ab_qd S := by
  have : am_sum (fun L => ab_rs S L) 64 = am_sum (fun L => (4 - S 13 L) - S 14 L) 64 := am_sum_cg (fun L hL => by
    have := (h.2.2.2.1 L hL).2.2.1
    omega)
  unfold ab_ret ab_qd
  rw [this, sm_sub, sm_sub, sm_const]
  rfl
theorem rs_nn (h : ab_I S b) {L : Nat} (hL : L < 64) : 0 ≤ ab_rs S L := ab_rs_pos (fun t => (h.2.2.2.2.1 L t hL).1)
theorem rs_v (h : ab_I S b) {L : Nat} (hL : L < 64) : ab_rs S L = 4 - S 14 L - S 13 L := by
  have := (h.2.2.2.1 L hL).2.2.1
  omega
theorem qd_nn (h : ab_I S b) : 0 ≤ ab_qd S := sm_nn (fun L hL => (h.s4 hL).1)
theorem ret_r (h : ab_I S b) : 0 ≤ ab_ret S ∧ ab_ret S ≤ 256 := by
  refine ⟨sm_nn (fun L hL => rs_nn h hL), ?_⟩
  have : ab_ret S ≤ am_sum (fun _ => 4) 64 := sm_le (fun L hL => by
    have := rs_v h hL
    have := h.s4 hL
    show ab_rs S L ≤ 4
    omega)
  rw [sm_const] at this
  exact this
/-- open packets of all hosts -/
theorem open_all (h : ab_I S b) (hp : pva S c) : am_sum (fun k => S 16 k) 16 = ab_qd S := by
  rw [am_sum_cg (fun k hk => hp.2.1 k hk), qd_eq h hp]
  unfold pvs s4 s5 s6
  rw [sm_swap, ← sm_sub, ← sm_sub]
  refine am_sum_cg (fun f hf => ?_)
  have i1 := (h.2.2.1 f (by unfold ab_n at hf; omega)).2.1
  refine Eq.trans (am_sum_cg (fun k _ => ?_)) (sm_one (k := (S 1 f).toNat) (S 4 f - S 5 f - S 6 f) (n := 16) (by omega))
  by_cases q : k = (S 1 f).toNat
  · rw [if_pos q, if_pos (by omega)]
  · rw [if_neg q, if_neg (by omega)]
theorem dlv_s5 (h : ab_I S b) {k : Nat} (hk : k < 16) : am_sum (fun f => ab_dlv S k 5 f) (ab_n S) = s5 S + (if 0 < S 14 (16 + k) then 1 else 0) := by
  by_cases hn : 0 < S 14 (16 + k)
  · rw [if_pos hn]
    have hd := ab_hd h (show 16 + k < 64 by omega) hn
    refine am_sum_up (d0 := ab_fl S (16 + k)) (by have := hd.2.1; unfold ab_n; omega) (fun f _ => ?_)
    show ab_dlv S k 5 f = if f = ab_fl S (16 + k) then S 5 f + 1 else S 5 f
    rw [dlv_g hn (by omega)]
    by_cases q : f = ab_fl S (16 + k)
    · rw [if_pos q, q, ab_got5]
    · rw [if_neg q, ab_got_o _ _ _ _ _ (by omega)]
  · rw [if_neg hn, Int.add_zero]
    unfold ab_dlv s5
    rw [if_neg hn]
theorem dlvN_n (S : ab_S) (k : Nat) : ab_n (ab_dlvN S k) = ab_n S := n_cg (ab_dlvN_o S 19 4 (by unfold ab_kp; omega) k)
theorem dlvN_s5 (h : ab_I S b) (hb : b + 16 ≤ 100000000) : ∀ k : Nat, k ≤ 16 → s5 (ab_dlvN S k) = s5 S + ab_dlvC S k
  | 0, _ => by simp [ab_dlvN, ab_dlvC]
  | k + 1, hk => by
    have ih := dlvN_s5 h hb k (by omega)
    have := dlv_s5 (I_dlvN h hb k (by omega)) (k := k) (by omega)
    rw [ih, dlvN_n] at this
    have e : s5 (ab_dlvN S (k + 1)) = am_sum (fun f => ab_dlv (ab_dlvN S k) k 5 f) (ab_n S) := by
      unfold s5; rw [dlvN_n]; rfl
    rw [e, this, ab_dlvC]
    omega
theorem dlvN_14 (S : ab_S) : ∀ k i : Nat, (i < 16 ∨ 16 + k ≤ i) → ab_dlvN S k 14 i = S 14 i
  | 0, _, _ => rfl
  | k + 1, i, hi => by
    rw [ab_dlvN]
    by_cases hn : 0 < ab_dlvN S k 14 (16 + k)
    · rw [dlv_14 hn, if_neg (by omega)]
      exact dlvN_14 S k i (by omega)
    · unfold ab_dlv
      rw [if_neg hn]
      exact dlvN_14 S k i (by omega)
theorem dlvC_h (S : ab_S) : ∀ k : Nat, ab_dlvC S k = am_sum (fun h => if 0 < S 14 (16 + h) then 1 else 0) k
  | 0 => rfl
  | k + 1 => by rw [ab_dlvC, dlvC_h S k, am_sum, dlvN_14 S k (16 + k) (by omega)]
theorem cnt_r {P : Nat → Prop} [DecidablePred P] : ∀ n : Nat, 0 ≤ am_sum (fun d => if P d then 1 else 0) n ∧ am_sum (fun d => if P d then (1 : Int) else 0) n ≤ n
  | 0 => by simp [am_sum]
  | n + 1 => by
    have := cnt_r (P := P) n
    rw [am_sum]
    split <;> omega
def lsB (S : ab_S) (sp lf : Nat) : Bool := decide (0 < S 14 (32 + 4 * lf + sp)) && decide (¬ S 18 (4 * ab_lb S (ab_fl S (32 + 4 * lf + sp)) + sp) = 0)
def lsC (S : ab_S) : Nat → Int
  | 0 => 0
  | k + 1 => lsC S k + ab_1 (lsB (ab_loseN S k) (k / 4) (k % 4))
theorem lsC_r (S : ab_S) : ∀ k : Nat, 0 ≤ lsC S k ∧ lsC S k ≤ k
  | 0 => by simp [lsC]
  | k + 1 => by
    have := lsC_r S k
    have := ab_1r (lsB (ab_loseN S k) (k / 4) (k % 4))
    rw [lsC]; omega
theorem lose_s6 (h : ab_I S b) {sp lf : Nat} (hs : sp < 4) (hl : lf < 4) : am_sum (fun f => ab_lose S sp lf 6 f) (ab_n S) = s6 S + ab_1 (lsB S sp lf) := by
  by_cases hn : 0 < S 14 (32 + 4 * lf + sp) ∧ ¬ S 18 (4 * ab_lb S (ab_fl S (32 + 4 * lf + sp)) + sp) = 0
  · have e : lsB S sp lf = true := by unfold lsB; simp [hn]
    rw [e, ab_1t]
    obtain ⟨T, eT, o, t6, t16⟩ := lose_e hn
    have hd := ab_hd h (show 32 + 4 * lf + sp < 64 by omega) hn.1
    refine am_sum_up (d0 := ab_fl S (32 + 4 * lf + sp)) (by have := hd.2.1; unfold ab_n; omega) (fun f _ => ?_)
    show ab_lose S sp lf 6 f = if f = ab_fl S (32 + 4 * lf + sp) then S 6 f + 1 else S 6 f
    rw [eT, ab_drop_o _ _ _ _ (by omega)]
    by_cases q : f = ab_fl S (32 + 4 * lf + sp)
    · rw [if_pos q, q, t6]
    · rw [if_neg q, o _ _ (fun z => q z.2) (by omega)]
  · have e : lsB S sp lf = false := by
      unfold lsB
      by_cases q : 0 < S 14 (32 + 4 * lf + sp)
      · have : S 18 (4 * ab_lb S (ab_fl S (32 + 4 * lf + sp)) + sp) = 0 := Decidable.byContradiction (fun z => hn ⟨q, z⟩)
        simp [this]
      · simp [q]
    rw [e, ab_1f, Int.add_zero]
    unfold ab_lose s6
    rw [if_neg hn]
theorem loseN_n (S : ab_S) (k : Nat) : ab_n (ab_loseN S k) = ab_n S := n_cg (ab_loseN_o S 19 4 (by unfold ab_kp; omega) k)
theorem loseN_s6 (h : ab_I S b) (hb : b + 16 ≤ 100000000) : ∀ k : Nat, k ≤ 16 → s6 (ab_loseN S k) = s6 S + lsC S k
  | 0, _ => by simp [ab_loseN, lsC]
  | k + 1, hk => by
    have ih := loseN_s6 h hb k (by omega)
    have := lose_s6 (I_loseN h hb k (by omega)) (sp := k / 4) (lf := k % 4) (by omega) (by omega)
    rw [ih, loseN_n] at this
    have e : s6 (ab_loseN S (k + 1)) = am_sum (fun f => ab_lose (ab_loseN S k) (k / 4) (k % 4) 6 f) (ab_n S) := by
      unfold s6; rw [loseN_n]; rfl
    rw [e, this, lsC]
    omega
/-- the state of a tick in which packets are picked -/
theorem tA_n (S : ab_S) : ab_n (ab_tA S) = ab_n S := n_cg ((tick_o S).2.2.2 4)
theorem tA_sum (h : ab_I S b) (hb : b + 48 ≤ 100000000) : s4 (ab_tA S) = s4 S ∧ s5 (ab_tA S) = s5 S + ab_tickC S ∧ ∃ C6 : Int, (0 ≤ C6 ∧ C6 ≤ 16) ∧ s6 (ab_tA S) = s6 S + C6 := by
  have hI1 : ab_I (ab_back S 64) b := I_back h
  have hI2 := I_dlvN hI1 (by omega) 16 (by omega)
  have n1 : ab_n (ab_back S 64) = ab_n S := n_cg ((tick_o S).1 4)
  have n2 : ab_n (ab_dlvN (ab_back S 64) 16) = ab_n S := (dlvN_n _ _).trans n1
  have n3 : ab_n (ab_loseN (ab_dlvN (ab_back S 64) 16) 16) = ab_n S := (loseN_n _ _).trans n2
  refine ⟨?_, ?_, lsC (ab_dlvN (ab_back S 64) 16) 16, lsC_r _ 16, ?_⟩
  · unfold s4
    rw [tA_n]
    refine am_sum_cg (fun f _ => ?_)
    unfold ab_tA
    rw [ab_choN_o _ _ _ (by omega), ab_loseN_o _ _ _ (by unfold ab_kp; omega), ab_dlvN_o _ _ _ (by unfold ab_kp; omega), ab_back_o _ _ _ _ (by omega)]
  · have e : s5 (ab_tA S) = s5 (ab_dlvN (ab_back S 64) 16) := by
      unfold s5
      rw [tA_n, n2]
      refine am_sum_cg (fun f _ => ?_)
      unfold ab_tA
      rw [ab_choN_o _ _ _ (by omega), ab_loseN_o _ _ _ (by unfold ab_kp; omega)]
    rw [e, dlvN_s5 hI1 (by omega) 16 (by omega)]
    have e2 : s5 (ab_back S 64) = s5 S := by
      unfold s5
      rw [n1]
      exact am_sum_cg (fun f _ => ab_back_o _ _ _ _ (by omega))
    rw [e2]; rfl
  · have e : s6 (ab_tA S) = s6 (ab_loseN (ab_dlvN (ab_back S 64) 16) 16) := by
      unfold s6
      rw [tA_n, n3]
      refine am_sum_cg (fun f _ => ?_)
      unfold ab_tA
      rw [ab_choN_o _ _ _ (by omega)]
    rw [e, loseN_s6 hI2 (by omega) 16 (by omega)]
    have e2 : s6 (ab_dlvN (ab_back S 64) 16) = s6 S := by
      unfold s6
      rw [n2]
      refine am_sum_cg (fun f _ => ?_)
      rw [ab_dlvN_o _ _ _ (by omega), ab_back_o _ _ _ _ (by omega)]
    rw [e2]
theorem tA_13 (S : ab_S) {L : Nat} (hL : L < 64) : ab_tA S 13 L = S 13 L + S 24 (64 * (S 19 3).toNat + L) := by
  unfold ab_tA
  rw [ab_choN_o _ _ _ (by omega), ab_loseN_o _ _ _ (by unfold ab_kp; omega), ab_dlvN_o _ _ _ (by unfold ab_kp; omega), ab_back13, if_pos hL]
/-- the links that pick: no more than there are, no more than packets wait -/
theorem X_cnt (h : ab_I S b) : 0 ≤ am_sum (fun L => ab_1 (ab_XS S (yk 64) L)) 64 ∧ am_sum (fun L => ab_1 (ab_XS S (yk 64) L)) 64 ≤ 48 ∧ am_sum (fun L => ab_1 (ab_XS S (yk 64) L)) 64 ≤ ab_qd S := by
  have h0 : ∀ L, L < 16 → ab_XS S (yk 64) L = false := fun L hL => XS_no (by
    unfold yk
    have : ¬ (16 ≤ L ∧ L < 64) := by omega
    simp [this])
  refine ⟨sm_nn (fun L _ => (ab_1r _).1), ?_, ?_⟩
  · have : am_sum (fun L => ab_1 (ab_XS S (yk 64) L)) 64 ≤ am_sum (fun L => if L < 16 then 0 else 1) 64 := sm_le (fun L _ => by
      by_cases q : L < 16
      · rw [h0 L q, if_pos q]; exact Int.le_refl _
      · rw [if_neg q]; exact (ab_1r _).2)
    exact Int.le_trans this (by decide +kernel)
  · have hg := gm h (fun _ => 1) 48 (by omega)
    rw [show 16 + 48 = 64 from rfl] at hg
    have e : am_sum (fun L => ab_1 (ab_XS S (yk 64) L)) 64 = am_sum (fun L => if ab_XS S (yk 64) L = true then 1 else 0) 64 := rfl
    rw [e, ← hg]
    exact sm_le (fun q hq => (D_rng h hq).2.2)
theorem zt_13 (h : ab_I S b) : am_sum (fun L => zt S 13 L) 64 = am_sum (fun L => S 13 L) 64 - am_sum (fun k => if ¬ ab_F S k = -1 then 1 else 0) 16 - am_sum (fun L => ab_1 (ab_XS S (yk 64) L)) 64 := by
  have h0 : ∀ L, L < 16 → ab_XS S (yk 64) L = false := fun L hL => XS_no (by
    unfold yk
    have : ¬ (16 ≤ L ∧ L < 64) := by omega
    simp [this])
  have e1 := sm_cut (f := fun L => if L < 16 ∧ ¬ ab_F S L = -1 then (1 : Int) else 0) (k := 16) 48 (fun d h1 _ => if_neg (by omega))
  have e2 : am_sum (fun L => if L < 16 ∧ ¬ ab_F S L = -1 then (1 : Int) else 0) 16 = am_sum (fun k => if ¬ ab_F S k = -1 then 1 else 0) 16 := am_sum_cg (fun d hd => by
    have c : (d < 16 ∧ ¬ ab_F S d = -1) = (¬ ab_F S d = -1) := propext ⟨fun z => z.2, fun z => ⟨hd, z⟩⟩
    simp only [c])
  rw [show 16 + 48 = 64 from rfl, e2] at e1
  rw [← e1, ← sm_sub, ← sm_sub]
  refine am_sum_cg (fun L _ => ?_)
  rw [zt_o S L (by omega), Z13]
  by_cases q : L < 16
  · rw [if_pos q, h0 L q, ab_1f]; omega
  · rw [if_neg q, if_neg (fun z => q z.1)]; omega
/-- one tick -/
theorem tick_sum (h : ab_I S b) (hb : b + 48 ≤ 100000000) (hJ : ab_J S) (hp : pv S) (hc : S 19 3 < 100000) : ∃ nf C6 X R : Int, (0 ≤ nf ∧ nf ≤ 16) ∧ (0 ≤ C6 ∧ C6 ≤ 16) ∧ (0 ≤ X ∧ X ≤ 48) ∧ 0 ≤ R ∧ s4 (ab_tick S) = s4 S + nf ∧ s5 (ab_tick S) = s5 S + ab_tickC S ∧ s6 (ab_tick S) = s6 S + C6 ∧
    (0 ≤ ab_tickC S ∧ ab_tickC S ≤ 16) ∧ X + ab_tickC S + C6 ≤ ab_qd S ∧ ab_ret (ab_tick S) = ab_ret S + X + ab_tickC S + C6 - R ∧ (S 19 0 = 0 → ab_ret S = R) ∧ ab_qd (ab_tick S) = ab_qd S + nf - ab_tickC S - C6 ∧
    ab_tickC S = am_sum (fun k => if 0 < S 14 (16 + k) then 1 else 0) 16 := by
  have hA := I_tA h hb
  have hpA := pva_tA h hb hJ hp.1
  have hIt := I_tick h hb hc
  have hpt := (pv_tick h hb hJ hp).1
  obtain ⟨t4, t5, C6, hC6, t6⟩ := tA_sum h hb
  have hX := X_cnt hA
  have e13 := zt_13 hA
  have hsd := sd hA (fun _ => 1) 16 (by omega)
  have hnf := cnt_r (P := fun k => ¬ ab_F (ab_tA S) k = -1) 16
  have hheads := dlvC_h (ab_back S 64) 16
  have hh2 : ab_tickC S = am_sum (fun k => if 0 < S 14 (16 + k) then 1 else 0) 16 := by
    unfold ab_tickC
    rw [hheads]
    exact am_sum_cg (fun k _ => by rw [ab_back_o _ _ _ _ (by omega)])
  have hC := cnt_r (P := fun k => 0 < S 14 (16 + k)) 16
  rw [← hh2] at hC
  rw [zt_tick] at e13
  have n1 : ab_n (ab_tick S) = ab_n S := n_cg (tick_193 S).2
  have u4 : s4 (ab_tick S) = s4 S + am_sum (fun k => if ¬ ab_F (ab_tA S) k = -1 then 1 else 0) 16 := by
    rw [← hsd, ← t4]
    unfold s4
    rw [n1, tA_n, ← sm_add]
    refine am_sum_cg (fun f _ => ?_)
    rw [← zt_tick, zt_4]
    rfl
  have u5 : s5 (ab_tick S) = s5 S + ab_tickC S := by
    rw [← t5]
    unfold s5
    rw [n1, tA_n]
    refine am_sum_cg (fun f _ => ?_)
    rw [← zt_tick, zt_k _ (g := 5) f (by omega)]
  have u6 : s6 (ab_tick S) = s6 S + C6 := by
    rw [← t6]
    unfold s6
    rw [n1, tA_n]
    refine am_sum_cg (fun f _ => ?_)
    rw [← zt_tick, zt_k _ (g := 6) f (by omega)]
  have q0 := qd_eq h hp.1
  have qA := qd_eq hA hpA
  have qt := qd_eq hIt hpt
  have r0 := ret_eq h
  have rt := ret_eq hIt
  have e13A : am_sum (fun L => ab_tA S 13 L) 64 = am_sum (fun L => S 13 L) 64 + am_sum (fun L => S 24 (64 * (S 19 3).toNat + L)) 64 := by
    rw [← sm_add]
    exact am_sum_cg (fun L hL => tA_13 S hL)
  refine ⟨_, C6, am_sum (fun L => ab_1 (ab_XS (ab_tA S) (yk 64) L)) 64, am_sum (fun L => S 24 (64 * (S 19 3).toNat + L)) 64, hnf, hC6, ⟨hX.1, hX.2.1⟩, sm_nn (fun L hL => (h.2.2.2.2.1 L _ hL).1), u4, u5, u6, hC, ?_, ?_, fun h0 => ?_, ?_, hh2⟩
  · have := hX.2.2
    omega
  · omega
  · unfold ab_ret
    refine am_sum_cg (fun L hL => ?_)
    have z := fun d => hp.2 h0 L ((S 19 3).toNat + d) hL
    have hcl := h.2.1.2.2.2.1
    unfold ab_rs
    simp only [am_sum, Nat.add_zero]
    rw [z 1 (by omega), z 2 (by omega), z 3 (by omega), z 4 (by omega), z 5 (by omega), z 6 (by omega)]
    omega
  · omega
/-! several ticks -/
theorem pv_pass (h : ab_I S b) (hJ : ab_J S) (hp : pv S) : ∀ n : Nat, b + 48 * n ≤ 100000000 → S 19 3 + n ≤ 100000 → pv (ab_pass S n) ∧ s5 (ab_pass S n) = s5 S + ab_passC S n
  | 0, _, _ => ⟨hp, by simp [ab_pass, ab_passC]⟩
  | n + 1, hb, hc => by
    obtain ⟨i1, i2⟩ := pv_pass h hJ hp n (by omega) (by omega)
    have hI := I_pass h n (by omega) (by omega)
    have hj := J_pass h hJ n (by omega) (by omega)
    have h3 := (pass_193 S n).1
    obtain ⟨nf, C6, X, R, -, -, -, -, -, t5, -⟩ := tick_sum hI (by omega) hj i1 (by omega)
    refine ⟨pv_tick hI (by omega) hj i1, ?_⟩
    rw [ab_pass, t5, i2, ab_passC]
    omega
/-! the other calls -/
theorem pv_new0 {d g w : Int} (h : ab_okR d g w) : pv (ab_new0 d g w) := by
  obtain ⟨h1, h2, h3⟩ := h
  have v := new0_v d g w
  refine ⟨⟨fun f hf => ?_, fun k hk => ?_, fun k hk => ?_⟩, fun _ L t _ _ => new0_o _ _ _ _ (by omega)⟩
  · rw [(v 0).2.2.2.2.2.2.2] at hf; omega
  · unfold pvs ab_n
    rw [(v 0).2.2.2.2.2.2.2, new0_o _ _ _ _ (by omega)]
    rfl
  · rw [(v 0).2.2.2.2.2.1, new0_o _ _ _ _ (by omega)]; omega
theorem pv_cut (h : ab_I S b) (hp : pv S) (q : Nat) (x : Int) : pv (ab_u S 18 q x) := by
  have e : ∀ g i, ¬ g = 18 → ab_u S 18 q x g i = S g i := fun g i z => by rw [ab_u_app, if_neg (by omega)]
  refine ⟨?_, fun h0 L t hL ht => ?_⟩
  · rw [e 19 3 (by omega)]
    exact pva_cg h (Int.le_refl _) (fun g i hg => e g i (by omega)) (fun i => e 14 i (by omega)) (fun i => e 16 i (by omega)) (fun i => e 19 i (by omega)) (fun x i hx => e (20 + x) i (by omega)) hp.1
  · rw [e 19 _ (by omega)] at h0 ht
    rw [e 24 _ (by omega)]
    exact hp.2 h0 L t hL ht
theorem pv_add (h : ab_I S b) {s t p l : Int} (ho : ab_okA s t p l) (hn : S 19 4 < 24) (hp : pv S) : pv (ab_add S s t p l) := by
  obtain ⟨o1, o2, o3, o4, o5⟩ := ho
  obtain ⟨⟨p1, p2, p3⟩, p4⟩ := hp
  have h4 := h.2.1.2.2.2.2
  have e : ∀ g i, ¬ (g < 13 ∧ i = (S 19 4).toNat) → ¬ (g = 19 ∧ i = 4) → ab_add S s t p l g i = S g i := fun g i z z2 => add_o _ _ _ _ _ _ z z2
  have nn : ab_n (ab_add S s t p l) = ab_n S + 1 := by unfold ab_n; rw [add_c]; omega
  have hs : ∀ k, pvs (ab_add S s t p l) k = pvs S k := fun k => by
    unfold pvs
    rw [nn, am_sum]
    have a : ∀ j, j < 13 → ab_add S s t p l j (ab_n S) = ab_nf13 S s t p l j := fun j hj => add_n _ _ _ _ _ hj rfl
    rw [a 4 (by omega), a 5 (by omega), a 6 (by omega)]
    have z : (ab_nf13 S s t p l 4 - ab_nf13 S s t p l 5 - ab_nf13 S s t p l 6) = 0 := by
      simp only [ab_nf13, Nat.reduceEqDiff, Nat.reduceLT, if_true, if_false]; rfl
    rw [z, ite_self, Int.add_zero]
    refine am_sum_cg (fun f hf => ?_)
    have hf' : ¬ f = (S 19 4).toNat := by unfold ab_n at hf; omega
    rw [e 1 f (fun z => hf' z.2) (by omega), e 4 f (fun z => hf' z.2) (by omega), e 5 f (fun z => hf' z.2) (by omega), e 6 f (fun z => hf' z.2) (by omega)]
  refine ⟨⟨fun f hf => ?_, fun k hk => ?_, fun k hk => ?_⟩, fun h0 L t' hL ht => ?_⟩
  · rw [add_c] at hf
    rw [e 19 3 (by omega) (by omega)]
    by_cases q : f = (S 19 4).toNat
    · have a : ∀ j, j < 13 → ab_add S s t p l j f = ab_nf13 S s t p l j := fun j hj => add_n _ _ _ _ _ hj q
      have hno : ∀ L j : Nat, L < 64 → (j : Int) < S 14 L → ¬ S 20 (4 * L + j) = (f : Int) := fun L j hL hj z => by
        have := (h.2.2.2.2.2.2.2 L j hL hj).1
        omega
      have hcn : ∀ L, L < 64 → cn S f L = 0 := fun L hL => by
        unfold cn
        refine am_sum0 4 (fun j _ => ?_)
        by_cases z : (j : Int) < S 14 L
        · rw [if_pos z]
          exact if_neg (hno L j hL z)
        · rw [if_neg z]
      have htt : tt S f = 0 := am_sum0 64 (fun L hL => hcn L hL)
      have ec : ∀ L, cn (ab_add S s t p l) f L = cn S f L := fun L => cn_cg (e _ _ (by omega) (by omega)) (fun j _ => e _ _ (by omega) (by omega))
      have et : tt (ab_add S s t p l) f = tt S f := am_sum_cg (fun L _ => ec L)
      refine ⟨?_, fun _ => ⟨?_, fun L j hL hj hfl => ?_, fun L j L' j' hL hL' hj hj' f1 f2 ho => ?_⟩⟩
      · unfold pvf
        rw [et, htt, a 0 (by omega), ec, hcn _ (by simp only [ab_nf13, if_true]; omega), a 2 (by omega), a 3 (by omega), a 4 (by omega), a 5 (by omega), a 6 (by omega), a 7 (by omega), a 8 (by omega), a 9 (by omega), a 10 (by omega), a 11 (by omega), e 19 3 (by omega) (by omega)]
        simp only [ab_nf13, Nat.reduceEqDiff, Nat.reduceLT, if_true, if_false]
        refine ⟨by omega, by omega, by omega, ⟨fun z => by omega, fun _ => trivial⟩, ⟨fun _ => ⟨trivial, trivial⟩, fun z => by omega⟩, fun _ => ⟨by omega, fun _ => trivial, fun z => by omega⟩, fun _ => ⟨trivial, trivial⟩, by omega⟩
      · rw [a 8 (by omega), a 4 (by omega)]
        simp only [ab_nf13, Nat.reduceEqDiff, Nat.reduceLT, if_true, if_false]
        omega
      · rw [e 14 _ (by omega) (by omega)] at hj
        rw [e 20 _ (by omega) (by omega)] at hfl
        exact absurd hfl (hno L j hL hj)
      · rw [e 14 _ (by omega) (by omega)] at hj
        rw [e 20 _ (by omega) (by omega)] at f1
        exact absurd f1 (hno L j hL hj)
    · have hf' : (f : Int) < S 19 4 := by omega
      obtain ⟨q1, q2⟩ := p1 f hf'
      have i := h.2.2.1 f hf'
      exact ⟨pvf_cg (Int.le_refl _) i.1 (fun j _ => e j f (fun z => q z.2) (by omega)) (fun L _ => e 14 _ (by omega) (by omega)) (fun L j _ _ => e 20 _ (by omega) (by omega)) (e 19 3 (by omega) (by omega)) q1,
        pvn_cg (fun j _ => e j f (fun z => q z.2) (by omega)) (fun L _ => e 14 _ (by omega) (by omega)) (fun L j x _ _ hx => e (20 + x) _ (by omega) (by omega)) q2⟩
  · rw [e 16 _ (by omega) (by omega), hs, p2 k hk]
  · rw [e 16 _ (by omega) (by omega), e 19 2 (by omega) (by omega)]; exact p3 k hk
  · rw [e 19 0 (by omega) (by omega)] at h0
    rw [e 19 3 (by omega) (by omega)] at ht
    rw [e 24 _ (by omega) (by omega)]
    exact p4 h0 L t' hL ht
end PS
