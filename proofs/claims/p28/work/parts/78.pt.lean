/-! the invariant over a whole tick; what changes in it at the most -/
theorem DS_t {S : ab_S} {b : Int} (h : ab_I S b) {Y : Nat → Bool} {L : Nat} (hL : L < 64) (hY : Y L = true) (hp : ¬ ab_pick S L = -1) : ab_DS S Y (ab_qat L (ab_pick S L).toNat) = true := by
  have p := (pk_fact h hL hp).1
  unfold ab_DS
  rw [p, Int.toNat_natCast, hY]
  simp [hp]
theorem XS_y {S : ab_S} {Y : Nat → Bool} {L : Nat} (hx : ab_XS S Y L = true) : Y L = true ∧ ¬ ab_pick S L = -1 := by
  unfold ab_XS at hx
  simpa using hx
/-- a near flow's packets go from its host up to its other host -/
theorem near_mv {S : ab_S} {b : Int} (h : ab_I S b) {f L : Nat} (hf : (f : Int) < S 19 4) (hn : ab_far S f = false) (hp : pvn S f) (hL : 16 ≤ L ∧ L < 64) (hx : ab_XS S (yk 64) L = true) (hfl : S 20 (4 * ab_qat L (ab_pick S L).toNat) = (f : Int)) :
    ab_qat L (ab_pick S L).toNat = (S 0 f).toNat ∧ L = 16 + (S 1 f).toNat ∧ 0 < S 14 (S 0 f).toNat ∧ ab_DS S (yk 64) (S 0 f).toNat = true := by
  obtain ⟨hy, hpk⟩ := XS_y hx
  obtain ⟨p1, p2, p3, p4, p5⟩ := pk_fact h hL.2 hpk
  obtain ⟨q1, q2, q3⟩ := qat_lt hL.1 hL.2 p4
  have hd := DS_t h hL.2 hy hpk
  generalize ab_qat L (ab_pick S L).toNat = q at *
  have hpos := ab_w_pos h q1 (by omega)
  have i := h.2.2.1 f hf
  have i0 := i.1
  have i1 := i.2.1
  have hq := ((hp hn).2.1 q 0 q1 (by simpa using hpos) (by simpa using hfl)).1
  have hq : q = (S 0 f).toNat := by omega
  have hfl2 : ab_fl S q = f := by unfold ab_fl; rw [hfl, Int.toNat_natCast]
  rw [ab_w, if_neg (by omega), if_neg (by omega), if_neg (by omega), hfl2] at p1
  have hfar : S 0 f / 4 = S 1 f / 4 := by
    have : ¬ S 0 f / 4 ≠ S 1 f / 4 := fun z => by simp [ab_far, z] at hn
    omega
  rw [if_pos (by omega)] at p1
  refine ⟨hq, by omega, by rw [← hq]; exact hpos, by rw [← hq]; exact hd⟩
section PT
variable {S : ab_S} {b : Int}
/-- the state behind the moves, with its clock put on -/
def zt (S : ab_S) : ab_S := ab_u (ab_MS S 16) 19 3 (S 19 3 + 1)
theorem zt_o (S : ab_S) {g : Nat} (i : Nat) (hg : ¬ g = 19) : zt S g i = ab_Z S (yk 64) (ab_XS S (yk 64)) (ab_XS S (yk 64)) (ab_DS S (yk 64)) 16 16 g i := by
  unfold zt ab_MS
  rw [ab_u_app, if_neg (fun z => hg z.1), yk_48]
theorem zt_3 (S : ab_S) : zt S 19 3 = S 19 3 + 1 := by unfold zt; rw [ab_u_app, if_pos ⟨rfl, rfl⟩]
theorem zt_19 (S : ab_S) {i : Nat} (hi : ¬ i = 3) : zt S 19 i = S 19 i := by unfold zt; rw [ab_u_app, if_neg (fun z => hi z.2)]; exact Zo (by omega) i
def zs (S : ab_S) (f : Nat) : Int := if (S 0 f).toNat < 16 ∧ ab_F S (S 0 f).toNat = (f : Int) then 1 else 0
theorem zt_4 (S : ab_S) (f : Nat) : zt S 4 f = S 4 f + zs S f := by rw [zt_o S f (by omega), Z4]; rfl
theorem zt_k (S : ab_S) {g : Nat} (i : Nat) (hg : g < 4 ∨ (5 ≤ g ∧ g < 10)) : zt S g i = S g i := by rw [zt_o S i (by omega), Zo (by omega)]
theorem zt_tt (h : ab_I S b) {f : Nat} (hf : (f : Int) < S 19 4) : tt (zt S) f = tt S f + zs S f := by
  rw [tt_cg (S := ab_Z S (yk 64) (ab_XS S (yk 64)) (ab_XS S (yk 64)) (ab_DS S (yk 64)) 16 16) (T := zt S) (fun L _ => zt_o S _ (by omega)) (fun L j _ _ => zt_o S _ (by omega)), Z_tt h hf]
  rfl
theorem zt_cn (h : ab_I S b) (f : Nat) {L : Nat} (hL : L < 16) : (if ab_F S L = (f : Int) then 1 else 0) ≤ cn (zt S) f L := by
  rw [cn_cg (S := ab_Z S (yk 64) (ab_XS S (yk 64)) (ab_XS S (yk 64)) (ab_DS S (yk 64)) 16 16) (T := zt S) (zt_o S _ (by omega)) (fun j _ => zt_o S _ (by omega)), Z_cn h f (by omega), if_pos hL]
  have hs := h.s4 (show L < 64 by omega)
  have h0 := cn_nn S f L
  have : (if ab_DS S (yk 64) L = true then (if S 20 (4 * L) = (f : Int) then (1 : Int) else 0) else 0) ≤ cn S f L := by
    cases hd : ab_DS S (yk 64) L with
    | false => simpa using h0
    | true =>
      by_cases q : S 20 (4 * L) = (f : Int)
      · rw [if_pos rfl, if_pos q]
        exact cn_head (DS_pos h (show L < 64 by omega) hd) hs.2.1 q
      · rw [if_pos rfl, if_neg q]; exact h0
  omega
theorem zs_f (h : ab_I S b) {f : Nat} (hz : zs S f = 1) : S 3 f ≤ S 19 3 ∧ (ab_far S f = true → ¬ ab_many S (ab_la S f) (ab_lb S f) = 0) := by
  unfold zs at hz
  by_cases q : (S 0 f).toNat < 16 ∧ ab_F S (S 0 f).toNat = (f : Int)
  · have fF := F_fact h (k := (S 0 f).toNat) (by omega)
    have m := may_fact fF.2.2.2
    rw [q.2, Int.toNat_natCast] at m
    exact ⟨m.2.1, m.2.2.2.1⟩
  · rw [if_neg q] at hz; omega
theorem zs_r (S : ab_S) (f : Nat) : zs S f = 0 ∨ zs S f = 1 := by unfold zs; split <;> omega
theorem zt_ent (h : ab_I S b) {L j : Nat} (hL : L < 64) (hj : (j : Int) < zt S 14 L) :
    ((j : Int) < S 14 L - ab_1 (ab_DS S (yk 64) L) ∧ zt S 20 (4 * L + j) = S 20 (4 * L + (j + (ab_1 (ab_DS S (yk 64) L)).toNat)) ∧ zt S 21 (4 * L + j) = S 21 (4 * L + (j + (ab_1 (ab_DS S (yk 64) L)).toNat))) ∨
    ((j : Int) = S 14 L - ab_1 (ab_DS S (yk 64) L) ∧ L < 16 ∧ ¬ ab_F S L = -1 ∧ zt S 20 (4 * L + j) = ab_F S L ∧ zt S 21 (4 * L + j) = S 4 (ab_F S L).toNat) ∨
    ((j : Int) = S 14 L - ab_1 (ab_DS S (yk 64) L) ∧ 16 ≤ L ∧ ab_XS S (yk 64) L = true ∧ zt S 20 (4 * L + j) = S 20 (4 * ab_qat L (ab_pick S L).toNat) ∧ zt S 21 (4 * L + j) = S 21 (4 * ab_qat L (ab_pick S L).toNat)) := by
  rw [zt_o S _ (by omega)] at hj ⊢
  rw [zt_o S (4 * L + j) (by omega)]
  rcases Z_org h hL hj with o | o | o
  · exact Or.inl ⟨o.1, o.2 0 (by omega), o.2 1 (by omega)⟩
  · refine Or.inr (Or.inl ⟨o.1, o.2.1, o.2.2.1, ?_, o.2.2.2 1 (by omega)⟩)
    have e := o.2.2.2 0 (by omega)
    have e2 : ab_pk S (ab_F S L).toNat 0 = (((ab_F S L).toNat : Nat) : Int) := rfl
    rw [e2] at e
    have fF := F_fact h o.2.2.1
    rw [show (20 : Nat) = 20 + 0 from rfl, e]
    omega
  · exact Or.inr (Or.inr ⟨o.1, o.2.1, o.2.2.1, o.2.2.2 0 (by omega), o.2.2.2 1 (by omega)⟩)
theorem pvf_zt (h : ab_I S b) {c : Int} {f : Nat} (hf : (f : Int) < S 19 4) (hp : pvf S c f) : pvf (zt S) c f := by
  have i := h.2.2.1 f hf
  unfold ab_If at i
  obtain ⟨i0, i1, i2, i3, i4, i5, i6, i7, i8, i9, i10, i11, i12, i13, i14⟩ := i
  have hcn := zt_cn h f (L := (S 0 f).toNat) (by omega)
  have hzs : (if ab_F S (S 0 f).toNat = (f : Int) then (1 : Int) else 0) = zs S f := by
    unfold zs
    have c : ((S 0 f).toNat < 16 ∧ ab_F S (S 0 f).toNat = (f : Int)) = (ab_F S (S 0 f).toNat = (f : Int)) := propext ⟨fun z => z.2, fun z => ⟨by omega, z⟩⟩
    simp only [c]
  rw [hzs] at hcn
  have hz := zs_r S f
  have hz1 := fun z => zs_f (S := S) h (f := f) z
  have e10 : zt S 10 f = S 10 f + (if zs S f = 1 then ab_1 (ab_new S f) else 0) := by
    rw [zt_o S f (by omega), Z10]
    unfold zs
    by_cases q : (S 0 f).toNat < 16 ∧ ab_F S (S 0 f).toNat = (f : Int)
    · rw [if_pos q, if_pos q, if_pos rfl]
    · rw [if_neg q, if_neg q, if_neg (by omega)]
  have e11 : zs S f = 0 → zt S 11 f = S 11 f := fun z => by
    rw [zt_o S f (by omega), Z11, if_neg]
    rintro ⟨q1, q2, -⟩
    unfold zs at z
    rw [if_pos ⟨q1, q2⟩] at z
    omega
  have h1r := ab_1r (ab_new S f)
  have hnw : ab_far S f = true → ab_new S f = false → ¬ S 10 f = 0 := fun a z y => by simp [ab_new, a, y] at z
  unfold pvf at hp ⊢
  obtain ⟨a1, a2, a3, a4, a5, a6, a7, a8⟩ := hp
  rw [zt_tt h hf, zt_k S (g := 0) f (by omega), ab_far_cg (S := S) (zt_k S (g := 0) f (by omega)) (zt_k S (g := 1) f (by omega)), zt_k S (g := 2) f (by omega), zt_k S (g := 3) f (by omega), zt_4, zt_k S (g := 5) f (by omega), zt_k S (g := 6) f (by omega), zt_k S (g := 7) f (by omega), zt_k S (g := 8) f (by omega), zt_k S (g := 9) f (by omega), e10, zt_3]
  refine ⟨by omega, fun z => ?_, fun z => ?_, a4, a5, fun z => ?_, a7, by omega⟩
  · rcases hz with hz | hz
    · have := a2 (by omega); omega
    · have := (hz1 hz).1
      rcases (by omega : S 4 f = 0 ∨ 0 < S 4 f) with y | y
      · omega
      · have := a2 y; omega
  · have := a2 (by omega); omega
  · obtain ⟨b1, b2, b3⟩ := a6 z
    rcases hz with hz | hz
    · rw [if_neg (by omega), e11 hz]
      refine ⟨by omega, fun y => b2 (by omega), fun y => ?_⟩
      have := b3 (by omega); omega
    · rw [if_pos hz]
      refine ⟨by omega, fun y => by omega, fun y => ?_⟩
      cases hn : ab_new S f with
      | true => rw [ab_1t]; omega
      | false => rw [ab_1f]; have := hnw z hn; omega
theorem pvn_zt (h : ab_I S b) {f : Nat} (hf : (f : Int) < S 19 4) (hp : pvn S f) : pvn (zt S) f := by
  intro hn
  rw [ab_far_cg (S := S) (zt_k S (g := 0) f (by omega)) (zt_k S (g := 1) f (by omega))] at hn
  obtain ⟨n0, n1, n2⟩ := hp hn
  have hz := zs_r S f
  have i := h.2.2.1 f hf
  have i0 := i.1
  have i1 := i.2.1
  have hd : ∀ L, L < 64 → _ := fun L hL => D_rng (Y := yk 64) h (L := L) hL
  have hsent : ∀ L, L < 16 → ab_F S L = (f : Int) → L = (S 0 f).toNat ∧ zs S f = 1 := fun L hL hF => by
    have m := (may_fact (F_fact h (k := L) (by omega)).2.2.2).1
    rw [hF, Int.toNat_natCast] at m
    refine ⟨by omega, ?_⟩
    unfold zs
    rw [if_pos]
    rw [m, Int.toNat_natCast]
    exact ⟨hL, hF⟩
  refine ⟨by rw [zt_4, zt_k S (g := 8) f (by omega)]; omega, fun L j hL hj hfl => ?_, fun L j L' j' hL hL' hj hj' f1 f2 ho => ?_⟩
  · rw [zt_4, zt_k S (g := 8) f (by omega), zt_k S (g := 0) f (by omega), zt_k S (g := 1) f (by omega)]
    have hdL := hd L hL
    rcases zt_ent h hL hj with ⟨o1, o2, o3⟩ | ⟨o1, o2, o3, o4, o5⟩ | ⟨o1, o2, o3, o4, o5⟩
    · rw [o2] at hfl
      have := n1 L (j + (ab_1 (ab_DS S (yk 64) L)).toNat) hL (by omega) hfl
      rw [o3]; omega
    · rw [o4] at hfl
      have := hsent L o2 hfl
      rw [o5, hfl, Int.toNat_natCast]; omega
    · rw [o4] at hfl
      have m := near_mv h hf hn hp ⟨o2, hL⟩ o3 hfl
      rw [m.1] at hfl o5
      have := n1 (S 0 f).toNat 0 (by omega) (by simpa using m.2.2.1) (by simpa using hfl)
      simp only [Nat.add_zero] at this
      rw [o5]; omega
  · have hdL := hd L hL
    have hdL' := hd L' hL'
    rcases zt_ent h hL hj with ⟨o1, o2, o3⟩ | ⟨o1, o2, o3, o4, o5⟩ | ⟨o1, o2, o3, o4, o5⟩
    · rw [o2] at f1
      rw [o3]
      have a1 := n1 L (j + (ab_1 (ab_DS S (yk 64) L)).toNat) hL (by omega) f1
      rcases zt_ent h hL' hj' with ⟨w1, w2, w3⟩ | ⟨w1, w2, w3, w4, w5⟩ | ⟨w1, w2, w3, w4, w5⟩
      · rw [w2] at f2
        rw [w3]
        refine n2 L _ L' _ hL hL' (by omega) (by omega) f1 f2 ?_
        rcases ho with ⟨rfl, ho⟩ | ho
        · exact Or.inl ⟨rfl, by omega⟩
        · exact Or.inr ho
      · rw [w4] at f2
        rw [w5, f2, Int.toNat_natCast]; omega
      · rw [w4] at f2
        have m := near_mv h hf hn hp ⟨w2, hL'⟩ w3 f2
        rw [m.1] at f2 w5
        rw [w5]
        have := n2 L _ (S 0 f).toNat 0 hL (by omega) (by omega) (by simpa using m.2.2.1) f1 (by simpa using f2) (Or.inr (by omega))
        simpa using this
    · rw [o4] at f1
      have s1 := hsent L o2 f1
      rcases zt_ent h hL' hj' with ⟨w1, w2, w3⟩ | ⟨w1, w2, w3, w4, w5⟩ | ⟨w1, w2, w3, w4, w5⟩
      · exfalso
        rcases ho with ⟨rfl, ho⟩ | ho <;> omega
      · exfalso
        rcases ho with ⟨rfl, ho⟩ | ho <;> omega
      · exfalso
        rcases ho with ⟨rfl, ho⟩ | ho <;> omega
    · rw [o4] at f1
      have m := near_mv h hf hn hp ⟨o2, hL⟩ o3 f1
      rw [m.1] at f1 o5
      rw [o5]
      have a1 := n1 (S 0 f).toNat 0 (by omega) (by simpa using m.2.2.1) (by simpa using f1)
      simp only [Nat.add_zero] at a1
      rcases zt_ent h hL' hj' with ⟨w1, w2, w3⟩ | ⟨w1, w2, w3, w4, w5⟩ | ⟨w1, w2, w3, w4, w5⟩
      · rw [w2] at f2
        rw [w3]
        have a2 := n1 L' (j' + (ab_1 (ab_DS S (yk 64) L')).toNat) hL' (by omega) f2
        have hL0 : L' = (S 0 f).toNat := by
          rcases ho with ⟨rfl, ho⟩ | ho <;> omega
        have := n2 (S 0 f).toNat 0 L' (j' + (ab_1 (ab_DS S (yk 64) L')).toNat) (by omega) hL' (by simpa using m.2.2.1) (by omega) (by simpa using f1) f2 (Or.inl ⟨hL0.symm, by rw [hL0, m.2.2.2, ab_1t]; show 0 < j' + 1; omega⟩)
        simpa using this
      · rw [w4] at f2
        rw [w5, f2, Int.toNat_natCast]; omega
      · exfalso
        rcases ho with ⟨rfl, ho⟩ | ho <;> omega
theorem pva_zt (h : ab_I S b) {c : Int} (hp : pva S c) : pva (zt S) c := by
  obtain ⟨p1, p2, p3⟩ := hp
  refine ⟨fun f hf => ?_, fun k hk => ?_, fun k hk => ?_⟩
  · rw [zt_19 S (by omega)] at hf
    exact ⟨pvf_zt h hf (p1 f hf).1, pvn_zt h hf (p1 f hf).2⟩
  · rw [zt_o S _ (by omega), Z16, op_sum h k 16 (by omega), p2 k hk]
    unfold pvs
    rw [n_cg (zt_19 S (by omega)), ← sm_add]
    refine am_sum_cg (fun f hf => ?_)
    have i1 := (h.2.2.1 f (by unfold ab_n at hf; omega)).2.1
    rw [zt_k S (g := 1) f (by omega), zt_4, zt_k S (g := 5) f (by omega), zt_k S (g := 6) f (by omega)]
    have c : ((S 1 f).toNat = k) = (S 1 f = (k : Int)) := propext (by omega)
    simp only [c, zs]
    by_cases q : S 1 f = (k : Int)
    · rw [if_pos q, if_pos q, if_pos q]; omega
    · rw [if_neg q, if_neg q, if_neg q]; split <;> rfl
  · rw [zt_o S _ (by omega), Z16, zt_19 S (by omega)]
    exact op_win h p3 hk 16
end PT
theorem zt_tick (S : ab_S) : zt (ab_tA S) = ab_tick S := by
  have ho := tick_o S
  unfold zt ab_tick
  rw [show ab_tA S 19 3 = S 19 3 from ho.2.2.2 3]
theorem pv_tick {S : ab_S} {b : Int} (h : ab_I S b) (hb : b + 48 ≤ 100000000) (hJ : ab_J S) (hp : pv S) : pv (ab_tick S) := by
  have ho := tick_o S
  have hT := ab_T_lt h
  refine ⟨?_, fun h0 L t hL ht => ?_⟩
  · rw [(tick_193 S).1, ← zt_tick]
    exact pva_zt (I_tA h hb) (pva_tA h hb hJ hp.1)
  · rw [(tick_193 S).1] at ht
    have hc := h.2.1.2.2.2.1
    have h19 : ab_tick S 19 0 = S 19 0 := by rw [← zt_tick, zt_19 _ (by omega)]; exact ho.2.2.2 0
    rw [h19] at h0
    have hTe : ab_T S = (S 19 3).toNat + 1 := by unfold ab_T; rw [h0]; rfl
    have hd : (64 * t + L) / 64 = t := by omega
    rw [← zt_tick, zt_o _ _ (by omega), Z24, show ab_T (ab_tA S) = ab_T S from ab_T_cg ho.2.2.2, if_neg (by rw [hd]; omega)]
    unfold ab_tA
    rw [ab_choN_o _ _ _ (by omega), loseN24 _ _ (by rw [ab_T_cg ho.2.1, hd]; omega) 16 (by omega), dlvN24 _ _ (by rw [ab_T_cg ho.1, hd]; omega) 16 (by omega), ab_back24, if_neg (by omega), hp.2 h0 L t hL (by omega)]
    rfl
