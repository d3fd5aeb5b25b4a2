/-! what the property says, as an invariant; c: the first tick in which nothing is done yet -/
def pvf (S : ab_S) (c : Int) (f : Nat) : Prop :=
  S 4 f = S 5 f + S 6 f + tt S f ∧
  (0 < S 4 f → S 4 f ≤ S 19 3 - S 3 f) ∧
  (0 < S 4 f - cn S f (S 0 f).toNat → S 4 f - cn S f (S 0 f).toNat ≤ S 19 3 - S 3 f - 1) ∧
  ((S 5 f = S 2 f → S 3 f + S 2 f + 1 ≤ S 9 f ∧ S 9 f < c) ∧ (¬ S 5 f = S 2 f → S 9 f = -1)) ∧
  ((S 5 f = 0 → S 7 f = 0 ∧ S 8 f = -1) ∧ (0 < S 5 f → S 7 f < S 5 f)) ∧
  (ab_far S f = true → S 10 f ≤ S 4 f ∧ (S 4 f = 0 → S 11 f = -1) ∧ (0 < S 4 f → 0 < S 10 f)) ∧
  (ab_far S f = false → S 6 f = 0 ∧ S 7 f = 0) ∧ S 3 f ≤ S 19 3 + 100
/-- the packets of a flow whose hosts are at one leaf: where they wait, and that they wait in order -/
def pvn (S : ab_S) (f : Nat) : Prop := ab_far S f = false → S 8 f < S 4 f ∧
  (∀ L j : Nat, L < 64 → (j : Int) < S 14 L → S 20 (4 * L + j) = (f : Int) → (L = (S 0 f).toNat ∨ L = 16 + (S 1 f).toNat) ∧ S 8 f < S 21 (4 * L + j) ∧ S 21 (4 * L + j) < S 4 f) ∧
  (∀ L j L' j' : Nat, L < 64 → L' < 64 → (j : Int) < S 14 L → (j' : Int) < S 14 L' → S 20 (4 * L + j) = (f : Int) → S 20 (4 * L' + j') = (f : Int) → (L = L' ∧ j < j') ∨ (16 ≤ L ∧ L' < 16) → S 21 (4 * L + j) < S 21 (4 * L' + j'))
/-- what the flows to the host h have open -/
def pvs (S : ab_S) (h : Nat) : Int := am_sum (fun f => if S 1 f = (h : Int) then S 4 f - S 5 f - S 6 f else 0) (ab_n S)
def pva (S : ab_S) (c : Int) : Prop := (∀ f : Nat, (f : Int) < S 19 4 → pvf S c f ∧ pvn S f) ∧ (∀ h : Nat, h < 16 → S 16 h = pvs S h) ∧ ∀ h : Nat, h < 16 → S 16 h ≤ S 19 2
def pvr (S : ab_S) : Prop := S 19 0 = 0 → ∀ L t : Nat, L < 64 → S 19 3 < (t : Int) → S 24 (64 * t + L) = 0
def pv (S : ab_S) : Prop := pva S (S 19 3) ∧ pvr S
theorem n_cg {S T : ab_S} (h : T 19 4 = S 19 4) : ab_n T = ab_n S := by unfold ab_n; rw [h]
theorem pvf_cg {S T : ab_S} {c c' : Int} {f : Nat} (hc : c ≤ c') (h0 : 0 ≤ S 0 f ∧ S 0 f < 16) (h : ∀ j, j < 13 → T j f = S j f) (h14 : ∀ L, L < 64 → T 14 L = S 14 L) (h20 : ∀ L j : Nat, L < 64 → (j : Int) < S 14 L → T 20 (4 * L + j) = S 20 (4 * L + j)) (h3 : T 19 3 = S 19 3) (i : pvf S c f) : pvf T c' f := by
  unfold pvf at i ⊢
  rw [tt_cg h14 h20, h 0 (by omega), cn_cg (S := S) (T := T) (h14 (S 0 f).toNat (by omega)) (fun j hj => h20 _ j (by omega) hj), ab_far_cg (h 0 (by omega)) (h 1 (by omega)), h 2 (by omega), h 3 (by omega), h 4 (by omega), h 5 (by omega), h 6 (by omega), h 7 (by omega), h 8 (by omega), h 9 (by omega), h 10 (by omega), h 11 (by omega), h3]
  obtain ⟨i1, i2, i3, i4, i5, i6, i7, i8⟩ := i
  exact ⟨i1, i2, i3, ⟨fun z => ⟨(i4.1 z).1, by have := (i4.1 z).2; omega⟩, i4.2⟩, i5, i6, i7, i8⟩
theorem pvn_cg {S T : ab_S} {f : Nat} (h : ∀ j, j < 13 → T j f = S j f) (h14 : ∀ L, L < 64 → T 14 L = S 14 L) (hq : ∀ L j x : Nat, L < 64 → (j : Int) < S 14 L → x < 2 → T (20 + x) (4 * L + j) = S (20 + x) (4 * L + j)) (i : pvn S f) : pvn T f := by
  intro hf
  rw [ab_far_cg (h 0 (by omega)) (h 1 (by omega))] at hf
  obtain ⟨n0, n1, n2⟩ := i hf
  have q0 : ∀ L j : Nat, L < 64 → (j : Int) < S 14 L → T 20 (4 * L + j) = S 20 (4 * L + j) := fun L j a c => hq L j 0 a c (by omega)
  have q1 : ∀ L j : Nat, L < 64 → (j : Int) < S 14 L → T 21 (4 * L + j) = S 21 (4 * L + j) := fun L j a c => hq L j 1 a c (by omega)
  refine ⟨by rw [h 8 (by omega), h 4 (by omega)]; exact n0, fun L j hL hj hfl => ?_, fun L j L' j' hL hL' hj hj' f1 f2 ho => ?_⟩
  · rw [h14 L hL] at hj
    rw [q0 L j hL hj] at hfl
    rw [h 0 (by omega), h 1 (by omega), h 8 (by omega), h 4 (by omega), q1 L j hL hj]
    exact n1 L j hL hj hfl
  · rw [h14 L hL] at hj
    rw [h14 L' hL'] at hj'
    rw [q0 L j hL hj] at f1
    rw [q0 L' j' hL' hj'] at f2
    rw [q1 L j hL hj, q1 L' j' hL' hj']
    exact n2 L j L' j' hL hL' hj hj' f1 f2 ho
theorem pvs_cg {S T : ab_S} {h : Nat} (hn : T 19 4 = S 19 4) (e : ∀ f : Nat, (f : Int) < S 19 4 → T 1 f = S 1 f ∧ T 4 f = S 4 f ∧ T 5 f = S 5 f ∧ T 6 f = S 6 f) : pvs T h = pvs S h := by
  unfold pvs
  rw [n_cg hn]
  refine am_sum_cg (fun f hf => ?_)
  have := e f (by unfold ab_n at hf; omega)
  rw [this.1, this.2.1, this.2.2.1, this.2.2.2]
/-- the first packet of a queue leaves it -/
theorem pvn_drop {S D : ab_S} {L f : Nat} (hL : L < 64) (hn : 0 < S 14 L) (h0 : 0 ≤ S 0 f ∧ S 0 f < 16) (h1 : 0 ≤ S 1 f ∧ S 1 f < 16) (h4 : ∀ i, i < 64 → S 14 i ≤ 4)
    (d14 : ∀ i, D 14 i = if i = L then S 14 L - 1 else S 14 i) (d20 : ∀ i, D 20 i = if i / 4 = L ∧ i % 4 < 3 then S 20 (i + 1) else S 20 i) (d21 : ∀ i, D 21 i = if i / 4 = L ∧ i % 4 < 3 then S 21 (i + 1) else S 21 i)
    (e0 : D 0 f = S 0 f) (e1 : D 1 f = S 1 f) (e4 : D 4 f = S 4 f) (e8 : D 8 f = S 8 f ∨ (16 ≤ L ∧ S 20 (4 * L) = (f : Int) ∧ D 8 f = S 21 (4 * L))) (h : pvn S f) : pvn D f := by
  intro hf
  rw [ab_far_cg e0 e1] at hf
  obtain ⟨n0, n1, n2⟩ := h hf
  have org : ∀ L' j' : Nat, L' < 64 → (j' : Int) < D 14 L' → ∃ j : Nat, (j : Int) < S 14 L' ∧ D 20 (4 * L' + j') = S 20 (4 * L' + j) ∧ D 21 (4 * L' + j') = S 21 (4 * L' + j) ∧ j = if L' = L then j' + 1 else j' := by
    intro L' j' hL' hj
    have h4' := h4 L' hL'
    rw [d14] at hj
    by_cases q : L' = L
    · subst q
      rw [if_pos rfl] at hj
      refine ⟨j' + 1, by omega, ?_, ?_, by rw [if_pos rfl]⟩
      · rw [d20, if_pos ⟨by omega, by omega⟩, Nat.add_assoc]
      · rw [d21, if_pos ⟨by omega, by omega⟩, Nat.add_assoc]
    · rw [if_neg q] at hj
      refine ⟨j', hj, ?_, ?_, by rw [if_neg q]⟩
      · rw [d20, if_neg (by rintro ⟨z, -⟩; exact q (by omega))]
      · rw [d21, if_neg (by rintro ⟨z, -⟩; exact q (by omega))]
  refine ⟨?_, fun L' j' hL' hj hfl => ?_, fun L1 j1 L2 j2 hL1 hL2 hj1 hj2 f1 f2 ho => ?_⟩
  · rw [e4]
    rcases e8 with e8 | ⟨c1, c2, c3⟩
    · rw [e8]; exact n0
    · rw [c3]
      have := (n1 L 0 hL (by simpa using hn) (by simpa using c2)).2.2
      simpa using this
  · obtain ⟨j, a1, a2, a3, a4⟩ := org L' j' hL' hj
    rw [a2] at hfl
    obtain ⟨b1, b2, b3⟩ := n1 L' j hL' a1 hfl
    rw [e0, e1, a3, e4]
    refine ⟨b1, ?_, b3⟩
    rcases e8 with e8 | ⟨c1, c2, c3⟩
    · rw [e8]; exact b2
    · rw [c3]
      have c4 := (n1 L 0 hL (by simpa using hn) (by simpa using c2)).1
      have hh := n2 L 0 L' j hL hL' (by simpa using hn) a1 (by simpa using c2) hfl (by
        by_cases q : L' = L
        · rw [if_pos q] at a4
          exact Or.inl ⟨q.symm, by omega⟩
        · exact Or.inr ⟨c1, by omega⟩)
      simpa using hh
  · obtain ⟨i1, a1, a2, a3, a4⟩ := org L1 j1 hL1 hj1
    obtain ⟨i2, b1, b2, b3, b4⟩ := org L2 j2 hL2 hj2
    rw [a2] at f1
    rw [b2] at f2
    rw [a3, b3]
    refine n2 L1 i1 L2 i2 hL1 hL2 a1 b1 f1 f2 ?_
    rcases ho with ⟨rfl, ho⟩ | ho
    · refine Or.inl ⟨rfl, ?_⟩
      by_cases q : L1 = L
      · rw [if_pos q] at a4 b4; omega
      · rw [if_neg q] at a4 b4; omega
    · exact Or.inr ho
/-! a packet is delivered -/
section DLV
variable {S : ab_S} {b c : Int} {k : Nat}
theorem dlv_g (hn : 0 < S 14 (16 + k)) {g : Nat} (hg : g < 13 ∨ g = 19) (i : Nat) : ab_dlv S k g i = ab_got S (ab_fl S (16 + k)) (S 21 (4 * (16 + k))) g i := by
  unfold ab_dlv
  rw [if_pos hn, ab_drop_o _ _ _ _ (by omega), ab_u_app, if_neg (by omega)]
theorem dlv_e (hn : 0 < S 14 (16 + k)) : ∃ T : ab_S, ab_dlv S k = ab_drop T (16 + k) ∧ (∀ g i, 10 ≤ g → ¬ g = 16 → T g i = S g i) := by
  refine ⟨ab_u (ab_got S (ab_fl S (16 + k)) (S 21 (4 * (16 + k)))) 16 k (S 16 k - 1), by unfold ab_dlv; rw [if_pos hn], fun g i h1 h2 => ?_⟩
  rw [ab_u_app, if_neg (by omega), ab_got_o _ _ _ _ _ (by omega)]
theorem dlv_14 (hn : 0 < S 14 (16 + k)) (i : Nat) : ab_dlv S k 14 i = if i = 16 + k then S 14 (16 + k) - 1 else S 14 i := by
  obtain ⟨T, e, h⟩ := dlv_e hn
  rw [e, ab_drop14, h _ _ (by omega) (by omega), h _ _ (by omega) (by omega)]
theorem dlv_q (hn : 0 < S 14 (16 + k)) {x : Nat} (hx : x < 4) (i : Nat) : ab_dlv S k (20 + x) i = if i / 4 = 16 + k ∧ i % 4 < 3 then S (20 + x) (i + 1) else S (20 + x) i := by
  obtain ⟨T, e, h⟩ := dlv_e hn
  rw [e, ab_dropq _ _ _ _ hx, h _ _ (by omega) (by omega), h _ _ (by omega) (by omega)]
theorem dlv_cn (hn : 0 < S 14 (16 + k)) (hk : k < 16) (h4 : ∀ i, i < 64 → S 14 i ≤ 4) (f : Nat) {L : Nat} (hL : L < 64) : cn (ab_dlv S k) f L = if L = 16 + k then cn S f L - (if S 20 (4 * (16 + k)) = (f : Int) then 1 else 0) else cn S f L := by
  obtain ⟨T, e, h⟩ := dlv_e hn
  have hc : ∀ L, cn T f L = cn S f L := fun L => cn_cg (h _ _ (by omega) (by omega)) (fun j _ => h _ _ (by omega) (by omega))
  rw [e, cn_drop (by omega) (by rw [h _ _ (by omega) (by omega)]; exact hn) (fun i hi => by rw [h _ _ (by omega) (by omega)]; exact h4 i hi) f hL, hc, h _ _ (by omega) (by omega)]
theorem dlv_tt (hn : 0 < S 14 (16 + k)) (hk : k < 16) (h4 : ∀ i, i < 64 → S 14 i ≤ 4) (f : Nat) : tt (ab_dlv S k) f = tt S f - (if S 20 (4 * (16 + k)) = (f : Int) then 1 else 0) := by
  obtain ⟨T, e, h⟩ := dlv_e hn
  have hc : tt T f = tt S f := tt_cg (fun L _ => h _ _ (by omega) (by omega)) (fun L j _ _ => h _ _ (by omega) (by omega))
  rw [e, tt_drop (by omega) (by rw [h _ _ (by omega) (by omega)]; exact hn) (fun i hi => by rw [h _ _ (by omega) (by omega)]; exact h4 i hi), hc, h _ _ (by omega) (by omega)]
theorem dlv_16 (hn : 0 < S 14 (16 + k)) (i : Nat) : ab_dlv S k 16 i = if i = k then S 16 k - 1 else S 16 i := by
  unfold ab_dlv
  rw [if_pos hn, ab_drop_o _ _ _ _ (by omega), ab_u_app]
  by_cases q : i = k
  · rw [if_pos ⟨rfl, q⟩, if_pos q]
  · rw [if_neg (fun z => q z.2), if_neg q, ab_got_o _ _ _ _ _ (by omega)]
/-- the sums, where one flow of a host changes -/
theorem pvs_up {T : ab_S} {f0 h : Nat} {x : Int} (hn : T 19 4 = S 19 4) (hf : (f0 : Int) < S 19 4) (e1 : ∀ f, T 1 f = S 1 f) (e : ∀ f, T 4 f - T 5 f - T 6 f = if f = f0 then S 4 f - S 5 f - S 6 f + x else S 4 f - S 5 f - S 6 f) :
    pvs T h = pvs S h + (if S 1 f0 = (h : Int) then x else 0) := by
  unfold pvs
  rw [n_cg hn]
  refine am_sum_up (d0 := f0) (by unfold ab_n; omega) (fun f hf' => ?_)
  rw [e1, e]
  by_cases q : f = f0
  · subst q
    rw [if_pos rfl, if_pos rfl]
    by_cases q2 : S 1 f = (h : Int)
    · rw [if_pos q2, if_pos q2, if_pos q2]
    · rw [if_neg q2, if_neg q2, if_neg q2]; rfl
  · rw [if_neg q, if_neg q]
theorem pva_dlv (h : ab_I S b) (hJ : ab_J S) (hk : k < 16) (hc : S 19 3 < c) (hp : pva S c) : pva (ab_dlv S k) c := by
  have hs := h.s4 (L := 16 + k) (by omega)
  by_cases hn : 0 < S 14 (16 + k)
  · obtain ⟨p1, p2, p3⟩ := hp
    have hd := ab_hd h (show 16 + k < 64 by omega) hn
    have e19 : ∀ i, ab_dlv S k 19 i = S 19 i := fun i => by rw [dlv_g hn (by omega), ab_got_o _ _ _ _ _ (by omega)]
    have hg : ∀ g i, g < 13 → ¬ ((g = 5 ∨ g = 7 ∨ g = 8 ∨ g = 9) ∧ i = ab_fl S (16 + k)) → ab_dlv S k g i = S g i := fun g i z z2 => by rw [dlv_g hn (by omega), ab_got_o _ _ _ _ _ z2]
    have g5 := dlv_g hn (g := 5) (by omega) (ab_fl S (16 + k))
    have g7 := dlv_g hn (g := 7) (by omega) (ab_fl S (16 + k))
    have g8 := dlv_g hn (g := 8) (by omega) (ab_fl S (16 + k))
    have g9 := dlv_g hn (g := 9) (by omega) (ab_fl S (16 + k))
    rw [ab_got5] at g5
    rw [ab_got7] at g7
    rw [ab_got8] at g8
    rw [ab_got9] at g9
    have hcn := fun f {L : Nat} (hL : L < 64) => dlv_cn hn hk (fun i hi => (h.s4 hi).2.1) f hL
    have htt := dlv_tt hn hk (fun i hi => (h.s4 hi).2.1)
    have hfl : S 20 (4 * (16 + k)) = ((ab_fl S (16 + k) : Nat) : Int) := hd.1.symm
    have hlt : ((ab_fl S (16 + k) : Nat) : Int) < S 19 4 := hd.2.1
    have hx := (h.2.2.2.2.2.2.2 (16 + k) 0 (by omega) (by simpa using hn)).2.1
    have htg := (h.2.2.2.2.2.2.2 (16 + k) 0 (by omega) (by simpa using hn)).2.2.2.2.2.1 (by omega) (by omega)
    simp only [Nat.add_zero] at hx htg
    rw [hfl, Int.toNat_natCast] at htg
    obtain ⟨f0, hf0⟩ : ∃ f0 : Nat, f0 = ab_fl S (16 + k) := ⟨_, rfl⟩
    obtain ⟨x, hxe⟩ : ∃ x : Int, x = S 21 (4 * (16 + k)) := ⟨_, rfl⟩
    rw [← hf0] at hg g5 g7 g8 g9 hfl hlt htg
    rw [← hxe] at g7 g8 hx
    have hm : ∀ f, ab_dlv S k 4 f - ab_dlv S k 5 f - ab_dlv S k 6 f = if f = f0 then S 4 f - S 5 f - S 6 f + -1 else S 4 f - S 5 f - S 6 f := fun f => by
      rw [hg 4 f (by omega) (by omega), hg 6 f (by omega) (by omega)]
      by_cases q : f = f0
      · subst q; rw [if_pos rfl, g5]; omega
      · rw [if_neg q, hg 5 f (by omega) (by omega)]
    have hsum := fun h' => pvs_up (S := S) (T := ab_dlv S k) (h := h') (e19 4) hlt (fun f => hg 1 f (by omega) (by omega)) hm
    refine ⟨fun f hf => ?_, fun h' hh => ?_, fun h' hh => ?_⟩
    · rw [e19] at hf
      obtain ⟨q1, q2⟩ := p1 f hf
      have i := h.2.2.1 f hf
      have hj := hJ f hf
      unfold ab_If at i
      obtain ⟨i0, i1, i2, i3, i4, i5, i6, i7, i8, i9, i10, i11, i12, i13, i14⟩ := i
      refine ⟨?_, ?_⟩
      · unfold pvf at q1 ⊢
        obtain ⟨a1, a2, a3, a4, a5, a6, a7, a8⟩ := q1
        rw [hg 0 f (by omega) (by omega), hcn f (show (S 0 f).toNat < 64 by omega), if_neg (by omega), htt, hfl, ab_far_cg (S := S) (hg 0 f (by omega) (by omega)) (hg 1 f (by omega) (by omega)), hg 2 f (by omega) (by omega), hg 3 f (by omega) (by omega), hg 4 f (by omega) (by omega), hg 6 f (by omega) (by omega), hg 10 f (by omega) (by omega), hg 11 f (by omega) (by omega), e19]
        by_cases q : f = f0
        · subst q
          rw [if_pos rfl, g5, g7, g8, g9]
          have hup : cn S f (S 0 f).toNat + cn S f (16 + k) ≤ tt S f := sm_two (f := fun L => cn S f L) (n := 64) (fun L _ => cn_nn S f L) (by omega) (by omega) (by omega)
          have h1 := cn_head hn hs.2.1 hfl
          have h2 := cn_nn S f (S 0 f).toNat
          have hx8 : ab_far S f = false → S 8 f < x := fun z => by
            have := ((q2 z).2.1 (16 + k) 0 (by omega) (by simpa using hn) (by simpa using hfl)).2.1
            simp only [Nat.add_zero] at this
            rw [← hxe] at this
            exact this
          refine ⟨by omega, a2, a3, ⟨fun z => ?_, fun z => ?_⟩, ⟨fun z => by omega, fun z => ?_⟩, a6, fun z => ?_, a8⟩
          · rw [if_pos z]
            have := a3 (by omega)
            omega
          · rw [if_neg z]; exact a4.2 (by omega)
          · rcases (by omega : S 5 f = 0 ∨ 0 < S 5 f) with y | y
            · have := a5.1 y
              rw [if_neg (by omega)]; omega
            · have := a5.2 y
              split <;> omega
          · have := a7 z
            have := hx8 z
            rw [if_neg (by omega)]; omega
        · have e : ¬ ((f0 : Int) = (f : Int)) := by omega
          rw [if_neg e, hg 5 f (by omega) (by omega), hg 7 f (by omega) (by omega), hg 8 f (by omega) (by omega), hg 9 f (by omega) (by omega), Int.sub_zero]
          exact ⟨a1, a2, a3, a4, a5, a6, a7, a8⟩
      · refine pvn_drop (L := 16 + k) (by omega) hn i0 i1 (fun i hi => (h.s4 hi).2.1) (dlv_14 hn) (fun i => dlv_q hn (x := 0) (by omega) i) (fun i => dlv_q hn (x := 1) (by omega) i) (hg 0 f (by omega) (by omega)) (hg 1 f (by omega) (by omega)) (hg 4 f (by omega) (by omega)) ?_ q2
        by_cases q : f = f0
        · subst q
          rw [g8]
          by_cases q3 : x < S 8 f
          · rw [if_pos q3]; exact Or.inl rfl
          · rw [if_neg q3]; exact Or.inr ⟨by omega, hfl, hxe⟩
        · exact Or.inl (hg 8 f (by omega) (by omega))
    · rw [hsum, dlv_16 hn, htg]
      by_cases q : h' = k
      · subst q; rw [if_pos rfl, if_pos (by omega), p2 h' hh]; omega
      · rw [if_neg q, if_neg (by omega), p2 h' hh]; omega
    · rw [dlv_16 hn, e19]
      have := p3 h' hh
      by_cases q : h' = k
      · subst q; rw [if_pos rfl]; omega
      · rw [if_neg q]; exact this
  · unfold ab_dlv
    rw [if_neg hn]
    exact hp
end DLV
/-- nothing that is spoken of has changed -/
theorem pva_cg {S T : ab_S} {b c c' : Int} (h : ab_I S b) (hc : c ≤ c') (e : ∀ g i, g < 13 → T g i = S g i) (h14 : ∀ i, T 14 i = S 14 i) (h16 : ∀ i, T 16 i = S 16 i) (h19 : ∀ i, T 19 i = S 19 i) (hq : ∀ x i, x < 2 → T (20 + x) i = S (20 + x) i) (hp : pva S c) : pva T c' := by
  obtain ⟨p1, p2, p3⟩ := hp
  refine ⟨fun f hf => ?_, fun k hk => ?_, fun k hk => ?_⟩
  · rw [h19] at hf
    have i := h.2.2.1 f hf
    obtain ⟨q1, q2⟩ := p1 f hf
    exact ⟨pvf_cg hc i.1 (fun j hj => e j f hj) (fun L _ => h14 L) (fun L j _ _ => hq 0 _ (by omega)) (h19 3) q1, pvn_cg (fun j hj => e j f hj) (fun L _ => h14 L) (fun L j x _ _ hx => hq x _ hx) q2⟩
  · rw [h16, p2 k hk, pvs_cg (h19 4) (fun f _ => ⟨e 1 f (by omega), e 4 f (by omega), e 5 f (by omega), e 6 f (by omega)⟩)]
  · rw [h16, h19]; exact p3 k hk
theorem pva_dlvN {S : ab_S} {b c : Int} (h : ab_I S b) (hb : b + 16 ≤ 100000000) (hJ : ab_J S) (hc : S 19 3 < c) (hp : pva S c) : ∀ k : Nat, k ≤ 16 → pva (ab_dlvN S k) c
  | 0, _ => hp
  | k + 1, hk => by
    have e : ∀ g i, (ab_kp g ∨ g = 4 ∨ g = 6) → ab_dlvN S k g i = S g i := fun g i q => ab_dlvN_o S g i q k
    refine pva_dlv (I_dlvN h hb k (by omega)) (fun f hf => ?_) (by omega) (by rw [e 19 3 (by unfold ab_kp; omega)]; exact hc) (pva_dlvN h hb hJ hc hp k (by omega))
    rw [e 19 4 (by unfold ab_kp; omega)] at hf
    rw [e 4 f (by omega), e 6 f (by omega), e 2 f (by unfold ab_kp; omega)]
    exact hJ f hf
/-! a packet is lost -/
section LOSE
variable {S : ab_S} {b c : Int} {sp lf : Nat}
theorem lose_e (hn : 0 < S 14 (32 + 4 * lf + sp) ∧ ¬ S 18 (4 * ab_lb S (ab_fl S (32 + 4 * lf + sp)) + sp) = 0) : ∃ T : ab_S, ab_lose S sp lf = ab_drop T (32 + 4 * lf + sp) ∧ (∀ g i, ¬ (g = 6 ∧ i = ab_fl S (32 + 4 * lf + sp)) → ¬ (g = 16 ∧ i = (S 1 (ab_fl S (32 + 4 * lf + sp))).toNat) → T g i = S g i) ∧ T 6 (ab_fl S (32 + 4 * lf + sp)) = S 6 (ab_fl S (32 + 4 * lf + sp)) + 1 ∧ T 16 (S 1 (ab_fl S (32 + 4 * lf + sp))).toNat = S 16 (S 1 (ab_fl S (32 + 4 * lf + sp))).toNat - 1 := by
  refine ⟨_, by unfold ab_lose; rw [if_pos hn], fun g i h1 h2 => ?_, ?_, ?_⟩
  · rw [ab_u_app, if_neg h2, ab_u_app, if_neg h1]
  · rw [ab_u_app, if_neg (by omega), ab_u_app, if_pos ⟨rfl, rfl⟩]
  · rw [ab_u_app, if_pos ⟨rfl, rfl⟩]
theorem pva_lose (h : ab_I S b) (hs4 : sp < 4) (hl4 : lf < 4) (hp : pva S c) : pva (ab_lose S sp lf) c := by
  have hs := h.s4 (L := 32 + 4 * lf + sp) (by omega)
  by_cases hn : 0 < S 14 (32 + 4 * lf + sp) ∧ ¬ S 18 (4 * ab_lb S (ab_fl S (32 + 4 * lf + sp)) + sp) = 0
  · obtain ⟨T, eT, o, t6, t16⟩ := lose_e hn
    obtain ⟨p1, p2, p3⟩ := hp
    have hn := hn.1
    obtain ⟨L, hL⟩ : ∃ L : Nat, L = 32 + 4 * lf + sp := ⟨_, rfl⟩
    rw [← hL] at hn hs eT o t6 t16
    have hL64 : L < 64 := by omega
    have hd := ab_hd h hL64 hn
    have hfl : S 20 (4 * L) = ((ab_fl S L : Nat) : Int) := hd.1.symm
    have hlt : ((ab_fl S L : Nat) : Int) < S 19 4 := hd.2.1
    obtain ⟨f0, hf0⟩ : ∃ f0 : Nat, f0 = ab_fl S L := ⟨_, rfl⟩
    rw [← hf0] at hfl hlt o t6 t16
    have i0 := h.2.2.1 f0 hlt
    have i01 := i0.2.1
    rw [eT]
    have d14 : ∀ i, ab_drop T L 14 i = if i = L then S 14 L - 1 else S 14 i := fun i => by rw [ab_drop14, o _ _ (by omega) (by omega), o _ _ (by omega) (by omega)]
    have dq : ∀ x i, x < 4 → ab_drop T L (20 + x) i = if i / 4 = L ∧ i % 4 < 3 then S (20 + x) (i + 1) else S (20 + x) i := fun x i hx => by rw [ab_dropq _ _ _ _ hx, o _ _ (by omega) (by omega), o _ _ (by omega) (by omega)]
    have hg : ∀ g i, g < 13 ∨ g = 19 → ¬ (g = 6 ∧ i = f0) → ab_drop T L g i = S g i := fun g i z z2 => by rw [ab_drop_o _ _ _ _ (by omega), o _ _ z2 (by omega)]
    have g6 : ab_drop T L 6 f0 = S 6 f0 + 1 := by rw [ab_drop_o _ _ _ _ (by omega), t6]
    have g16 : ∀ i, ab_drop T L 16 i = if i = (S 1 f0).toNat then S 16 (S 1 f0).toNat - 1 else S 16 i := fun i => by
      rw [ab_drop_o _ _ _ _ (by omega)]
      by_cases q : i = (S 1 f0).toNat
      · rw [if_pos q, q, t16]
      · rw [if_neg q, o _ _ (by omega) (fun z => q z.2)]
    have hcnT : ∀ f L', cn T f L' = cn S f L' := fun f L' => cn_cg (o _ _ (by omega) (by omega)) (fun j _ => o _ _ (by omega) (by omega))
    have httT : ∀ f, tt T f = tt S f := fun f => tt_cg (fun L _ => o _ _ (by omega) (by omega)) (fun L j _ _ => o _ _ (by omega) (by omega))
    have hcn : ∀ f {L' : Nat}, L' < 64 → cn (ab_drop T L) f L' = if L' = L then cn S f L' - (if S 20 (4 * L) = (f : Int) then 1 else 0) else cn S f L' := fun f L' hL' => by
      rw [cn_drop hL64 (by rw [o _ _ (by omega) (by omega)]; exact hn) (fun i hi => by rw [o _ _ (by omega) (by omega)]; exact (h.s4 hi).2.1) f hL', hcnT, o 20 _ (by omega) (by omega)]
    have htt : ∀ f, tt (ab_drop T L) f = tt S f - (if S 20 (4 * L) = (f : Int) then 1 else 0) := fun f => by
      rw [tt_drop hL64 (by rw [o _ _ (by omega) (by omega)]; exact hn) (fun i hi => by rw [o _ _ (by omega) (by omega)]; exact (h.s4 hi).2.1), httT, o 20 _ (by omega) (by omega)]
    have hm : ∀ f, ab_drop T L 4 f - ab_drop T L 5 f - ab_drop T L 6 f = if f = f0 then S 4 f - S 5 f - S 6 f + -1 else S 4 f - S 5 f - S 6 f := fun f => by
      rw [hg 4 f (by omega) (by omega), hg 5 f (by omega) (by omega)]
      by_cases q : f = f0
      · subst q; rw [if_pos rfl, g6]; omega
      · rw [if_neg q, hg 6 f (by omega) (by omega)]
    have hsum := fun h' => pvs_up (S := S) (T := ab_drop T L) (h := h') (hg 19 4 (by omega) (by omega)) hlt (fun f => hg 1 f (by omega) (by omega)) hm
    refine ⟨fun f hf => ?_, fun h' hh => ?_, fun h' hh => ?_⟩
    · rw [hg 19 4 (by omega) (by omega)] at hf
      obtain ⟨q1, q2⟩ := p1 f hf
      have i := h.2.2.1 f hf
      refine ⟨?_, ?_⟩
      · unfold pvf at q1 ⊢
        obtain ⟨a1, a2, a3, a4, a5, a6, a7, a8⟩ := q1
        have z0 := i.1
        rw [hg 0 f (by omega) (by omega), hcn f (show (S 0 f).toNat < 64 by omega), if_neg (by omega), htt, hfl, ab_far_cg (S := S) (hg 0 f (by omega) (by omega)) (hg 1 f (by omega) (by omega)), hg 2 f (by omega) (by omega), hg 3 f (by omega) (by omega), hg 4 f (by omega) (by omega), hg 5 f (by omega) (by omega), hg 7 f (by omega) (by omega), hg 8 f (by omega) (by omega), hg 9 f (by omega) (by omega), hg 10 f (by omega) (by omega), hg 11 f (by omega) (by omega), hg 19 3 (by omega) (by omega)]
        by_cases q : f = f0
        · subst q
          rw [if_pos rfl, g6]
          refine ⟨by omega, a2, a3, a4, a5, a6, fun z => ?_, a8⟩
          exfalso
          have := ((q2 z).2.1 L 0 hL64 (by simpa using hn) (by simpa using hfl)).1
          omega
        · have e : ¬ ((f0 : Int) = (f : Int)) := by omega
          rw [if_neg e, hg 6 f (by omega) (by omega), Int.sub_zero]
          exact ⟨a1, a2, a3, a4, a5, a6, a7, a8⟩
      · exact pvn_drop (L := L) hL64 hn i.1 i.2.1 (fun i hi => (h.s4 hi).2.1) d14 (fun i => dq 0 i (by omega)) (fun i => dq 1 i (by omega)) (hg 0 f (by omega) (by omega)) (hg 1 f (by omega) (by omega)) (hg 4 f (by omega) (by omega)) (Or.inl (hg 8 f (by omega) (by omega))) q2
    · rw [hsum, g16]
      by_cases q : h' = (S 1 f0).toNat
      · rw [if_pos q, if_pos (by omega), ← q, p2 h' hh]; omega
      · rw [if_neg q, if_neg (by omega), p2 h' hh]; omega
    · rw [g16, hg 19 2 (by omega) (by omega)]
      have := p3 h' hh
      by_cases q : h' = (S 1 f0).toNat
      · rw [if_pos q, ← q]; omega
      · rw [if_neg q]; exact this
  · unfold ab_lose
    rw [if_neg hn]
    exact hp
end LOSE
theorem pva_loseN {S : ab_S} {b c : Int} (h : ab_I S b) (hb : b + 16 ≤ 100000000) (hp : pva S c) : ∀ k : Nat, k ≤ 16 → pva (ab_loseN S k) c
  | 0, _ => hp
  | k + 1, hk => pva_lose (I_loseN h hb k (by omega)) (by omega) (by omega) (pva_loseN h hb hp k (by omega))
theorem pva_choN {S : ab_S} {b c : Int} (h : ab_I S b) (hp : pva S c) (k : Nat) : pva (ab_choN S k) c :=
  pva_cg h (Int.le_refl _) (fun g i hg => ab_choN_o S g i (by omega) k) (fun i => ab_choN_o S 14 i (by omega) k) (fun i => ab_choN_o S 16 i (by omega) k) (fun i => ab_choN_o S 19 i (by omega) k) (fun x i hx => ab_choN_o S (20 + x) i (by omega) k) hp
theorem pva_tA {S : ab_S} {b : Int} (h : ab_I S b) (hb : b + 48 ≤ 100000000) (hJ : ab_J S) (hp : pva S (S 19 3)) : pva (ab_tA S) (S 19 3 + 1) := by
  have hI1 : ab_I (ab_back S 64) b := I_back h
  have hI2 := I_dlvN hI1 (by omega) 16 (by omega)
  have hI3 := I_loseN hI2 (by omega) 16 (by omega)
  have e := fun g i q => ab_back_o S 64 g i q
  have hp1 : pva (ab_back S 64) (S 19 3 + 1) := pva_cg h (by omega) (fun g i hg => e g i (by omega)) (fun i => e 14 i (by omega)) (fun i => e 16 i (by omega)) (fun i => e 19 i (by omega)) (fun x i hx => e (20 + x) i (by omega)) hp
  have hJ1 : ab_J (ab_back S 64) := fun f hf => by
    rw [e 19 4 (by omega)] at hf
    rw [e 4 f (by omega), e 6 f (by omega), e 2 f (by omega)]
    exact hJ f hf
  exact pva_choN hI3 (pva_loseN hI2 (by omega) (pva_dlvN hI1 (by omega) hJ1 (by rw [e 19 3 (by omega)]; omega) hp1 16 (by omega)) 16 (by omega)) 16
