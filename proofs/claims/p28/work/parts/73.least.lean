/-! leastTicks in plain words; the component's memory at its beginning; masks -/
def ab_tos (S : ab_S) (f : Nat) : Int := S 2 f - (S 4 f - S 6 f)
def ab_P (S : ab_S) (what which : Nat) (f : Nat) : Bool :=
  if what < 2 then decide ((if what % 2 = 0 then S 0 f else S 1 f) = (which : Int)) else ab_far S f && decide ((if what % 2 = 0 then S 0 f else S 1 f) / 4 = (which : Int))
def ab_ts (S : ab_S) (what which n : Nat) : Int := am_sum (fun f => if ab_P S what which f = true then ab_tos S f else 0) n
theorem ts_0 (S : ab_S) (what which : Nat) : ab_ts S what which 0 = 0 := rfl
theorem ts_y {S : ab_S} {what which n : Nat} (h : ab_P S what which n = true) : ab_ts S what which n + ab_tos S n = ab_ts S what which (n + 1) := by
  unfold ab_ts; rw [am_sum, if_pos h]
theorem ts_n {S : ab_S} {what which n : Nat} (h : ab_P S what which n = false) : ab_ts S what which n = ab_ts S what which (n + 1) := by
  unfold ab_ts; rw [am_sum, if_neg (by rw [h]; decide)]; omega
theorem ts_rng {S : ab_S} {b : Int} (h : ab_I S b) (hJ : ab_J S) (hb : b ≤ 10000000) (what which : Nat) : ∀ n : Nat, (n : Int) ≤ S 19 4 → 0 ≤ ab_ts S what which n ∧ ab_ts S what which n ≤ 10000100 * n
  | 0, _ => by rw [ts_0]; omega
  | n + 1, hn => by
    have ih := ts_rng h hJ hb what which n (by omega)
    have i := h.2.2.1 n (by omega)
    unfold ab_If at i
    obtain ⟨i0, i1, i2, i3, i4, i5, i6, -⟩ := i
    have j := hJ n (by omega)
    cases hp : ab_P S what which n with
    | true => rw [← ts_y hp]; unfold ab_tos; omega
    | false => rw [← ts_n hp]; omega
theorem ts_rngF {S : ab_S} {b : Int} (h : ab_I S b) (hJ : ab_J S) (hb : b ≤ 10000000) (what which : Nat) {n : Nat} (hn : (n : Int) ≤ S 19 4) : 0 ≤ ab_ts S what which n ∧ ab_ts S what which n ≤ 250000000 := by
  have := ts_rng h hJ hb what which n hn
  have := h.2.1.2.2.2.2
  omega
def ab_max (x y : Int) : Int := if x < y then y else x
def ab_n (S : ab_S) : Nat := (S 19 4).toNat
/-- the greatest number of the first h hosts -/
def ab_L1 (S : ab_S) : Nat → Int
  | 0 => 0
  | h + 1 => ab_max (ab_L1 S h) (ab_max (ab_ts S 0 h (ab_n S)) (ab_ts S 1 h (ab_n S)))
def ab_mo (S : ab_S) (a : Nat) : Int := ab_max (ab_ts S 2 a (ab_n S)) (ab_ts S 3 a (ab_n S))
/-- .. and of the first leaves -/
def ab_L2 (S : ab_S) : Nat → Int
  | 0 => ab_L1 S 16
  | a + 1 => if 0 < ab_many S a a then ab_max (ab_L2 S a) ((ab_mo S a + ab_many S a a - 1) / ab_many S a a) else ab_L2 S a
def ab_nn (S : ab_S) : Nat → Bool
  | 0 => false
  | a + 1 => ab_nn S a || (decide (0 < ab_mo S a) && decide (ab_many S a a = 0))
def ab_least (S : ab_S) : Int := if ab_nn S 4 = true then -1 else ab_L2 S 4
theorem nn_up {S : ab_S} {a : Nat} (h : ab_nn S a = true) : ∀ d, ab_nn S (a + d) = true
  | 0 => h
  | d + 1 => by rw [← Nat.add_assoc, ab_nn, nn_up h d]; rfl
theorem max_rng {x y l u : Int} (h1 : l ≤ x ∧ x ≤ u) (h2 : l ≤ y ∧ y ≤ u) : l ≤ ab_max x y ∧ ab_max x y ≤ u := by
  unfold ab_max; split <;> omega
section LEAST
variable {S : ab_S} {b : Int}
theorem ts_R (h : ab_I S b) (hJ : ab_J S) (hb : b ≤ 10000000) (what which : Nat) : 0 ≤ ab_ts S what which (ab_n S) ∧ ab_ts S what which (ab_n S) ≤ 250000000 :=
  ts_rngF h hJ hb what which (by have := h.2.1.2.2.2.2; unfold ab_n; omega)
theorem mo_R (h : ab_I S b) (hJ : ab_J S) (hb : b ≤ 10000000) (a : Nat) : 0 ≤ ab_mo S a ∧ ab_mo S a ≤ 250000000 := max_rng (ts_R h hJ hb 2 a) (ts_R h hJ hb 3 a)
theorem L1_R (h : ab_I S b) (hJ : ab_J S) (hb : b ≤ 10000000) : ∀ k : Nat, 0 ≤ ab_L1 S k ∧ ab_L1 S k ≤ 250000000
  | 0 => by simp [ab_L1]
  | k + 1 => max_rng (L1_R h hJ hb k) (max_rng (ts_R h hJ hb 0 k) (ts_R h hJ hb 1 k))
theorem div_R {m w : Int} (hm : 0 ≤ m ∧ m ≤ 250000000) (hw : 0 < w ∧ w ≤ 4) : 0 ≤ (m + w - 1) / w ∧ (m + w - 1) / w ≤ 250000000 := by
  have : w = 1 ∨ w = 2 ∨ w = 3 ∨ w = 4 := by omega
  rcases this with rfl | rfl | rfl | rfl <;> omega
theorem L2_R (h : ab_I S b) (hJ : ab_J S) (hb : b ≤ 10000000) : ∀ a : Nat, 0 ≤ ab_L2 S a ∧ ab_L2 S a ≤ 250000000
  | 0 => L1_R h hJ hb 16
  | a + 1 => by
    have hw := ab_many_rng S a a
    rw [ab_L2]
    split
    · exact max_rng (L2_R h hJ hb a) (div_R (mo_R h hJ hb a) (by omega))
    · exact L2_R h hJ hb a
end LEAST
/-! masks -/
theorem mask_clr {S : ab_S} (hq : ∀ q : Nat, q < 16 → S 18 q = 0 ∨ S 18 q = 1) {a s : Nat} (ha : a < 4) (hs : s < 4) : Int32.ofInt (ab_mask S a) &&& Int32.ofInt (-((2 ^ s : Nat) : Int) - 1) = Int32.ofInt (ab_mask S a - ((2 ^ s : Nat) : Int) * (1 - S 18 (4 * a + s))) := by
  have hb := bt_bit (ab_uc S (4 * a)) (ab_uc S (4 * a + 1)) (ab_uc S (4 * a + 2)) (ab_uc S (4 * a + 3)) (fun s => ab_uc S (4 * a + s)) rfl rfl rfl rfl hs
  have h1 := ab_uc1 (hq (4 * a + s) (by omega))
  rw [ab_mask_m hq ha, bt_clr (bt_mlt _ _ _ _) hs, hb, ← h1]
  congr 1
theorem mask_set {S : ab_S} (hq : ∀ q : Nat, q < 16 → S 18 q = 0 ∨ S 18 q = 1) {a s : Nat} (ha : a < 4) (hs : s < 4) (hc : S 18 (4 * a + s) = 1) : Int32.ofInt (ab_mask S a) ||| Int32.ofInt ((2 ^ s : Nat) : Int) = Int32.ofInt (ab_mask S a - ((2 ^ s : Nat) : Int) * (0 - S 18 (4 * a + s))) := by
  have hb := bt_bit (ab_uc S (4 * a)) (ab_uc S (4 * a + 1)) (ab_uc S (4 * a + 2)) (ab_uc S (4 * a + 3)) (fun s => ab_uc S (4 * a + s)) rfl rfl rfl rfl hs
  have h0 : ab_uc S (4 * a + s) = false := by unfold ab_uc; rw [hc]; rfl
  rw [ab_mask_m hq ha, bt_set (bt_mlt _ _ _ _) hs, hb, h0, hc]
  congr 1
  simp
theorem mask_rng {S : ab_S} (hq : ∀ q : Nat, q < 16 → S 18 q = 0 ∨ S 18 q = 1) {a : Nat} (ha : a < 4) : 0 ≤ ab_mask S a ∧ ab_mask S a < 16 := by
  rw [ab_mask_m hq ha]
  have := bt_mlt (ab_uc S (4 * a)) (ab_uc S (4 * a + 1)) (ab_uc S (4 * a + 2)) (ab_uc S (4 * a + 3))
  omega
def ab_ms (S : ab_S) : Nat → Int
  | 0 => 0
  | k + 1 => ab_ms S k + ab_many S k k
theorem ms_cuts {S : ab_S} (hq : ∀ q : Nat, q < 16 → S 18 q = 0 ∨ S 18 q = 1) : 16 - ab_ms S 4 = ab_cuts S := by
  simp only [ab_ms, ab_cuts, am_sum]
  rw [(mask_um hq (a := 0) (by omega)).2, (mask_um hq (a := 1) (by omega)).2, (mask_um hq (a := 2) (by omega)).2, (mask_um hq (a := 3) (by omega)).2]
  simp only [Nat.mul_zero, Nat.zero_add, Nat.reduceMul, Nat.reduceAdd]
  omega
/-! the component's beginning -/
def bg0 (d g w : Int) (σ : am_M) : Prop := σ 0 0 8 = 0 ∧ σ 0 0 9 = 0 ∧ σ 0 0 10 = d ∧ σ 0 0 11 = g ∧ σ 0 0 12 = w
def bg1 (d g w : Int) (k : Nat) (σ : am_M) : Prop := bg0 d g w σ ∧ ∀ L, L < k → σ 11 L 2 = 0 ∧ σ 11 L 3 = 0 ∧ σ 11 L 4 = 4 ∧ σ 11 L 5 = -1 ∧ ∀ j, j < 7 → σ 13 L j = 0
def bg2 (d g w : Int) (k : Nat) (σ : am_M) : Prop := bg1 d g w 64 σ ∧ ∀ h, h < k → σ 10 h 2 = 0 ∧ σ 10 h 3 = -1
def bg3 (d g w : Int) (k : Nat) (σ : am_M) : Prop := bg2 d g w 16 σ ∧ ∀ a, a < k → σ 8 0 a = 15
theorem bg1_S {d g w : Int} {k : Nat} {σ : am_M} (h : bg1 d g w k σ) : bg1 d g w (k + 1) (lk_clear σ k) := by
  have o : ∀ k' i j : Nat, ¬ (k' = 13 ∨ k' = 11) → lk_clear σ k k' i j = σ k' i j := fun k' i j q => by
    unfold lk_clear; rw [if_neg (by omega), if_neg (by omega), if_neg (by omega), if_neg (by omega), if_neg (by omega), if_neg (by omega)]
  refine ⟨?_, fun L hL => ?_⟩
  · unfold bg0; rw [o 0 _ _ (by omega), o 0 _ _ (by omega), o 0 _ _ (by omega), o 0 _ _ (by omega), o 0 _ _ (by omega)]; exact h.1
  · by_cases e : L = k
    · subst e
      refine ⟨by simp [lk_clear], by simp [lk_clear], by simp [lk_clear], by simp [lk_clear], fun j hj => by simp [lk_clear, hj]⟩
    · have := h.2 L (by omega)
      simp only [lk_clear, e, false_and, and_false, if_false]
      exact this
theorem bg2_S {d g w : Int} {k : Nat} {σ : am_M} (h : bg2 d g w k σ) : bg2 d g w (k + 1) (am_up (am_up σ 10 k 2 0) 10 k 3 (-1)) := by
  have o : ∀ k' i j : Nat, ¬ (k' = 10 ∧ i = k) → am_up (am_up σ 10 k 2 0) 10 k 3 (-1) k' i j = σ k' i j := fun k' i j q => by
    rw [am_up_app, if_neg (by omega), am_up_app, if_neg (by omega)]
  refine ⟨⟨?_, fun L hL => ?_⟩, fun h' hh => ?_⟩
  · have := h.1.1
    unfold bg0 at this ⊢
    rw [o 0 _ _ (by omega), o 0 _ _ (by omega), o 0 _ _ (by omega), o 0 _ _ (by omega), o 0 _ _ (by omega)]; exact this
  · have := h.1.2 L hL
    rw [o 11 _ _ (by omega), o 11 _ _ (by omega), o 11 _ _ (by omega), o 11 _ _ (by omega)]
    exact ⟨this.1, this.2.1, this.2.2.1, this.2.2.2.1, fun j hj => by rw [o 13 _ _ (by omega)]; exact this.2.2.2.2 j hj⟩
  · by_cases e : h' = k
    · subst e; simp [am_up_app]
    · rw [o _ _ _ (by omega), o _ _ _ (by omega)]; exact h.2 h' (by omega)
theorem bg3_S {d g w : Int} {k : Nat} {σ : am_M} (h : bg3 d g w k σ) : bg3 d g w (k + 1) (am_up σ 8 0 k 15) := by
  have o : ∀ k' i j : Nat, ¬ k' = 8 → am_up σ 8 0 k 15 k' i j = σ k' i j := fun k' i j q => by rw [am_up_app, if_neg (by omega)]
  refine ⟨⟨⟨?_, fun L hL => ?_⟩, fun h' hh => ?_⟩, fun a ha => ?_⟩
  · have := h.1.1.1
    unfold bg0 at this ⊢
    rw [o 0 _ _ (by omega), o 0 _ _ (by omega), o 0 _ _ (by omega), o 0 _ _ (by omega), o 0 _ _ (by omega)]; exact this
  · have := h.1.1.2 L hL
    rw [o 11 _ _ (by omega), o 11 _ _ (by omega), o 11 _ _ (by omega), o 11 _ _ (by omega)]
    exact ⟨this.1, this.2.1, this.2.2.1, this.2.2.2.1, fun j hj => by rw [o 13 _ _ (by omega)]; exact this.2.2.2.2 j hj⟩
  · rw [o 10 _ _ (by omega), o 10 _ _ (by omega)]; exact h.1.2 h' hh
  · rw [am_up_app]
    by_cases e : a = k
    · rw [if_pos ⟨rfl, rfl, e⟩]
    · rw [if_neg (by omega)]; exact h.2 a (by omega)
theorem C_new0 {d g w : Int} {σ : am_M} (h : bg3 d g w 4 σ) : ab_C (ab_new0 d g w) σ := by
  obtain ⟨⟨⟨h0, h1⟩, h2⟩, h3⟩ := h
  have v := new0_v d g w
  refine ⟨?_, ?_, ?_, ?_, ?_, ?_, ?_⟩
  · rw [(v 0).2.2.2.1, (v 0).2.2.2.2.1, (v 0).2.2.2.2.2.1, (v 0).2.2.2.2.2.2.1, (v 0).2.2.2.2.2.2.2]
    exact h0
  · intro f j hf; rw [(v 0).2.2.2.2.2.2.2] at hf; omega
  · intro k hk; rw [(v k).2.2.1, new0_o _ _ _ _ (by omega)]; exact h2 k hk
  · intro L hL
    have := h1 L hL
    rw [(v L).1, (v L).2.1, new0_o d g w (f := 14) L (by omega)]
    omega
  · intro L j x hL hj; rw [new0_o _ _ _ _ (by omega)] at hj; omega
  · intro L t hL _ _; rw [new0_o _ _ _ _ (by omega)]; exact (h1 L hL).2.2.2.2 _ (by omega)
  · intro a ha
    rw [h3 a ha]
    unfold ab_mask
    rw [new0_o _ _ _ _ (by omega), new0_o _ _ _ _ (by omega), new0_o _ _ _ _ (by omega), new0_o _ _ _ _ (by omega)]; rfl
def fb13 (s t p st : Int) (f : Nat) : Int := if f = 0 then s else if f = 1 then t else if f = 2 then p else if f = 3 then st else if f < 8 then 0 else if f = 10 then 0 else -1
section WKL
variable {G : am_G} {p : Program} {l : Launch} {e : Env} {R : Room} {s : State} {m : MethodId} {args : Array Value} {below : List Frame} {meth : Method} {c : Code} {cells slots : Nat} {Q : State → Prop}
variable {A : Nat → Prop} {H0 : Heap} {nL pc : Nat} {lv : List (Option am_V)} {st : List am_V} {σ : am_M} {cc : ByteArray} {own : String} {Ts : List Cond}
theorem wk_ldc (C : wk_C G p s m args c cc nL own Ts A) {index : Nat} {n : Int} {v : Int32} (hv : v = Int32.ofInt n) (hconst : (Jvm.Cond.constant own index v).before args s = true) (hdg : decode cc pc = .ok (.ldc index, 2)) (k : wk G p l e R s m args below meth c cells slots Q A H0 nL (pc + 2) lv (.inl n :: st) σ) : wk G p l e R s m args below meth c cells slots Q A H0 nL pc lv st σ := by
  intro H locs ls hW hS hL
  subst hv
  exact lv_ldc C.1 C.2.1 C.2.2.2.1 hconst hdg (k H locs ls hW hS hL)
theorem wk_max (C : wk_C G p s m args c cc nL own Ts A) {index : Nat} (hlink : Cond.methodLink own index Lib.Math.max.name ∈ Ts) (hstat : Cond.static Lib.Math.max.name ∈ Ts) (hini : Cond.initialized "java/lang/Math" ∈ Ts) (hcode : Cond.code Lib.Math.max.name Lib.Math.max.code 2 (some .int) ∈ Ts) (hframes : 1 ≤ R.frames) (hlo : st.length + 13 ≤ R.locals) (hc : cells ≤ R.cells) (hs : slots ≤ R.slots) {x y : Int} (hx : -2147483648 ≤ x ∧ x < 2147483648) (hy : -2147483648 ≤ y ∧ y < 2147483648) (hdg : decode cc pc = .ok (.invokestatic index, 3)) (k : wk G p l e R s m args below meth c cells slots Q A H0 nL (pc + 3) lv (.inl (ab_max x y) :: st) σ) : wk G p l e R s m args below meth c cells slots Q A H0 nL pc lv (.inl y :: .inl x :: st) σ := by
  intro H locs ls hW hS hL
  refine va_mmax C.1 C.2.1 (C.2.2.1.trans hL.1.symm) C.2.2.2.1 (C.2.2.2.2.1 _ hlink) (C.2.2.2.2.1 _ hstat) (C.2.2.2.2.1 _ hini) (C.2.2.2.2.1 _ hcode) hframes (by rw [am_cats]; exact hlo) hc hs hdg ?_
  have e : (if Int32.ofInt x < Int32.ofInt y then Int32.ofInt y else Int32.ofInt x) = Int32.ofInt (ab_max x y) := by
    unfold ab_max
    by_cases q : x < y
    · rw [if_pos q, if_pos ((am_lt hx hy).mpr q)]
    · rw [if_neg q, if_neg (fun z => q ((am_lt hx hy).mp z))]
  rw [e]
  exact k H locs ls hW hS hL
end WKL
