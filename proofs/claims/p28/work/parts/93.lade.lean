/-! the law's entry: where the cells come to lie -/
def ad_lk (L : Nat) : Nat := if L < 16 then 33 + 15 * L else if L < 32 then 40 + 15 * (L - 16) else if L < 48 then 272 + 14 * (L - 32) else 279 + 14 * (L - 48)
def ad_off : Nat → Nat → Nat
  | 9, i => 8 + i
  | 10, h => 32 + 15 * h
  | 11, L => ad_lk L
  | 12, L => ad_lk L + 1
  | 13, L => ad_lk L + 2
  | 14, q => ad_lk (q / 4) + 3 + q % 4
  | 15, n => 496 + 4 * n
  | 16, n => 496 + 4 * n + 1
  | 17, n => 496 + 4 * n + 2
  | 18, n => 496 + 4 * n + 3
  | k, _ => k - 1
def ad_dk (L r : Nat) : Nat × Nat := if r < 3 then (11 + r, L) else (14, 4 * L + (r - 3))
def ad_dec (n : Nat) : Nat × Nat :=
  if n < 8 then (n + 1, 0) else if n < 32 then (9, n - 8)
  else if n < 272 then (if (n - 32) % 15 = 0 then (10, (n - 32) / 15) else if (n - 32) % 15 < 8 then ad_dk ((n - 32) / 15) ((n - 32) % 15 - 1) else ad_dk (16 + (n - 32) / 15) ((n - 32) % 15 - 8))
  else if n < 496 then (if (n - 272) % 14 < 7 then ad_dk (32 + (n - 272) / 14) ((n - 272) % 14) else ad_dk (48 + (n - 272) / 14) ((n - 272) % 14 - 7))
  else (15 + (n - 496) % 4, (n - 496) / 4)
theorem ad_dec_off : ∀ k, k < 19 → 1 ≤ k → ∀ i, i < lc_n k → ad_dec (ad_off k i) = (k, i) := by decide +kernel
theorem ad_18 : ∀ k, k < 9 → ad_off k 0 = k - 1 := by decide +kernel
/-- the component's object at n, its cells behind it; the arrays f and m at y and y + 1 -/
def ad_F (n y k i : Nat) : Nat := if k = 0 then n else if k < 19 then n + 1 + ad_off k i else y + (k - 60)
theorem ad_C (n y : Nat) {k : Nat} (i : Nat) (h1 : 1 ≤ k) (h2 : k < 19) : ad_F n y k i = n + 1 + ad_off k i := by
  unfold ad_F
  rw [if_neg (by omega), if_pos h2]
theorem ad_R (n y : Nat) {k : Nat} (i : Nat) (h1 : ¬ k < 19) : ad_F n y k i = y + (k - 60) := by
  unfold ad_F
  rw [if_neg (by omega), if_neg h1]
theorem lc_lt19 {k i : Nat} (h : i < lc_n k) : k < 19 := by
  by_cases q : k < 19
  · exact q
  · exfalso
    obtain ⟨j, rfl⟩ : ∃ j, k = j + 19 := ⟨k - 19, by omega⟩
    exact Nat.not_lt_zero i h
theorem ll_ge {k i : Nat} (h : i < ll_n k) (hk : ¬ k < 19) : (k = 60 ∨ k = 61) ∧ i = 0 := by
  unfold ll_n at h
  by_cases q : k = 60 ∨ k = 61
  · rw [if_pos q] at h; exact ⟨q, by omega⟩
  · rw [if_neg q] at h; exact absurd (ll_lt h) hk
theorem ll_lo {k i : Nat} (h : i < ll_n k) (hk : k < 19) : i < lc_n k := by
  unfold ll_n at h
  rw [if_neg (by omega)] at h
  exact h
section AD
variable (D : va_G) (tc : Nat → ClassId) (n y : Nat)
abbrev ad_G : am_g := (D, tc, ad_F n y)
theorem ad_injC : am_inj (gC (ad_G D tc n y)) := by
  intro k i k' i' hi hi' he
  have hi : i < lc_n k := hi
  have hi' : i' < lc_n k' := hi'
  have he : ad_F n y k i = ad_F n y k' i' := he
  have h1 := lc_lt19 hi
  have h2 := lc_lt19 hi'
  by_cases q : k = 0
  · by_cases q' : k' = 0
    · subst q; subst q'
      have a1 : i < 1 := hi
      have a2 : i' < 1 := hi'
      exact ⟨rfl, by omega⟩
    · subst q
      rw [ad_C n y i' (by omega) h2] at he
      have e0 : ad_F n y 0 i = n := rfl
      omega
  · by_cases q' : k' = 0
    · subst q'
      rw [ad_C n y i (by omega) h1] at he
      have e0 : ad_F n y 0 i' = n := rfl
      omega
    · rw [ad_C n y i (by omega) h1, ad_C n y i' (by omega) h2] at he
      have e1 := ad_dec_off k h1 (by omega) i hi
      have e2 := ad_dec_off k' h2 (by omega) i' hi'
      rw [show ad_off k i = ad_off k' i' by omega, e2] at e1
      exact ⟨(Prod.mk.inj e1).1.symm, (Prod.mk.inj e1).2.symm⟩
theorem ad_injL (hlt : ∀ q, am_FA (gC (ad_G D tc n y)) q → q < y) : am_inj (gL (ad_G D tc n y)) := by
  intro k i k' i' hi hi' he
  have hi : i < ll_n k := hi
  have hi' : i' < ll_n k' := hi'
  have he : ad_F n y k i = ad_F n y k' i' := he
  by_cases q : k < 19
  · have h1 := ll_lo hi q
    have hq : ad_F n y k i < y := hlt _ ⟨k, i, h1, rfl⟩
    by_cases q' : k' < 19
    · exact ad_injC D tc n y k i k' i' h1 (ll_lo hi' q') he
    · rw [ad_R n y i' q'] at he; omega
  · have h1 := ll_ge hi q
    by_cases q' : k' < 19
    · have hq : ad_F n y k' i' < y := hlt _ ⟨k', i', ll_lo hi' q', rfl⟩
      rw [ad_R n y i q] at he; omega
    · have h2 := ll_ge hi' q'
      rw [ad_R n y i q, ad_R n y i' q'] at he
      omega
theorem ad_lkA (L : Nat) : lk_A (ad_G D tc n y) L (n + 1 + ad_lk L) := by
  refine ⟨rfl, rfl, rfl, fun j hj => ?_⟩
  show ad_F n y 14 (4 * L + j) = _
  rw [ad_C n y _ (by omega) (by omega)]
  show n + 1 + (ad_lk ((4 * L + j) / 4) + 3 + (4 * L + j) % 4) = _
  rw [show (4 * L + j) / 4 = L by omega, show (4 * L + j) % 4 = j by omega]
  omega
theorem ad_cA : cA (ad_G D tc n y) (n + 1) := by
  have h1 : ∀ h, h < 16 → ad_lk h = 33 + 15 * h ∧ ad_lk (16 + h) = 40 + 15 * h ∧ ad_lk (32 + h) = 272 + 14 * h ∧ ad_lk (48 + h) = 279 + 14 * h := by decide +kernel
  refine ⟨Nat.lt_succ_self n, fun k a b => ?_, fun i hi => ?_, fun h hh => ⟨?_, ?_, ?_⟩, fun i hi => ⟨?_, ?_⟩, fun m hm => ⟨?_, ?_, ?_, ?_⟩⟩
  · show ad_F n y k 0 = _
    rw [ad_C n y 0 a (by omega), ad_18 k (by omega)]; omega
  · show n + 1 + (8 + i) = _; omega
  · show n + 1 + (32 + 15 * h) = _; omega
  · have := ad_lkA D tc n y h
    rw [(h1 h hh).1] at this
    rw [show n + 1 + 32 + 15 * h + 1 = n + 1 + (33 + 15 * h) by omega]
    exact this
  · have := ad_lkA D tc n y (16 + h)
    rw [(h1 h hh).2.1] at this
    rw [show n + 1 + 32 + 15 * h + 8 = n + 1 + (40 + 15 * h) by omega]
    exact this
  · have := ad_lkA D tc n y (32 + i)
    rw [(h1 i hi).2.2.1] at this
    rw [show n + 1 + 272 + 14 * i = n + 1 + (272 + 14 * i) by omega]
    exact this
  · have := ad_lkA D tc n y (48 + i)
    rw [(h1 i hi).2.2.2] at this
    rw [show n + 1 + 272 + 14 * i + 7 = n + 1 + (279 + 14 * i) by omega]
    exact this
  · show n + 1 + (496 + 4 * m) = _; omega
  · show n + 1 + (496 + 4 * m + 1) = _; omega
  · show n + 1 + (496 + 4 * m + 2) = _; omega
  · show n + 1 + (496 + 4 * m + 3) = _; omega
/-- the component doesn't see where the model lies -/
theorem ad_tr (y' : Nat) {σ : am_M} {H : Heap} (h : am_wd (gC (ad_G D tc n y)) σ H) : am_wd (gC (ad_G D tc n y')) σ H := by
  intro k i hi
  have h0 := h k i hi
  have hk := lc_lt19 (show i < lc_n k from hi)
  match k, hk, h0 with
  | 0, _, h0 => exact h0
  | 1, _, h0 => exact h0
  | 2, _, h0 => exact h0
  | 3, _, h0 => exact h0
  | 4, _, h0 => exact h0
  | 5, _, h0 => exact h0
  | 6, _, h0 => exact h0
  | 7, _, h0 => exact h0
  | 8, _, h0 => exact h0
  | 9, _, h0 => exact h0
  | 10, _, h0 => exact h0
  | 11, _, h0 => exact h0
  | 12, _, h0 => exact h0
  | 13, _, h0 => exact h0
  | 14, _, h0 => exact h0
  | 15, _, h0 => exact h0
  | 16, _, h0 => exact h0
  | 17, _, h0 => exact h0
  | 18, _, h0 => exact h0
  | k + 19, hk, _ => exact absurd hk (by omega)
theorem ad_FC {q : Nat} (h : am_FA (gC (ad_G D tc n y)) q) : n ≤ q := by
  obtain ⟨k, i, hi, rfl⟩ := h
  have hk := lc_lt19 (show i < lc_n k from hi)
  show n ≤ ad_F n y k i
  by_cases q : k = 0
  · subst q; exact Nat.le_refl n
  · rw [ad_C n y i (by omega) hk]; omega
theorem ad_FL {q : Nat} (h : am_FA (gL (ad_G D tc n y)) q) : n ≤ q ∨ y ≤ q := by
  obtain ⟨k, i, hi, rfl⟩ := h
  have hi : i < ll_n k := hi
  show n ≤ ad_F n y k i ∨ y ≤ ad_F n y k i
  by_cases q : k < 19
  · exact Or.inl (ad_FC D tc n y ⟨k, i, ll_lo hi q, rfl⟩)
  · rw [ad_R n y i q]; omega
/-- the law's cells: the component's and two fresh arrays -/
theorem ad_wdL {σ : am_M} {H : Heap} (hC : am_wd (gC (ad_G D tc n y)) σ H) (h1 : H[y]? = some (vp_cell (tc 0) (24, .inl (fun _ => Int32.ofInt 0)))) (h2 : H[y + 1]? = some (vp_cell (tc 0) (4, .inl (fun _ => Int32.ofInt 0)))) : am_wd (gL (ad_G D tc n y)) (l_mix σ (fun _ _ _ => 0)) H := by
  intro k i hi
  have hi : i < ll_n k := hi
  by_cases q : k < 19
  · have h := ll_lo hi q
    have := hC k i h
    show va_at D vwCl (ad_F n y k i, am_cell (gL (ad_G D tc n y)) (ll_s k i) (l_mix σ (fun _ _ _ => 0) k i)) H
    rw [(ll_C h).2]
    unfold l_mix
    rw [if_pos q]
    exact this
  · obtain ⟨rfl | rfl, rfl⟩ := ll_ge hi q
    · exact h1
    · exact h2
/-- a fresh component: its object alone -/
theorem ad_cwC {H : Heap} (hz : H.size = n + 1) (h : va_at D vwCl (n, ce (gC (ad_G D tc n y)) (lc_s 0 0) (fun _ => 0)) H) : cw (gC (ad_G D tc n y)) (n + 1, fun _ _ _ => 0) H := by
  refine ⟨hz, fun k i hi => ⟨fun hlt => ?_, fun _ _ => rfl⟩⟩
  have hi : i < lc_n k := hi
  have hk := lc_lt19 hi
  have hlt : ad_F n y k i < n + 1 := hlt
  by_cases q : k = 0
  · subst q
    have a1 : i < 1 := hi
    obtain rfl : i = 0 := by omega
    exact h
  · rw [ad_C n y i (by omega) hk] at hlt; omega
end AD
/-- a fresh object, its cell told -/
theorem l_new {p : Program} {l : Launch} {e : Env} {R : Room} {s : State} {m : MethodId} {args : Array Value} {below : List Frame} {meth : Method} {c : Code} {cells slots : Nat} {Q : State → Prop} {H : Heap} {locs : List Loc} {ls : Array Slot} {pc : Nat} {rest : List Value} {cc : ByteArray} {own : String} {Ts : List Cond}
    (hx : p.tables.exec = Jvm.exec) (hb : c.code = cc) (hown : s.vm.findClass own = some m.cls) (hts : ∀ w ∈ Ts, w.before args s = true) (G : am_G) {ci : Nat} {sl : List (Option (Nat × Nat))} {Cn : String} {T : u_T} {N index a : Nat} (sk : List Bool) (hc : vwCl[ci]? = some (Cn, T, N)) (hKn : u_Kn s Cn T N (G.1.1 ci) (G.1.2 ci)) (ha : H.size = a) (hin : ∀ w ∈ u_ws Cn T N, w ∈ Ts) (ty0 : Nat → FieldType) (hty : ∀ k, k < N → parseFieldDescriptor (T k).2.2.1 = some (ty0 k))
    (hcl : Cond.classLink own index Cn ∈ Ts) (hinst : Cond.instantiable Cn N ∈ Ts) (hini : Cond.initialized Cn ∈ Ts) (hsk : sl.map Option.isSome = sk) (hdv : ∀ j, j < N → (sk[j]?).map (fun b => if b then Value.null else .int 0) = some (defaultValue (ty0 j))) (hcells : cells + 1 ≤ R.cells) (hslots : slots + N ≤ R.slots) (hdg : decode cc pc = .ok (.new index, 3))
    (kk : ∀ H1 : Heap, va_at G.1 vwCl (a, ce G (.inl (ci, sl)) (fun _ => 0)) H1 → H1.size = a + 1 → (∀ q : Nat, q < a → H1[q]? = H[q]?) → W p l e R s m args below meth c H1 locs (cells + 1) (slots + N) Q (F0 m (pc + 3) ls (.ref a :: rest))) : W p l e R s m args below meth c H locs cells slots Q (F0 m pc ls rest) := by
  refine W.newcK hx hb hown (hts _ hcl) (hts _ hinst) (hts _ hini) rfl hdg hcells hslots hKn.2.1 ha fun H1 kC hkC e1 z1 o1 => ?_
  refine kk H1 ⟨_, hc, (u_born ty0 hts hin hKn hkC e1 hty).to (fun j hj => ?_)⟩ z1 o1
  have h5 := hdv j hj
  show defaultValue (ty0 j) = (ce_sv G (fun _ => 0) 0 sl).getD j .null
  rw [List.getD_eq_getElem?_getD, ce_get, Nat.zero_add]
  rw [← hsk, List.getElem?_map] at h5
  cases hx : sl[j]? with
  | none => rw [hx] at h5; cases h5
  | some o =>
    rw [hx] at h5
    cases o with
    | none => exact (Option.some.inj h5).symm
    | some r => exact (Option.some.inj h5).symm
