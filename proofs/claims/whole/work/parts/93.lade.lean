/-! the law's entry: where the cells come to lie -/
def ad_lk (L : Nat) : Nat := if L < 16 then 33 + 15 * L else if L < 32 then 40 + 15 * (L - 16) else if L < 48 then 272 + 14 * (L - 32) else 279 + 14 * (L - 48)
def ad_off : Nat → Nat → Nat
  | 9, i => 8 + i
  | 10, h => 32 + 15 * h
  | 11, L => ad_lk L
  | 12, L => ad_lk L + 1
  | 13, L => ad_lk L + 2
  | 14, q => ad_lk (q / 4) + 3 + q % 4
  | 15, n => 496 + 4 * n
  | 16, n => 496 + 4 * n + 1
  | 17, n => 496 + 4 * n + 2
  | 18, n => 496 + 4 * n + 3
  | k, _ => k - 1
def ad_dk (L r : Nat) : Nat × Nat := if r < 3 then (11 + r, L) else (14, 4 * L + (r - 3))
def ad_dec (n : Nat) : Nat × Nat :=
  if n < 8 then (n + 1, 0) else if n < 32 then (9, n - 8)
  else if n < 272 then (if (n - 32) % 15 = 0 then (10, (n - 32) / 15) else if (n - 32) % 15 < 8 then ad_dk ((n - 32) / 15) ((n - 32) % 15 - 1) else ad_dk (16 + (n - 32) / 15) ((n - 32) % 15 - 8))
  else if n < 496 then (if (n - 272) % 14 < 7 then ad_dk (32 + (n - 272) / 14) ((n - 272) % 14) else ad_dk (48 + (n - 272) / 14) ((n - 272) % 14 - 7))
  else (15 + (n - 496) % 4, (n - 496) / 4)
theorem ad_dec_off : ∀ k, k < 19 → 1 ≤ k → ∀ i, i < lc_n k → ad_dec (ad_off k i) = (k, i) := by decide +kernel
theorem ad_18 : ∀ k, k < 9 → ad_off k 0 = k - 1 := by decide +kernel
/-- the component's object at n, its cells behind it; the model's object at y, its cells behind it -/
def ad_F (n y k i : Nat) : Nat := if k = 0 then n else if k < 19 then n + 1 + ad_off k i else if k = 20 then y else y + 1 + (k - 25)
theorem ad_C (n y : Nat) {k : Nat} (i : Nat) (h1 : 1 ≤ k) (h2 : k < 19) : ad_F n y k i = n + 1 + ad_off k i := by
  unfold ad_F
  rw [if_neg (by omega), if_pos h2]
theorem ad_R (n y : Nat) {k : Nat} (i : Nat) (h1 : 25 ≤ k) : ad_F n y k i = y + 1 + (k - 25) := by
  unfold ad_F
  rw [if_neg (by omega), if_neg (by omega), if_neg (by omega)]
theorem lc_lt19 {k i : Nat} (h : i < lc_n k) : k < 19 := by
  by_cases q : k < 19
  · exact q
  · exfalso
    obtain ⟨j, rfl⟩ : ∃ j, k = j + 19 := ⟨k - 19, by omega⟩
    exact Nat.not_lt_zero i h
theorem lr_ge {k i : Nat} (h : i < lr_n k) : (k = 20 ∨ (25 ≤ k ∧ k < 55)) ∧ i = 0 := by
  unfold lr_n at h
  split at h
  · exact ⟨by assumption, by omega⟩
  · exact absurd h (Nat.not_lt_zero _)
section AD
variable (D : va_G) (tc : Nat → ClassId) (n y : Nat)
abbrev ad_G : am_g := (D, tc, ad_F n y)
theorem ad_injC : am_inj (gC (ad_G D tc n y)) := by
  intro k i k' i' hi hi' he
  have hi : i < lc_n k := hi
  have hi' : i' < lc_n k' := hi'
  have he : ad_F n y k i = ad_F n y k' i' := he
  have h1 := lc_lt19 hi
  have h2 := lc_lt19 hi'
  by_cases q : k = 0
  · by_cases q' : k' = 0
    · subst q; subst q'
      have a1 : i < 1 := hi
      have a2 : i' < 1 := hi'
      exact ⟨rfl, by omega⟩
    · subst q
      rw [ad_C n y i' (by omega) h2] at he
      have e0 : ad_F n y 0 i = n := rfl
      omega
  · by_cases q' : k' = 0
    · subst q'
      rw [ad_C n y i (by omega) h1] at he
      have e0 : ad_F n y 0 i' = n := rfl
      omega
    · rw [ad_C n y i (by omega) h1, ad_C n y i' (by omega) h2] at he
      have e1 := ad_dec_off k h1 (by omega) i hi
      have e2 := ad_dec_off k' h2 (by omega) i' hi'
      rw [show ad_off k i = ad_off k' i' by omega, e2] at e1
      exact ⟨(Prod.mk.inj e1).1.symm, (Prod.mk.inj e1).2.symm⟩
theorem ad_injR : am_inj (gR (ad_G D tc n y)) := by
  intro k i k' i' hi hi' he
  have h1 := lr_ge (show i < lr_n k from hi)
  have h2 := lr_ge (show i' < lr_n k' from hi')
  have he : ad_F n y k i = ad_F n y k' i' := he
  obtain ⟨h1, rfl⟩ := h1
  obtain ⟨h2, rfl⟩ := h2
  have e0 : ad_F n y 20 0 = y := rfl
  rcases h1 with rfl | h1
  · rcases h2 with rfl | h2
    · exact ⟨rfl, rfl⟩
    · rw [ad_R n y 0 h2.1] at he; omega
  · rcases h2 with rfl | h2
    · rw [ad_R n y 0 h1.1] at he; omega
    · rw [ad_R n y 0 h1.1, ad_R n y 0 h2.1] at he
      exact ⟨by omega, rfl⟩
theorem ad_lkA (L : Nat) : lk_A (ad_G D tc n y) L (n + 1 + ad_lk L) := by
  refine ⟨rfl, rfl, rfl, fun j hj => ?_⟩
  show ad_F n y 14 (4 * L + j) = _
  rw [ad_C n y _ (by omega) (by omega)]
  show n + 1 + (ad_lk ((4 * L + j) / 4) + 3 + (4 * L + j) % 4) = _
  rw [show (4 * L + j) / 4 = L by omega, show (4 * L + j) % 4 = j by omega]
  omega
theorem ad_cA : cA (ad_G D tc n y) (n + 1) := by
  have h1 : ∀ h, h < 16 → ad_lk h = 33 + 15 * h ∧ ad_lk (16 + h) = 40 + 15 * h ∧ ad_lk (32 + h) = 272 + 14 * h ∧ ad_lk (48 + h) = 279 + 14 * h := by decide +kernel
  refine ⟨Nat.lt_succ_self n, fun k a b => ?_, fun i hi => ?_, fun h hh => ⟨?_, ?_, ?_⟩, fun i hi => ⟨?_, ?_⟩, fun m hm => ⟨?_, ?_, ?_, ?_⟩⟩
  · show ad_F n y k 0 = _
    rw [ad_C n y 0 a (by omega), ad_18 k (by omega)]; omega
  · show n + 1 + (8 + i) = _; omega
  · show n + 1 + (32 + 15 * h) = _; omega
  · have := ad_lkA D tc n y h
    rw [(h1 h hh).1] at this
    rw [show n + 1 + 32 + 15 * h + 1 = n + 1 + (33 + 15 * h) by omega]
    exact this
  · have := ad_lkA D tc n y (16 + h)
    rw [(h1 h hh).2.1] at this
    rw [show n + 1 + 32 + 15 * h + 8 = n + 1 + (40 + 15 * h) by omega]
    exact this
  · have := ad_lkA D tc n y (32 + i)
    rw [(h1 i hi).2.2.1] at this
    rw [show n + 1 + 272 + 14 * i = n + 1 + (272 + 14 * i) by omega]
    exact this
  · have := ad_lkA D tc n y (48 + i)
    rw [(h1 i hi).2.2.2] at this
    rw [show n + 1 + 272 + 14 * i + 7 = n + 1 + (279 + 14 * i) by omega]
    exact this
  · show n + 1 + (496 + 4 * m) = _; omega
  · show n + 1 + (496 + 4 * m + 1) = _; omega
  · show n + 1 + (496 + 4 * m + 2) = _; omega
  · show n + 1 + (496 + 4 * m + 3) = _; omega
theorem ad_dA : dA (ad_G D tc n y) (y + 1) := by
  refine ⟨Nat.lt_succ_self y, fun k a b => ?_⟩
  show ad_F n y k 0 = _
  rw [ad_R n y 0 a]; omega
/-- the component doesn't see where the model lies -/
theorem ad_tr (y' : Nat) {σ : am_M} {H : Heap} (h : am_wd (gC (ad_G D tc n y)) σ H) : am_wd (gC (ad_G D tc n y')) σ H := by
  intro k i hi
  have h0 := h k i hi
  have hk := lc_lt19 (show i < lc_n k from hi)
  match k, hk, h0 with
  | 0, _, h0 => exact h0
  | 1, _, h0 => exact h0
  | 2, _, h0 => exact h0
  | 3, _, h0 => exact h0
  | 4, _, h0 => exact h0
  | 5, _, h0 => exact h0
  | 6, _, h0 => exact h0
  | 7, _, h0 => exact h0
  | 8, _, h0 => exact h0
  | 9, _, h0 => exact h0
  | 10, _, h0 => exact h0
  | 11, _, h0 => exact h0
  | 12, _, h0 => exact h0
  | 13, _, h0 => exact h0
  | 14, _, h0 => exact h0
  | 15, _, h0 => exact h0
  | 16, _, h0 => exact h0
  | 17, _, h0 => exact h0
  | 18, _, h0 => exact h0
  | k + 19, hk, _ => exact absurd hk (by omega)
theorem ad_FC {q : Nat} (h : am_FA (gC (ad_G D tc n y)) q) : n ≤ q := by
  obtain ⟨k, i, hi, rfl⟩ := h
  have hk := lc_lt19 (show i < lc_n k from hi)
  show n ≤ ad_F n y k i
  by_cases q : k = 0
  · subst q; exact Nat.le_refl n
  · rw [ad_C n y i (by omega) hk]; omega
theorem ad_FR {q : Nat} (h : am_FA (gR (ad_G D tc n y)) q) : y ≤ q := by
  obtain ⟨k, i, hi, rfl⟩ := h
  obtain ⟨h1, rfl⟩ := lr_ge (show i < lr_n k from hi)
  show y ≤ ad_F n y k 0
  rcases h1 with rfl | h1
  · exact Nat.le_refl y
  · rw [ad_R n y 0 h1.1]; omega
/-- a fresh component: its object alone -/
theorem ad_cwC {H : Heap} (hz : H.size = n + 1) (h : va_at D vwCl (n, ce (gC (ad_G D tc n y)) (lc_s 0 0) (fun _ => 0)) H) : cw (gC (ad_G D tc n y)) (n + 1, fun _ _ _ => 0) H := by
  refine ⟨hz, fun k i hi => ⟨fun hlt => ?_, fun _ _ => rfl⟩⟩
  have hi : i < lc_n k := hi
  have hk := lc_lt19 hi
  have hlt : ad_F n y k i < n + 1 := hlt
  by_cases q : k = 0
  · subst q
    have a1 : i < 1 := hi
    obtain rfl : i = 0 := by omega
    exact h
  · rw [ad_C n y i (by omega) hk] at hlt; omega
/-- a fresh model: its object alone -/
theorem ad_cwR {H : Heap} (hz : H.size = y + 1) (h : va_at D vwCl (y, ce (gR (ad_G D tc n y)) (lr_s 20 0) (fun _ => 0)) H) : cw (gR (ad_G D tc n y)) (y + 1, fun _ _ _ => 0) H := by
  refine ⟨hz, fun k i hi => ⟨fun hlt => ?_, fun _ _ => rfl⟩⟩
  obtain ⟨h1, rfl⟩ := lr_ge (show i < lr_n k from hi)
  have hlt : ad_F n y k 0 < y + 1 := hlt
  rcases h1 with rfl | h1
  · exact h
  · rw [ad_R n y 0 h1.1] at hlt; omega
end AD
/-- a fresh object, its cell told -/
theorem l_new {p : Program} {l : Launch} {e : Env} {R : Room} {s : State} {m : MethodId} {args : Array Value} {below : List Frame} {meth : Method} {c : Code} {cells slots : Nat} {Q : State → Prop} {H : Heap} {locs : List Loc} {ls : Array Slot} {pc : Nat} {rest : List Value} {cc : ByteArray} {own : String} {Ts : List Cond}
    (hx : p.tables.exec = Jvm.exec) (hb : c.code = cc) (hown : s.vm.findClass own = some m.cls) (hts : ∀ w ∈ Ts, w.before args s = true) (G : am_G) {ci : Nat} {sl : List (Option (Nat × Nat))} {Cn : String} {T : u_T} {N index a : Nat} (sk : List Bool) (hc : vwCl[ci]? = some (Cn, T, N)) (hKn : u_Kn s Cn T N (G.1.1 ci) (G.1.2 ci)) (ha : H.size = a) (hin : ∀ w ∈ u_ws Cn T N, w ∈ Ts) (ty0 : Nat → FieldType) (hty : ∀ k, k < N → parseFieldDescriptor (T k).2.2.1 = some (ty0 k))
    (hcl : Cond.classLink own index Cn ∈ Ts) (hinst : Cond.instantiable Cn N ∈ Ts) (hini : Cond.initialized Cn ∈ Ts) (hsk : sl.map Option.isSome = sk) (hdv : ∀ j, j < N → (sk[j]?).map (fun b => if b then Value.null else .int 0) = some (defaultValue (ty0 j))) (hcells : cells + 1 ≤ R.cells) (hslots : slots + N ≤ R.slots) (hdg : decode cc pc = .ok (.new index, 3))
    (kk : ∀ H1 : Heap, va_at G.1 vwCl (a, ce G (.inl (ci, sl)) (fun _ => 0)) H1 → H1.size = a + 1 → (∀ q : Nat, q < a → H1[q]? = H[q]?) → W p l e R s m args below meth c H1 locs (cells + 1) (slots + N) Q (F0 m (pc + 3) ls (.ref a :: rest))) : W p l e R s m args below meth c H locs cells slots Q (F0 m pc ls rest) := by
  refine W.newcK hx hb hown (hts _ hcl) (hts _ hinst) (hts _ hini) rfl hdg hcells hslots hKn.2.1 ha fun H1 kC hkC e1 z1 o1 => ?_
  refine kk H1 ⟨_, hc, (u_born ty0 hts hin hKn hkC e1 hty).to (fun j hj => ?_)⟩ z1 o1
  have h5 := hdv j hj
  show defaultValue (ty0 j) = (ce_sv G (fun _ => 0) 0 sl).getD j .null
  rw [List.getD_eq_getElem?_getD, ce_get, Nat.zero_add]
  rw [← hsk, List.getElem?_map] at h5
  cases hx : sl[j]? with
  | none => rw [hx] at h5; cases h5
  | some o =>
    rw [hx] at h5
    cases o with
    | none => exact (Option.some.inj h5).symm
    | some r => exact (Option.some.inj h5).symm
