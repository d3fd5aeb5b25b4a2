/-! the law's loop: five ints a turn -/
theorem l31 (x : Int32) : 0 ≤ (x &&& 31).toInt ∧ (x &&& 31).toInt ≤ 31 := by
  have e : (x &&& 31).toBitVec.toNat ≤ 31 := by
    rw [Int32.toBitVec_and, BitVec.toNat_and]
    exact Nat.le_trans Nat.and_le_right (by decide)
  have e2 : (x &&& 31).toInt = ((x &&& 31).toBitVec.toNat : Int) := by
    show (x &&& 31).toBitVec.toInt = _
    exact BitVec.toInt_eq_toNat_of_lt (by omega)
  omega
theorem lOfNat (L : Nat) : Int32.ofNat L = Int32.ofInt (L : Int) := by first | exact (Int32.ofInt_eq_ofNat).symm | rfl | simp
/-- where the turn goes by the call's number -/
theorem law_turn {g : am_g} {cJ : ClassId} {o : Nat} {p : Program} {l : Launch} {e : Env} {s : State} {m : MethodId} {args : Array Value} {below : List Frame} {meth : Method} {c : Code} {cells slots : Nat} {Q : State → Prop} {b L i : Nat} {xs : Nat → Int32} (hl : l.stackTraces = false) (hIC : am_inj (gC g)) (hIR : am_inj (gR g)) (C : lC g cJ o p s m args c) (hX : va_X b L xs s s.heap) (hbl : b < s.heap.size) (hL : L ≤ 2560) (hi : i + 5 ≤ L) (hc0 : cells + 3 ≤ room_1.cells) (hs0 : slots + 18 ≤ room_1.slots) (S : ab_S) (σ ρ : am_M) (v : Int64) (H : Heap) (locs : List Loc) (ls : Array Slot) (hI : lI S σ ρ) (hw : lL g cJ o σ ρ v H) (hS : va_S (lB s) s.heap H locs) (hlv : lv_has ls 7 (lV g o b i)) (hn : lNext g cJ o b i p l e s m args below meth c (cells + 3) (slots + 18) Q) (x : Int32) (hx0 : 0 ≤ x.toInt) : W p l e room_1 s m args below meth c H locs cells slots Q (F0 m 39 ls [.int x]) := by
  have hx := C.1.1
  have hb := C.1.2.1
  by_cases h24 : 24 < x.toInt
  · refine lv_tableOut (tgt := 1449) hx hb dL_law_39 (Or.inr h24) (by decide) ?_
    refine W.widen (k := cells + 3) (n := slots + 18) (by omega) (by omega) ?_
    exact hn S σ ρ v H locs ls hI hw hS hlv
  obtain ⟨q, hq⟩ : ∃ q : Nat, x.toInt = (q : Int) := ⟨x.toInt.toNat, (Int.toNat_of_nonneg hx0).symm⟩
  have hq25 : q < 25 := by omega
  match q, hq25, hq with
  | 0, _, hq => exact lv_tableIn (off := 113) (tgt := 152) hx hb dL_law_39 (by rw [hq]; decide) (by rw [hq]; decide) (by rw [hq]; rfl) (by decide) (lc_reset hl hIC hIR C hX hbl hL hi hc0 hs0 S σ ρ v H locs ls hI hw hS hlv hn)
  | 1, _, hq => exact lv_tableIn (off := 173) (tgt := 212) hx hb dL_law_39 (by rw [hq]; decide) (by rw [hq]; decide) (by rw [hq]; rfl) (by decide) (lc_addFlow hl hIC hIR C hX hbl hL hi hc0 hs0 S σ ρ v H locs ls hI hw hS hlv hn)
  | 2, _, hq => exact lv_tableIn (off := 265) (tgt := 304) hx hb dL_law_39 (by rw [hq]; decide) (by rw [hq]; decide) (by rw [hq]; rfl) (by decide) (lc_cut hl hIC hIR C hX hbl hL hi hc0 hs0 S σ ρ v H locs ls hI hw hS hlv hn)
  | 3, _, hq => exact lv_tableIn (off := 333) (tgt := 372) hx hb dL_law_39 (by rw [hq]; decide) (by rw [hq]; decide) (by rw [hq]; rfl) (by decide) (lc_restore hl hIC hIR C hX hbl hL hi hc0 hs0 S σ ρ v H locs ls hI hw hS hlv hn)
  | 4, _, hq => exact lv_tableIn (off := 401) (tgt := 440) hx hb dL_law_39 (by rw [hq]; decide) (by rw [hq]; decide) (by rw [hq]; rfl) (by decide) (lc_pass hl hIC hIR C hX hbl hL hi hc0 hs0 S σ ρ v H locs ls hI hw hS hlv hn)
  | 5, _, hq => exact lv_tableIn (off := 457) (tgt := 496) hx hb dL_law_39 (by rw [hq]; decide) (by rw [hq]; decide) (by rw [hq]; rfl) (by decide) (lc_clock hl hIC hIR C hX hbl hL hi hc0 hs0 S σ ρ v H locs ls hI hw hS hlv hn)
  | 6, _, hq => exact lv_tableIn (off := 470) (tgt := 509) hx hb dL_law_39 (by rw [hq]; decide) (by rw [hq]; decide) (by rw [hq]; rfl) (by decide) (lc_flows hl hIC hIR C hX hbl hL hi hc0 hs0 S σ ρ v H locs ls hI hw hS hlv hn)
  | 7, _, hq => exact lv_tableIn (off := 483) (tgt := 522) hx hb dL_law_39 (by rw [hq]; decide) (by rw [hq]; decide) (by rw [hq]; rfl) (by decide) (lc_sent hl hIC hIR C hX hbl hL hi hc0 hs0 S σ ρ v H locs ls hI hw hS hlv hn)
  | 8, _, hq => exact lv_tableIn (off := 539) (tgt := 578) hx hb dL_law_39 (by rw [hq]; decide) (by rw [hq]; decide) (by rw [hq]; rfl) (by decide) (lc_delivered hl hIC hIR C hX hbl hL hi hc0 hs0 S σ ρ v H locs ls hI hw hS hlv hn)
  | 9, _, hq => exact lv_tableIn (off := 595) (tgt := 634) hx hb dL_law_39 (by rw [hq]; decide) (by rw [hq]; decide) (by rw [hq]; rfl) (by decide) (lc_lost hl hIC hIR C hX hbl hL hi hc0 hs0 S σ ρ v H locs ls hI hw hS hlv hn)
  | 10, _, hq => exact lv_tableIn (off := 651) (tgt := 690) hx hb dL_law_39 (by rw [hq]; decide) (by rw [hq]; decide) (by rw [hq]; rfl) (by decide) (lc_outOfOrder hl hIC hIR C hX hbl hL hi hc0 hs0 S σ ρ v H locs ls hI hw hS hlv hn)
  | 11, _, hq => exact lv_tableIn (off := 707) (tgt := 746) hx hb dL_law_39 (by rw [hq]; decide) (by rw [hq]; decide) (by rw [hq]; rfl) (by decide) (lc_doneIn hl hIC hIR C hX hbl hL hi hc0 hs0 S σ ρ v H locs ls hI hw hS hlv hn)
  | 12, _, hq => exact lv_tableIn (off := 763) (tgt := 802) hx hb dL_law_39 (by rw [hq]; decide) (by rw [hq]; decide) (by rw [hq]; rfl) (by decide) (lc_flowlets hl hIC hIR C hX hbl hL hi hc0 hs0 S σ ρ v H locs ls hI hw hS hlv hn)
  | 13, _, hq => exact lv_tableIn (off := 819) (tgt := 858) hx hb dL_law_39 (by rw [hq]; decide) (by rw [hq]; decide) (by rw [hq]; rfl) (by decide) (lc_spineOf hl hIC hIR C hX hbl hL hi hc0 hs0 S σ ρ v H locs ls hI hw hS hlv hn)
  | 14, _, hq => exact lv_tableIn (off := 875) (tgt := 914) hx hb dL_law_39 (by rw [hq]; decide) (by rw [hq]; decide) (by rw [hq]; rfl) (by decide) (lc_upQueue hl hIC hIR C hX hbl hL hi hc0 hs0 S σ ρ v H locs ls hI hw hS hlv hn)
  | 15, _, hq => exact lv_tableIn (off := 931) (tgt := 970) hx hb dL_law_39 (by rw [hq]; decide) (by rw [hq]; decide) (by rw [hq]; rfl) (by decide) (lc_downQueue hl hIC hIR C hX hbl hL hi hc0 hs0 S σ ρ v H locs ls hI hw hS hlv hn)
  | 16, _, hq => exact lv_tableIn (off := 987) (tgt := 1026) hx hb dL_law_39 (by rw [hq]; decide) (by rw [hq]; decide) (by rw [hq]; rfl) (by decide) (lc_northQueue hl hIC hIR C hX hbl hL hi hc0 hs0 S σ ρ v H locs ls hI hw hS hlv hn)
  | 17, _, hq => exact lv_tableIn (off := 1055) (tgt := 1094) hx hb dL_law_39 (by rw [hq]; decide) (by rw [hq]; decide) (by rw [hq]; rfl) (by decide) (lc_southQueue hl hIC hIR C hX hbl hL hi hc0 hs0 S σ ρ v H locs ls hI hw hS hlv hn)
  | 18, _, hq => exact lv_tableIn (off := 1123) (tgt := 1162) hx hb dL_law_39 (by rw [hq]; decide) (by rw [hq]; decide) (by rw [hq]; rfl) (by decide) (lc_upCredits hl hIC hIR C hX hbl hL hi hc0 hs0 S σ ρ v H locs ls hI hw hS hlv hn)
  | 19, _, hq => exact lv_tableIn (off := 1179) (tgt := 1218) hx hb dL_law_39 (by rw [hq]; decide) (by rw [hq]; decide) (by rw [hq]; rfl) (by decide) (lc_northCredits hl hIC hIR C hX hbl hL hi hc0 hs0 S σ ρ v H locs ls hI hw hS hlv hn)
  | 20, _, hq => exact lv_tableIn (off := 1247) (tgt := 1286) hx hb dL_law_39 (by rw [hq]; decide) (by rw [hq]; decide) (by rw [hq]; rfl) (by decide) (lc_returning hl hIC hIR C hX hbl hL hi hc0 hs0 S σ ρ v H locs ls hI hw hS hlv hn)
  | 21, _, hq => exact lv_tableIn (off := 1260) (tgt := 1299) hx hb dL_law_39 (by rw [hq]; decide) (by rw [hq]; decide) (by rw [hq]; rfl) (by decide) (lc_queued hl hIC hIR C hX hbl hL hi hc0 hs0 S σ ρ v H locs ls hI hw hS hlv hn)
  | 22, _, hq => exact lv_tableIn (off := 1273) (tgt := 1312) hx hb dL_law_39 (by rw [hq]; decide) (by rw [hq]; decide) (by rw [hq]; rfl) (by decide) (lc_open hl hIC hIR C hX hbl hL hi hc0 hs0 S σ ρ v H locs ls hI hw hS hlv hn)
  | 23, _, hq => exact lv_tableIn (off := 1329) (tgt := 1368) hx hb dL_law_39 (by rw [hq]; decide) (by rw [hq]; decide) (by rw [hq]; rfl) (by decide) (lc_usable hl hIC hIR C hX hbl hL hi hc0 hs0 S σ ρ v H locs ls hI hw hS hlv hn)
  | 24, _, hq => exact lv_tableIn (off := 1397) (tgt := 1436) hx hb dL_law_39 (by rw [hq]; decide) (by rw [hq]; decide) (by rw [hq]; rfl) (by decide) (lc_leastTicks hl hIC hIR C hX hbl hL hi hc0 hs0 S σ ρ v H locs ls hI hw hS hlv hn)
  | q + 25, h9, _ => exact absurd h9 (by omega)
/-- the loop: k calls are made -/
theorem law_loop {g : am_g} {cJ : ClassId} {o : Nat} {p : Program} {l : Launch} {e : Env} {s : State} {m : MethodId} {args : Array Value} {below : List Frame} {meth : Method} {c : Code} {Q : State → Prop} {b L : Nat} {xs : Nat → Int32} (hl : l.stackTraces = false) (hIC : am_inj (gC g)) (hIR : am_inj (gR g)) (C : lC g cJ o p s m args c) (hX : va_X b L xs s s.heap) (hbl : b < s.heap.size) (hL : L ≤ 2560)
    (hQ : ∀ (H : Heap) (ls : Array Slot), W p l e room_1 s m args below meth c H [] 607447 7273762 Q (F0 m 1456 ls [.int 1])) :
    ∀ (n k : Nat), 5 * k ≤ L → L < 5 * (k + n) → ∀ (S : ab_S) (σ ρ : am_M) (v : Int64) (H : Heap) (locs : List Loc) (ls : Array Slot), lI S σ ρ → lL g cJ o σ ρ v H → va_S (lB s) s.heap H locs → lv_has ls 7 (lV g o b (5 * k)) →
      W p l e room_1 s m args below meth c H locs (561 + 3 * k) (5342 + 18 * k) Q (F0 m 23 ls []) := by
  have hx := C.1.1
  have hb := C.1.2.1
  have hr1 : (607447 : Nat) ≤ room_1.cells := Nat.le_of_ble_eq_true rfl
  have hr2 : (7273762 : Nat) ≤ room_1.slots := Nat.le_of_ble_eq_true rfl
  intro n
  induction n with
  | zero => intro k h1 h2; exact absurd h2 (by omega)
  | succ n ih =>
    intro k hk1 hk2 S σ ρ v H locs ls hI hw hS hlv
    refine lv_iload hx hb dL_law_23 (lv_at hlv 4 rfl) ?_
    refine lv_aload_n hx hb dL_law_25 rfl (lv_at hlv 0 rfl) ?_
    refine va_slen hx hb hX hbl (Nat.not_le.mpr hbl) hS dL_law_26 ?_
    refine lv_iconst (v := Int32.ofInt 5) hx hb dL_law_27 rfl ?_
    refine lv_isub hx hb dL_law_28 ?_
    rw [lOfNat, ← Int32.ofInt_sub]
    refine lv_icmp_gt (tgt := 1455) hx hb dL_law_29 (by decide) (fun _ => ?_) (fun hgt => ?_)
    · refine lv_iconst (v := 1) hx hb dL_law_1455 (by decide) ?_
      refine va_forget (fun q hq => hS.2.2 q hq) ?_
      refine W.widen (k := 607447) (n := 7273762) (by omega) (by omega) ?_
      exact hQ H ls
    · rw [am_lt ⟨by omega, by omega⟩ ⟨by omega, by omega⟩] at hgt
      have hi : 5 * k + 5 ≤ L := by omega
      refine lv_aload_n hx hb dL_law_32 rfl (lv_at hlv 0 rfl) ?_
      refine lv_iload hx hb dL_law_33 (lv_at hlv 4 rfl) ?_
      refine va_sld hx hb hX hbl (Nat.not_le.mpr hbl) hS (am_in (by omega) (by omega) (by omega)) dL_law_35 ?_
      generalize xs _ = x0
      refine lv_bipush (v := 31) hx hb dL_law_36 (by decide) ?_
      refine lv_iand hx hb dL_law_38 ?_
      have h3 := l31 x0
      generalize x0 &&& 31 = x1 at h3 ⊢
      refine law_turn hl hIC hIR C hX hbl hL hi (by omega) (by omega) S σ ρ v H locs ls hI hw hS hlv ?_ x1 h3.1
      intro S1 σ1 ρ1 v1 H1 locs1 ls1 hI1 hw1 hS1 hlv1
      refine lv_iinc (v := Int32.ofInt ((5 * (k + 1) : Nat) : Int)) (lv' := [(4, .int (Int32.ofInt ((5 * (k + 1) : Nat) : Int))), (0, .ref b), (1, .ref (g.2.2 0 0)), (2, .ref (g.2.2 20 0)), (3, .ref o)]) hx hb dL_law_1449 hlv1 (k := 4) rfl (by rw [← Int32.ofInt_add]; congr 1) (by decide) rfl (fun ls2 hlv2 => ?_)
      refine lv_goto (tgt := 23) hx hb dL_law_1452 (by decide) ?_
      have hfin := ih (k + 1) (by omega) (by omega) S1 σ1 ρ1 v1 H1 locs1 ls2 hI1 hw1 hS1 (lv_sub hlv2 [1, 2, 3, 4, 0] rfl)
      rw [show 561 + 3 * k + 3 = 561 + 3 * (k + 1) by omega, show 5342 + 18 * k + 18 = 5342 + 18 * (k + 1) by omega]
      exact hfin
