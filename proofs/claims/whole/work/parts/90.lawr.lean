/-! stretches of the law's body that come again and again -/
section LAWR
variable {g : am_g} {cJ : ClassId} {o : Nat} {p : Program} {l : Launch} {e : Env} {s : State} {m : MethodId} {args : Array Value} {below : List Frame} {meth : Method} {c : Code} {cells slots : Nat} {Q : State → Prop}
variable {σ ρ : am_M} {v : Int64} {H : Heap} {locs : List Loc} {ls : Array Slot} {pc : Nat} {rest : List Value} {b L i : Nat} {xs : Nat → Int32} {R : Room}
/-- script[i + k] -/
def pA (xs : Nat → Int32) (j : Nat) : Int := (xs j).toInt
theorem pA_r (xs : Nat → Int32) (j : Nat) : -2147483648 ≤ pA xs j ∧ pA xs j < 2147483648 := by
  have e : pA xs j = (Int32.ofInt (pA xs j)).toInt := by rw [pA, Int32.ofInt_toInt]
  rw [Int32.toInt_ofInt] at e
  have h0 : 0 < Int32.size := by decide
  have h1 := Int.le_bmod (x := pA xs j) h0
  have h2 := Int.bmod_lt (x := pA xs j) h0
  have h3 : ((Int32.size : Nat) : Int) = 4294967296 := rfl
  omega
theorem ll_arg (C : lC g cJ o p s m args c) (hX : va_X b L xs s s.heap) (hbl : b < s.heap.size) (hL : L ≤ 2560) (k : Nat) (hk : k < 6) (hi : i + k < L) (hS : va_S (lB s) s.heap H locs)
    (l0 : ls[0]? = some (.val (.ref b))) (l4 : ls[4]? = some (.val (.int (Int32.ofInt (i : Int))))) (d0 : decode cL_law pc = .ok (.aload_n 0, 1)) (d1 : decode cL_law (pc + 1) = .ok (.iload 4, 2)) (d2 : decode cL_law (pc + 3) = .ok (.iconst (k : Int), 1)) (d3 : decode cL_law (pc + 4) = .ok (.iadd, 1)) (d4 : decode cL_law (pc + 5) = .ok (.iaload, 1))
    (kk : W p l e R s m args below meth c H locs cells slots Q (F0 m (pc + 6) ls (.int (Int32.ofInt (pA xs (i + k))) :: rest))) : W p l e R s m args below meth c H locs cells slots Q (F0 m pc ls rest) := by
  have hx := C.1.1
  have hb := C.1.2.1
  refine lv_aload_n hx hb d0 rfl l0 ?_
  refine lv_iload hx hb d1 l4 ?_
  refine lv_iconst (v := Int32.ofInt (k : Int)) hx hb d2 rfl ?_
  refine lv_iadd hx hb d3 ?_
  rw [← Int32.ofInt_add, show ((i : Int) + (k : Int)) = ((i + k : Nat) : Int) by omega]
  refine va_sld hx hb hX hbl (Nat.not_le.mpr hbl) hS (am_in (by omega) (by omega) (by omega)) d4 ?_
  rw [am_cl (by omega) (by omega), Int.toNat_natCast]
  have e9 : xs (i + k) = Int32.ofInt (pA xs (i + k)) := by rw [pA, Int32.ofInt_toInt]
  rw [e9]
  exact kk
abbrev lV (g : am_g) (o b i : Nat) : List (Nat × Value) := [(0, .ref b), (1, .ref (g.2.2 0 0)), (2, .ref (g.2.2 20 0)), (3, .ref o), (4, .int (Int32.ofInt (i : Int)))]
def lNext (g : am_g) (cJ : ClassId) (o b i : Nat) (p : Program) (l : Launch) (e : Env) (s : State) (m : MethodId) (args : Array Value) (below : List Frame) (meth : Method) (c : Code) (cells slots : Nat) (Q : State → Prop) : Prop :=
  ∀ (S : ab_S) (σ ρ : am_M) (v : Int64) (H : Heap) (locs : List Loc) (ls : Array Slot), lI S σ ρ → lL g cJ o σ ρ v H → va_S (lB s) s.heap H locs → lv_has ls 7 (lV g o b i) → W p l e room_1 s m args below meth c H locs cells slots Q (F0 m 1449 ls [])
/-- the comparing: thrown, then the number -/
theorem ll_tail (C : lC g cJ o p s m args c) (hIR : am_inj (gR g)) {k x : Int} (hE : lE σ ρ k v x) (hk : -2147483648 ≤ k ∧ k < 2147483648) (hc0 : cells ≤ room_1.cells) (hs0 : slots ≤ room_1.slots) (hL : lL g cJ o σ ρ v H) (hS : va_S (lB s) s.heap H locs) (hlv5 : lv_has ls 7 ((5, .int (Int32.ofInt k)) :: lV g o b i))
    (hn : lNext g cJ o b i p l e s m args below meth c cells slots Q) {o30 : Int} (h30 : ((pc + 30 : Nat) : Int) + o30 = (1449 : Nat))
    (d0 : decode cL_law pc = .ok (.istore 6, 2)) (d2 : decode cL_law (pc + 2) = .ok (.aload_n 2, 1)) (d3 : decode cL_law (pc + 3) = .ok (.invokevirtual 89, 3)) (d6 : decode cL_law (pc + 6) = .ok (.iload 5, 2)) (d8 : decode cL_law (pc + 8) = .ok (.if_icmp .eq 5, 3))
    (d13 : decode cL_law (pc + 13) = .ok (.iload 5, 2)) (d15 : decode cL_law (pc + 15) = .ok (.ifCond .ne 15, 3)) (d18 : decode cL_law (pc + 18) = .ok (.aload_n 3, 1)) (d19 : decode cL_law (pc + 19) = .ok (.iconst 0, 1)) (d20 : decode cL_law (pc + 20) = .ok (.laload, 1))
    (d21 : decode cL_law (pc + 21) = .ok (.iload 6, 2)) (d23 : decode cL_law (pc + 23) = .ok (.i2l, 1)) (d24 : decode cL_law (pc + 24) = .ok (.lcmp, 1)) (d25 : decode cL_law (pc + 25) = .ok (.ifCond .eq 5, 3)) (d30 : decode cL_law (pc + 30) = .ok (.goto o30, 3)) :
    W p l e room_1 s m args below meth c H locs cells slots Q (F0 m pc ls [.int (Int32.ofInt x)]) := by
  have hx := C.1.1
  have hb := C.1.2.1
  obtain ⟨⟨S', hI'⟩, hth, hnum⟩ := hE
  refine lv_istore (lv' := (6, .int (Int32.ofInt x)) :: (5, .int (Int32.ofInt k)) :: lV g o b i) hx hb d0 hlv5 (by decide) rfl (fun ls hlv => ?_)
  refine lv_aload_n hx hb d2 rfl (lv_at hlv 4 rfl) ?_
  refine ll_md (av := []) (rest := []) (n := 0) C (c_X6_thrown l g hIR ρ) (cwV 0 C.1.2.2.2.2 gL_law_X6_thrown rfl rfl rfl (by decide +kernel) ⟨Nat.le_of_ble_eq_true rfl, Nat.le_of_ble_eq_true rfl⟩) rfl (Nat.le_of_ble_eq_true rfl) d3 ⟨hc0, hs0⟩ hL hS hlv.1 (fun t ρ1 H1 locs1 hp hL1 hS1 => ?_)
  obtain ⟨rfl, ht⟩ := hp
  rw [hth] at ht
  rw [ht]
  have hend : ∀ (c9 : ls.size = 7), W p l e room_1 s m args below meth c H1 locs1 cells slots Q (F0 m (pc + 30) ls []) := fun _ => lv_goto (tgt := 1449) hx hb d30 h30 (hn S' σ ρ1 v H1 locs1 ls hI' hL1 hS1 (lv_sub hlv [2, 3, 4, 5, 6] rfl))
  refine lv_iload hx hb d6 (lv_at hlv 1 rfl) ?_
  refine lv_icmp_eq (tgt := pc + 13) hx hb d8 (by omega) (fun _ => ?_) (fun hne => absurd rfl hne)
  refine lv_iload hx hb d13 (lv_at hlv 1 rfl) ?_
  refine lv_if_ne (tgt := pc + 30) hx hb d15 (by omega) (fun _ => hend hlv.1) (fun hk0 => ?_)
  have hk00 : k = 0 := by rw [am_0] at hk0; exact (am_eq hk ⟨by omega, by omega⟩).mp hk0
  have hv := hnum hk00
  refine lv_aload_n hx hb d18 rfl (lv_at hlv 5 rfl) ?_
  refine lv_iconst (v := Int32.ofInt 0) hx hb d19 rfl ?_
  refine ll_ld C hL1 d20 ?_
  refine lv_iload hx hb d21 (lv_at hlv 0 rfl) ?_
  refine lv_i2l hx hb d23 rfl ?_
  refine W.lcmp hx hb d24 ?_
  subst hv
  have h0 : lg_cmp (Int32.ofInt x).toInt64 (Int32.ofInt x).toInt64 = 0 := by simp [lg_cmp]
  exact lv_if_eq (tgt := pc + 30) hx hb d25 (by omega) (fun _ => hend hlv.1) (fun h => absurd h0 h)
end LAWR
