/-! the law's dice: it reads the script -/
def lPd (g : am_g) (σ : am_M) (b L : Nat) (xs : Nat → Int32) (av : List Value) : Array Value → State → Prop := va_Pc av (fun U => am_wd (gL g) σ U.heap ∧ lZ g U U.heap ∧ va_X b L xs U U.heap ∧ b < U.heap.size ∧ ¬ am_FA (gL g) b)
theorem lPd_blind (g : am_g) (σ : am_M) (b L : Nat) (xs : Nat → Int32) (av : List Value) : FrameBlind (lPd g σ b L xs av) := fun a U g' mk h => ⟨h.1, h.2.1, ⟨am_K.same (u := U) (U := U.calling g' mk a) rfl h.2.2.1.1, am_Z.go (s := U) (U := U.calling g' mk a) (State.WarmedH.refl U) h.2.2.1.2.1 (fun _ _ _ => rfl), h.2.2.1.2.2.moved (u := U) (U := U.calling g' mk a) (Vm.Alike.refl _)⟩, va_X.moved (u := U) (U := U.calling g' mk a) (Vm.Alike.refl _) h.2.2.2.1, h.2.2.2.2⟩
theorem l_msk (x : Int) : ∃ z : Int, (0 ≤ z ∧ z < 2147483648) ∧ Int32.ofInt x &&& Int32.ofInt 2147483647 = Int32.ofInt z := by
  have h := pk_and (Int32.ofInt x) (m := Int32.ofInt 2147483647) 31 (by decide)
  have hlt : (Int32.ofInt x).toBitVec.toNat % 2 ^ 31 < 2 ^ 31 := Nat.mod_lt _ (by decide)
  refine ⟨(((Int32.ofInt x).toBitVec.toNat % 2 ^ 31 : Nat) : Int), by omega, ?_⟩
  rw [h]
  exact lOfNat _
section DICE
variable {g : am_g} {p : Program} {l : Launch} {e : Env} {R : Room} {s : State} {m : MethodId} {args : Array Value} {below : List Frame} {meth : Method} {c : Code} {cells slots : Nat} {Q : State → Prop}
variable {A : Nat → Prop} {nL pc : Nat} {lv : List (Option Value)} {st : List Value} {σ : am_M} {cc : ByteArray} {Ts : List Cond} {b L : Nat} {xs : Nat → Int32}
theorem wq_slen (C : lq_C g p s m args c cc nL Ts A) (hX : va_X b L xs s s.heap) (hbl : b < s.heap.size) (hbA : ¬ A b) (hdg : decode cc pc = .ok (.arraylength, 1)) (k : wq g p l e R s m args below meth c cells slots Q A nL (pc + 1) lv (qi (L : Int) :: st) σ) : wq g p l e R s m args below meth c cells slots Q A nL pc lv (.ref b :: st) σ := by
  intro H locs ls hW hS hL
  refine va_slen C.1.1 C.1.2.1 hX hbl hbA hS hdg ?_
  rw [lOfNat]
  exact k H locs ls hW hS hL
theorem wq_sld (C : lq_C g p s m args c cc nL Ts A) (hX : va_X b L xs s s.heap) (hbl : b < s.heap.size) (hbA : ¬ A b) (hL31 : L < 2147483648) (j : Nat) (hj : j < L) (hdg : decode cc pc = .ok (.iaload, 1)) (k : wq g p l e R s m args below meth c cells slots Q A nL (pc + 1) lv (qi (xs j).toInt :: st) σ) : wq g p l e R s m args below meth c cells slots Q A nL pc lv (qi (j : Int) :: .ref b :: st) σ := by
  intro H locs ls hW hS hL
  refine va_sld C.1.1 C.1.2.1 hX hbl hbA hS (am_in (by omega) (by omega) (by omega)) hdg ?_
  rw [am_cl (by omega) (by omega), Int.toNat_natCast]
  have := k H locs ls hW hS hL
  rw [show qi (xs j).toInt = Value.int (xs j) by show Value.int (Int32.ofInt (xs j).toInt) = _; rw [Int32.ofInt_toInt]] at this
  exact this
end DICE
set_option maxRecDepth 100000 in
set_option maxHeartbeats 4000000 in
theorem w_dice (l : Launch) (g : am_g) (hI : am_inj (gL g)) (σ : am_M) (b L : Nat) (xs : Nat → Int32) (k : Nat) (hk : k < 150) (hL : L ≤ 260) : Met l yL_dice wsL_dice ({ frames := 0, cells := 0, slots := 0, locals := 0 }) (lPd g σ b L xs [.ref b, qi ((k : Nat) : Int)]) (lQ g (fun r σ' => σ' = σ ∧ 0 ≤ r ∧ r < 2147483648)) 0 0 (am_FA (gL g)) := by
  refine Met.ofW (cc := cL_dice) (maxL := 2) (ret := (some .int)) (by decide) rfl ?_
  intro p e s m args below meth c s₁ B hml hv
  obtain ⟨rfl, hW, hZ, hX, hbl, hbF⟩ := hv
  have hts := atoms_spec (ws := wsL_dice) B.pre
  have hown : s.vm.findClass RL = some m.cls := findClass_of_methodNamed B.named
  have hr := B.returns
  have hlk := B.notSynchronized
  have hcat : ∀ v ∈ [Value.ref b, qi ((k : Nat) : Int)], v.category = 1 := (fun v hv => by simp only [List.mem_cons, List.not_mem_nil, or_false] at hv; rcases hv with rfl | rfl <;> rfl)
  rw [lg_entry_eq]
  have hlv := lv_entry [Value.ref b, qi ((k : Nat) : Int)] (n := 2) (by rw [lq_sl _ hcat]; exact Nat.le_refl 2)
  rw [lq_args 0 _ 0 hcat] at hlv
  have C : lq_C g p s m (#[Value.ref b, qi ((k : Nat) : Int)]) c cL_dice 2 wsL_dice (am_FA (gL g)) := ⟨⟨B.exec, B.bytes, hml, hown, hts⟩, hZ, hI, fun _ h => h, fun _ _ h => h⟩
  have fin : ∀ x : Int, wq g p l e (headSpec wsL_dice ({ frames := 0, cells := 0, slots := 0, locals := 0 })).room s m (#[Value.ref b, qi ((k : Nat) : Int)]) below meth c 0 0 (MQ below (lQ g (fun r σ' => σ' = σ ∧ 0 ≤ r ∧ r < 2147483648)) (#[Value.ref b, qi ((k : Nat) : Int)]) s 0 0 (am_FA (gL g))) (am_FA (gL g)) 2 31 [some (.ref b), some (qi ((k : Nat) : Int))] [qi x] σ := by
    intro x
    obtain ⟨z, hz, hzx⟩ := l_msk x
    refine wq_ldc C (index := 8) (n := 2147483647) rfl (by decide +kernel) dL_dice_31 ?_
    refine wq_iand C z hzx dL_dice_33 ?_
    refine wq_iret C hr hlk (Nat.le_refl _) (Nat.le_refl _) dL_dice_34 ?_
    exact ⟨rfl, hz⟩
  have body : wq g p l e (headSpec wsL_dice ({ frames := 0, cells := 0, slots := 0, locals := 0 })).room s m (#[Value.ref b, qi ((k : Nat) : Int)]) below meth c 0 0 (MQ below (lQ g (fun r σ' => σ' = σ ∧ 0 ≤ r ∧ r < 2147483648)) (#[Value.ref b, qi ((k : Nat) : Int)]) s 0 0 (am_FA (gL g))) (am_FA (gL g)) 2 0 [some (.ref b), some (qi ((k : Nat) : Int))] [] σ := by
    refine wq_iload_n C rfl dL_dice_0 ?_
    refine wq_aload_n C rfl dL_dice_1 ?_
    refine wq_slen C hX hbl hbF dL_dice_2 ?_
    refine wq_icmp_ge C 12 (by omega) (by omega) (by decide) dL_dice_3 (fun hc => ?_) (fun hc => ?_)
    · refine wq_ldc C (index := 7) (n := 608135816) rfl (by decide +kernel) dL_dice_12 ?_
      refine wq_iload_n C rfl dL_dice_14 ?_
      refine wq_bipush C (n := 83) (by decide) dL_dice_15 ?_
      refine wq_iadd C dL_dice_17 ?_
      refine wq_imul C dL_dice_18 ?_
      refine wq_sipush C (n := 379) (by decide) dL_dice_19 ?_
      refine wq_iload_n C rfl dL_dice_22 ?_
      refine wq_imul C dL_dice_23 ?_
      refine wq_iload_n C rfl dL_dice_24 ?_
      refine wq_imul C dL_dice_25 ?_
      refine wq_iadd C dL_dice_26 ?_
      refine wq_sipush C (n := 6007) (by decide) dL_dice_27 ?_
      refine wq_iadd C dL_dice_30 ?_
      exact fin _
    · refine wq_aload_n C rfl dL_dice_6 ?_
      refine wq_iload_n C rfl dL_dice_7 ?_
      refine wq_sld C hX hbl hbF (by omega) k (by omega) dL_dice_8 ?_
      refine wq_goto C 31 (by decide) dL_dice_9 ?_
      exact fin _
  exact body s.heap [] _ hW va_S.rf hlv
theorem wq_sD {g : am_g} {p : Program} {l : Launch} {e : Env} {R : Room} {s : State} {m : MethodId} {args : Array Value} {below : List Frame} {meth : Method} {c : Code} {cells slots : Nat} {Q : State → Prop} {A : Nat → Prop} {nL pc : Nat} {lv : List (Option Value)} {st : List Value} {σ : am_M} {cc : ByteArray} {Ts : List Cond} {b L : Nat} {xs : Nat → Int32} {y : MethodName} {ws' : List Cond} {rm : Room} {bytes : ByteArray} {maxL n index mc ms : Nat} {ret : Option FieldType} {stk : List Value}
    (C : lq_C g p s m args c cc nL Ts A) (hX : va_X b L xs s s.heap) (hbl : b < s.heap.size) (hbA : ¬ A b) (hbF : ¬ am_FA (gL g) b) {av : List Value} {post : Int → am_M → Prop} (hM : Met l y ws' rm (lPd g σ b L xs av) (lQ g post) mc ms (am_FA (gL g))) (cw : CallB R s args RL index y bytes maxL ret ws' rm mc ms n ∧ (Cond.static y).before args s = true)
    (hn : av.length = n) (hstk : stk = av.reverse ++ st) (hst : (st.map fun v => v.category).sum ≤ 8) (hdg : decode cc pc = .ok (.invokestatic index, 3)) (hcs : cells + mc ≤ R.cells ∧ slots + ms ≤ R.slots)
    (kk : ∀ (r : Int) (σ' : am_M), post r σ' → wq g p l e R s m args below meth c (cells + mc) (slots + ms) Q A nL (pc + 3) lv (qi r :: st) σ') : wq g p l e R s m args below meth c cells slots Q A nL pc lv stk σ := by
  intro H locs ls hW hS hL
  refine va_calli (A0 := A) (va_runS (As := av) (rest := st) C.1 hM cw ⟨lPd_blind _ _ _ _ _ _, fun U hU hW9 => ⟨rfl, by rw [hU]; exact hW, by rw [hU]; exact lZ.go hW9 C.2.1 (fun a h1 h2 => hS.2.1 a h1 (C.2.2.2.2 a h1 h2)), by rw [hU]; exact va_X.moved hW9.alike (hX.kept (hS.2.1 b hbl hbA)), by rw [hU]; exact Nat.lt_of_lt_of_le hbl hS.1, hbF⟩⟩ rfl hn hL.1 hstk (lv_room hst) hdg hcs) hS (fun q _ h => C.2.2.2.1 q h) (fun q h => C.2.2.2.1 q h) (fun r u t H1 locs1 ht hvm hp hB hz hk hS1 => ?_)
  obtain ⟨x, rfl, hpx⟩ := hp
  exact kk x u hpx H1 locs1 ls (by rw [← ht]; exact hB) hS1 hL
/-! a fresh fabric, in the law's words -/
theorem lm_0 : ∀ n : Nat, lm (fun _ => false) n = 0
  | 0 => rfl
  | n + 1 => by rw [lm, lm_0 n]; show 2 ^ n * 0 + 0 = 0; rw [Nat.mul_zero]
theorem lcm_0 (d w x : Int) : lcm (ab_new0 d w x) = 0 := by
  have : ub (ab_new0 d w x) = fun _ => false := funext fun q => by
    unfold ub
    rw [new0_o _ _ _ _ (by omega)]
    rfl
  unfold lcm
  rw [this, lm_0]
theorem lW_new0 {d w x : Int} {σ : am_M} (h : ab_okR d w x) (hC : ab_C (ab_new0 d w x) σ) (h0 : σ 61 0 0 = d) (h1 : σ 61 0 1 = w) (h2 : σ 61 0 2 = x) (h3 : σ 61 0 3 = 0) : lW (ab_new0 d w x) σ := by
  have v := (new0_v d w x 0).2.2.2
  refine ⟨hC, ?_, J_new0 d w x, pv_new0 h, by rw [v.2.2.2.1]; omega, fun k hk => by rw [v.2.2.2.2] at hk; omega, by rw [v.1]; exact h0, by rw [v.2.1]; exact h1, by rw [v.2.2.1]; exact h2, by rw [lcm_0]; exact h3⟩
  rw [v.2.2.2.1]; exact I_new0 h
theorem qd_new0 (d w x : Int) : ab_qd (ab_new0 d w x) = 0 := am_sum0 64 (fun L _ => new0_o _ _ _ _ (by omega))
theorem ret_new0 (d w x : Int) : ab_ret (ab_new0 d w x) = 0 := am_sum0 64 (fun L _ => am_sum0 7 (fun k _ => new0_o _ _ _ _ (by omega)))
theorem s5_r {S : ab_S} {σ : am_M} (h : lW S σ) : 0 ≤ s5 S ∧ s5 S ≤ 6000000 := by
  have hn := h.2.1.2.1.2.2.2.2
  have c := h.2.2.2.2.1
  have hf : ∀ f, f < ab_n S → 0 ≤ S 5 f ∧ S 5 f ≤ 240000 := fun f hf => by
    have i := h.2.1.2.2.1 f (nlt hf)
    unfold ab_If at i
    omega
  refine ⟨sm_nn (fun f hf' => (hf f hf').1), ?_⟩
  have : s5 S ≤ am_sum (fun _ => 240000) (ab_n S) := sm_le (fun f hf' => (hf f hf').2)
  rw [sm_const] at this
  unfold ab_n at *
  omega
