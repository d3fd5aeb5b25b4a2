/-! the law's wrappers: the component's memory σ, the long cell o with v in it -/
def lO (cJ : ClassId) (o : Nat) (v : Int64) (H : Heap) : Prop := H[o]? = some (arrV cJ 1 (fun _ => .long v))
def lA (g : am_g) (o : Nat) : Nat → Prop := fun q => am_FA (gC g) q ∨ q = o
def lK (E : String) : Int := if E = "java/lang/IllegalStateException" then 2 else 1
def lZ (g : am_g) (cJ : ClassId) (o : Nat) (U : State) (H : Heap) : Prop := am_K (gC g) U ∧ am_Z (lA g o) U H ∧ va_Nc "java/lang/IllegalStateException" "java/lang/IllegalArgumentException" U ∧ ArrOfT U cJ .long ∧ ¬ am_FA (gC g) o
def lP (g : am_g) (cJ : ClassId) (o : Nat) (v : Int64) (σ : am_M) (av : List Value) : Array Value → State → Prop := va_Pc av (fun U => am_wd (gC g) σ U.heap ∧ lO cJ o v U.heap ∧ lZ g cJ o U U.heap)
def lQ (g : am_g) (cJ : ClassId) (o : Nat) (post : Int → Int64 → am_M → Prop) : Array Value → State → Outcome → State → Prop := va_Qi (S := Int64 × am_M) (fun r u => ∃ x : Int, r = Int32.ofInt x ∧ post x u.1 u.2) (fun u t => am_wd (gC g) u.2 t.heap ∧ lO cJ o u.1 t.heap) (lA g o)
theorem lZ.go {g : am_g} {cJ : ClassId} {o : Nat} {s U : State} {H H0 : Heap} (hW : s.WarmedH U.vm) (h : lZ g cJ o s H0) (hk : ∀ a : Nat, a < H0.size → ¬ lA g o a → H[a]? = H0[a]?) : lZ g cJ o U H :=
  ⟨am_K.warm hW h.1, am_Z.go hW h.2.1 hk, h.2.2.1.moved hW.alike, arrOfT_moved hW.alike h.2.2.2.1, h.2.2.2.2⟩
theorem lP_blind (g : am_g) (cJ : ClassId) (o : Nat) (v : Int64) (σ : am_M) (av : List Value) : FrameBlind (lP g cJ o v σ av) := fun a U g' mk h => ⟨h.1, h.2.1, h.2.2.1, am_K.same (u := U) (U := U.calling g' mk a) rfl h.2.2.2.1, am_Z.go (s := U) (U := U.calling g' mk a) (State.WarmedH.refl U) h.2.2.2.2.1 (fun _ _ _ => rfl), h.2.2.2.2.2.1.moved (u := U) (U := U.calling g' mk a) (Vm.Alike.refl _), arrOfT_moved (u := U) (E := U.calling g' mk a) (Vm.Alike.refl U.vm) h.2.2.2.2.2.2.1, h.2.2.2.2.2.2.2⟩
theorem am_Z.narrow {A B : Nat → Prop} {U : State} {H : Heap} (h : am_Z A U H) (hAB : ∀ q, B q → A q) : am_Z B U H := ⟨h.1.narrow hAB, h.2.1.narrow hAB, h.2.2⟩
def lq_C (g : am_g) (cJ : ClassId) (o : Nat) (p : Program) (s : State) (m : MethodId) (args : Array Value) (meth : Method) (c : Code) (cc : ByteArray) (nL : Nat) (Ts : List Cond) (hh : List (Nat × Nat × Nat × Nat)) : Prop :=
  p.tables.exec = Jvm.exec ∧ c.code = cc ∧ c.maxLocals = nL ∧ s.vm.findClass RL = some m.cls ∧ (∀ w ∈ Ts, w.before args s = true) ∧ lZ g cJ o s s.heap ∧ c.exceptionTable.toList = tableOf hh ∧ meth.sig.returnType = some .int ∧ meth.locks = false
theorem lq_start {g : am_g} {cJ : ClassId} {o : Nat} {v : Int64} {σ : am_M} {l : Launch} {y : MethodName} {ws ws' : List Cond} {rm : Room} {Qc : Array Value → State → Outcome → State → Prop} {cc : ByteArray} {nL : Nat} {hh : List (Nat × Nat × Nat × Nat)} {av : List Value} {mc ms : Nat}
    (hy : plainName y.cls = true) (hw : ws = Cond.codeWith y cc nL (some .int) hh :: ws') (hcls : y.cls = RL) (hlen : (lg_sl av).length ≤ nL)
    (body : ∀ p e s m below meth c, lq_C g cJ o p s m av.toArray meth c cc nL ws hh → am_wd (gC g) σ s.heap → lO cJ o v s.heap → ∀ ls : Array Slot, lv_has ls nL (lv_args 0 av) →
      W p l e (headSpec ws rm).room s m av.toArray below meth c s.heap [] 0 0 (MQ below Qc av.toArray s mc ms (lA g o)) (F0 m 0 ls [])) : Met l y ws rm (lP g cJ o v σ av) Qc mc ms (lA g o) := by
  refine MetFree.of_bodyS (code := cc) (maxLocals := nL) (ret := some .int) hy ?_ ?_
  · intro args s m h hn
    obtain ⟨m9, meth, c, hn9, h1, h2, h3, h4, -, h5, h6, -⟩ := Cond.codeWith_spec (atoms_spec (ws := ws) h _ (by rw [hw]; exact List.mem_cons_self))
    cases hn.symm.trans hn9
    exact ⟨meth, c, h1, h2, h3, h4, h5, h6⟩
  · intro p e s m args below meth c s₁ B hml hP _
    have hh0 : s₁.heap = s.heap := by rw [B.state]; rfl
    obtain ⟨rfl, hW, hO, hZ⟩ := hP
    have hts := atoms_spec (ws := ws) B.pre
    have ht := vx_table (x := y) B (hts _ (by rw [hw]; exact List.mem_cons_self))
    have hown : s.vm.findClass RL = some m.cls := hcls ▸ findClass_of_methodNamed B.named
    have K : W p l e (headSpec ws rm).room s m av.toArray below meth c s.heap [] 0 0 (MQ below Qc av.toArray s mc ms (lA g o)) (entryFrame m av.toArray nL) := by
      rw [lg_entry_eq]
      exact body p e s m below meth c ⟨B.exec, B.bytes, hml, hown, hts, hZ, ht, B.returns, B.notSynchronized⟩ hW hO _ (lv_entry av hlen)
    obtain ⟨t, a1, o', b1, b2, b3⟩ := K s₁ hh0 (Stand.of_body B)
    exact ⟨t, o', a1, b1, b2, ⟨b3.1, b3.2⟩⟩
theorem lO_set {cJ : ClassId} {v x : Int64} : (arrV cJ 1 (fun _ => .long v)).setSlot 0 (.long x) = arrV cJ 1 (fun _ => .long x) := by
  rw [arrV_store]
  refine arrV_ext _ _ (fun j hj => ?_)
  have : j = 0 := by omega
  subst this
  simp [updV]

set_option maxRecDepth 100000 in
set_option maxHeartbeats 4000000 in
/-- the law's reset -/
theorem w_reset (l : Launch) (hl : l.stackTraces = false) (g : am_g) (hI : am_inj (gC g)) (cJ : ClassId) (o : Nat) (v : Int64) (σ : am_M) (p1 p2 p3 : Int) (hp1 : -2147483648 ≤ p1 ∧ p1 < 2147483648) (hp2 : -2147483648 ≤ p2 ∧ p2 < 2147483648) (hp3 : -2147483648 ≤ p3 ∧ p3 < 2147483648) : Met l yL_reset wsL_reset ({ frames := 7, cells := 1, slots := 6, locals := 105 }) (lP g cJ o v σ (.ref (g.2.2 0 0) :: .int (Int32.ofInt p1) :: .int (Int32.ofInt p2) :: .int (Int32.ofInt p3) :: [])) (lQ g cJ o (fun k v' σ' => (k = 0 ∧ v' = v ∧ (fun σ' => ab_okR p1 p2 p3 ∧ ab_C (ab_new0 p1 p2 p3) σ') σ') ∨ (∃ E, (fun E => E = "java/lang/IllegalArgumentException" ∧ ¬ ab_okR p1 p2 p3) E ∧ σ' = σ ∧ v' = v ∧ k = lK E))) 1 6 (lA g o) := by
  refine lq_start (cc := cL_reset) (nL := 5) (hh := [(0, 7, 10, 13)]) (by decide) rfl rfl (Nat.le_of_ble_eq_true rfl) ?_
  intro p e s m below meth c C hW hO ls hlv
  obtain ⟨hx, hb0, hml, hown, hts, hZ, htab, hr, hlk⟩ := C
  have hlv : lv_has ls 5 [(0, .ref (g.2.2 0 0)), (1, .int (Int32.ofInt p1)), (2, .int (Int32.ofInt p2)), (3, .int (Int32.ofInt p3))] := hlv
  have hoH : o < s.heap.size := (Array.getElem?_eq_some_iff.mp hO).1
  refine lv_aload_n hx hb0 dL_reset_0 rfl (lv_at hlv 0 rfl) ?_
  refine lv_iload_n hx hb0 dL_reset_1 rfl (lv_at hlv 1 rfl) ?_
  refine lv_iload_n hx hb0 dL_reset_2 rfl (lv_at hlv 2 rfl) ?_
  refine lv_iload_n hx hb0 dL_reset_3 rfl (lv_at hlv 3 rfl) ?_
  refine vx_callv (A0 := lA g o) (vx_runV (As := [.int (Int32.ofInt p1), .int (Int32.ofInt p2), .int (Int32.ofInt p3)]) (rest := []) ⟨hx, hb0, hml, hown, hts⟩ (c_X5_reset l hl g hI σ p1 p2 p3 hp1 hp2 hp3) (cwV 3 hts gL_reset_X5_reset rfl rfl rfl (by decide +kernel) ⟨Nat.le_of_ble_eq_true rfl, Nat.le_of_ble_eq_true rfl⟩) ⟨am_blindX (gC g) σ [.inr (0, 0), .inl p1, .inl p2, .inl p3], va_recv hZ.1.1 (am_one hW (k := 0) (i := 0) (show 0 < (1:Nat) by decide) rfl) (ci := 5) rfl (q0 := 0) rfl, fun U hU hW9 => ⟨rfl, by rw [hU]; exact hW, am_K.warm hW9 hZ.1, by rw [hU]; exact am_Z.go hW9 (hZ.2.1.narrow (fun _ h => Or.inl h)) (fun _ _ _ => rfl)⟩⟩ rfl rfl hlv.1 rfl (lv_room (Nat.le_of_ble_eq_true rfl)) dL_reset_4 ⟨Nat.le_of_ble_eq_true rfl, Nat.le_of_ble_eq_true rfl⟩) va_S.rf (fun q _ h => Or.inl h) (fun q h => Or.inl h) (fun q _ h => Or.inl h) ?_ ?_
  · intro E ce q9 u t H1 locs1 ht hvm hp hB hz hk hS1 hce hcv hcl
    obtain ⟨hWx, hEx⟩ := hB
    rw [ht] at hWx
    have hO1 : lO cJ o v H1 := (hk o hoH hZ.2.2.2.2).trans hO
    obtain ⟨rfl, hE⟩ := hEx
    refine vx_catch (E := "java/lang/IllegalArgumentException") (name := "java/lang/IllegalArgumentException") hown [] (⟨0, 7, 10, 13⟩ : ExceptionTableEntry) [] htab (fun z hz => absurd hz List.not_mem_nil) (by decide) (by decide) (hts (.classLink RL 13 "java/lang/IllegalArgumentException") (by decide +kernel)) (am_zw_use (w := .castable "java/lang/IllegalArgumentException" "java/lang/IllegalArgumentException") (by decide +kernel) (hZ.2.1.2.2.1 _ (by decide +kernel))) hce hcv hcl ?_
    refine lv_astore hx hb0 dL_reset_10 hlv (by decide) rfl (fun ls hlv => ?_)
    refine lv_iconst (v := Int32.ofInt 1) hx hb0 dL_reset_12 rfl ?_
    exact W.iret hx hb0 hr (fun t ht _ => ⟨⟨_, (v, σ), rfl, ⟨1, rfl, Or.inr ⟨"java/lang/IllegalArgumentException", ⟨rfl, hE⟩, rfl, rfl, by decide⟩⟩, by rw [ht]; exact hWx, by rw [ht]; exact hO1⟩, hS1.F ht⟩) hS1.2.2 dL_reset_13 hlk
  · intro u t H1 locs1 ht hvm hp hB hz hk hS1
    rw [ht] at hB
    have hO1 : lO cJ o v H1 := (hk o hoH hZ.2.2.2.2).trans hO
    refine lv_goto (tgt := 14) hx hb0 dL_reset_7 (by first | decide | rfl) ?_
    refine lv_iconst (v := Int32.ofInt 0) hx hb0 dL_reset_14 rfl ?_
    exact W.iret hx hb0 hr (fun t ht _ => ⟨⟨_, (v, u), rfl, ⟨0, rfl, Or.inl ⟨rfl, rfl, hp⟩⟩, by rw [ht]; exact hB, by rw [ht]; exact hO1⟩, hS1.F ht⟩) hS1.2.2 dL_reset_15 hlk

set_option maxRecDepth 100000 in
set_option maxHeartbeats 4000000 in
/-- the law's addFlow -/
theorem w_addFlow (l : Launch) (hl : l.stackTraces = false) (g : am_g) (hI : am_inj (gC g)) (cJ : ClassId) (o : Nat) (v : Int64) (σ : am_M) (p1 p2 p3 p4 : Int) (hp1 : -2147483648 ≤ p1 ∧ p1 < 2147483648) (hp2 : -2147483648 ≤ p2 ∧ p2 < 2147483648) (hp3 : -2147483648 ≤ p3 ∧ p3 < 2147483648) (hp4 : -2147483648 ≤ p4 ∧ p4 < 2147483648) (S : ab_S) (b : Int) (hC : ab_C S σ) (hS : ab_I S b) : Met l yL_addFlow wsL_addFlow ({ frames := 8, cells := 3, slots := 18, locals := 126 }) (lP g cJ o v σ (.ref (g.2.2 0 0) :: .int (Int32.ofInt p1) :: .int (Int32.ofInt p2) :: .int (Int32.ofInt p3) :: .int (Int32.ofInt p4) :: [.ref o])) (lQ g cJ o (fun k v' σ' => (k = 0 ∧ ∃ r : Int, v' = (Int32.ofInt r).toInt64 ∧ (fun r σ' => ab_okA p1 p2 p3 p4 ∧ S 19 4 < 24 ∧ ab_C (ab_add S p1 p2 p3 p4) σ' ∧ r = S 19 4) r σ') ∨ (∃ E, (fun E => (E = "java/lang/IllegalArgumentException" ∧ ¬ ab_okA p1 p2 p3 p4) ∨ (E = "java/lang/IllegalStateException" ∧ ab_okA p1 p2 p3 p4 ∧ ¬ S 19 4 < 24)) E ∧ σ' = σ ∧ v' = v ∧ k = lK E))) 3 18 (lA g o) := by
  refine lq_start (cc := cL_addFlow) (nL := 7) (hh := [(0, 14, 17, 13), (0, 14, 21, 19)]) (by decide) rfl rfl (Nat.le_of_ble_eq_true rfl) ?_
  intro p e s m below meth c C hW hO ls hlv
  obtain ⟨hx, hb0, hml, hown, hts, hZ, htab, hr, hlk⟩ := C
  have hlv : lv_has ls 7 [(0, .ref (g.2.2 0 0)), (1, .int (Int32.ofInt p1)), (2, .int (Int32.ofInt p2)), (3, .int (Int32.ofInt p3)), (4, .int (Int32.ofInt p4)), (5, .ref o)] := hlv
  have hoH : o < s.heap.size := (Array.getElem?_eq_some_iff.mp hO).1
  refine lv_aload hx hb0 dL_addFlow_0 (lv_at hlv 5 rfl) ?_
  refine lv_iconst (v := Int32.ofInt 0) hx hb0 dL_addFlow_2 rfl ?_
  refine lv_aload_n hx hb0 dL_addFlow_3 rfl (lv_at hlv 0 rfl) ?_
  refine lv_iload_n hx hb0 dL_addFlow_4 rfl (lv_at hlv 1 rfl) ?_
  refine lv_iload_n hx hb0 dL_addFlow_5 rfl (lv_at hlv 2 rfl) ?_
  refine lv_iload_n hx hb0 dL_addFlow_6 rfl (lv_at hlv 3 rfl) ?_
  refine lv_iload hx hb0 dL_addFlow_7 (lv_at hlv 4 rfl) ?_
  refine vx_calli (A0 := lA g o) (vx_runV (As := [.int (Int32.ofInt p1), .int (Int32.ofInt p2), .int (Int32.ofInt p3), .int (Int32.ofInt p4)]) (rest := [.int (Int32.ofInt 0), .ref o]) ⟨hx, hb0, hml, hown, hts⟩ (c_X5_addFlow l hl g hI σ p1 p2 p3 p4 hp1 hp2 hp3 hp4 S b hC hS) (cwV 4 hts gL_addFlow_X5_addFlow rfl rfl rfl (by decide +kernel) ⟨Nat.le_of_ble_eq_true rfl, Nat.le_of_ble_eq_true rfl⟩) ⟨am_blindX (gC g) σ [.inr (0, 0), .inl p1, .inl p2, .inl p3, .inl p4], va_recv hZ.1.1 (am_one hW (k := 0) (i := 0) (show 0 < (1:Nat) by decide) rfl) (ci := 5) rfl (q0 := 0) rfl, fun U hU hW9 => ⟨rfl, by rw [hU]; exact hW, am_K.warm hW9 hZ.1, by rw [hU]; exact am_Z.go hW9 (hZ.2.1.narrow (fun _ h => Or.inl h)) (fun _ _ _ => rfl)⟩⟩ rfl rfl hlv.1 rfl (lv_room (Nat.le_of_ble_eq_true rfl)) dL_addFlow_9 ⟨Nat.le_of_ble_eq_true rfl, Nat.le_of_ble_eq_true rfl⟩) va_S.rf (fun q _ h => Or.inl h) (fun q h => Or.inl h) (fun q _ h => Or.inl h) ?_ ?_
  · intro E ce q9 u t H1 locs1 ht hvm hp hB hz hk hS1 hce hcv hcl
    obtain ⟨hWx, hEx⟩ := hB
    rw [ht] at hWx
    have hO1 : lO cJ o v H1 := (hk o hoH hZ.2.2.2.2).trans hO
    rcases hEx with ⟨rfl, hE⟩ | ⟨rfl, hE⟩
    · refine vx_catch (E := "java/lang/IllegalArgumentException") (name := "java/lang/IllegalArgumentException") hown [] (⟨0, 14, 17, 13⟩ : ExceptionTableEntry) [(⟨0, 14, 21, 19⟩ : ExceptionTableEntry)] htab (fun z hz => absurd hz List.not_mem_nil) (by decide) (by decide) (hts (.classLink RL 13 "java/lang/IllegalArgumentException") (by decide +kernel)) (am_zw_use (w := .castable "java/lang/IllegalArgumentException" "java/lang/IllegalArgumentException") (by decide +kernel) (hZ.2.1.2.2.1 _ (by decide +kernel))) hce hcv hcl ?_
      refine lv_astore hx hb0 dL_addFlow_17 hlv (by decide) rfl (fun ls hlv => ?_)
      refine lv_iconst (v := Int32.ofInt 1) hx hb0 dL_addFlow_19 rfl ?_
      exact W.iret hx hb0 hr (fun t ht _ => ⟨⟨_, (v, σ), rfl, ⟨1, rfl, Or.inr ⟨"java/lang/IllegalArgumentException", Or.inl ⟨rfl, hE⟩, rfl, rfl, by decide⟩⟩, by rw [ht]; exact hWx, by rw [ht]; exact hO1⟩, hS1.F ht⟩) hS1.2.2 dL_addFlow_20 hlk
    · refine vx_catch (E := "java/lang/IllegalStateException") (name := "java/lang/IllegalStateException") hown [(⟨0, 14, 17, 13⟩ : ExceptionTableEntry)] (⟨0, 14, 21, 19⟩ : ExceptionTableEntry) [] htab (fun z hz => by rw [List.mem_singleton.mp hz]; exact Or.inr ⟨by decide, _, hts (.classLink RL 13 "java/lang/IllegalArgumentException") (by decide +kernel), hZ.2.2.1⟩) (by decide) (by decide) (hts (.classLink RL 19 "java/lang/IllegalStateException") (by decide +kernel)) (am_zw_use (w := .castable "java/lang/IllegalStateException" "java/lang/IllegalStateException") (by decide +kernel) (hZ.2.1.2.2.1 _ (by decide +kernel))) hce hcv hcl ?_
      refine lv_astore hx hb0 dL_addFlow_21 hlv (by decide) rfl (fun ls hlv => ?_)
      refine lv_iconst (v := Int32.ofInt 2) hx hb0 dL_addFlow_23 rfl ?_
      exact W.iret hx hb0 hr (fun t ht _ => ⟨⟨_, (v, σ), rfl, ⟨2, rfl, Or.inr ⟨"java/lang/IllegalStateException", Or.inr ⟨rfl, hE⟩, rfl, rfl, by decide⟩⟩, by rw [ht]; exact hWx, by rw [ht]; exact hO1⟩, hS1.F ht⟩) hS1.2.2 dL_addFlow_24 hlk
  · intro r9 u t H1 locs1 ht hvm hp hB hz hk hS1
    obtain ⟨r, rfl, hp⟩ := hp
    rw [ht] at hB
    have hO1 : lO cJ o v H1 := (hk o hoH hZ.2.2.2.2).trans hO
    refine lv_i2l hx hb0 dL_addFlow_12 rfl ?_
    refine W.last (cell := arrV cJ 1 (fun _ => .long v)) (a := o) (j := Int32.ofInt 0) (x := (Int32.ofInt r).toInt64) hx hb0 hO1 (hZ.2.2.2.1 1 (fun _ => .long v)) (fun q => by cases q) (by show ¬ (_ ∨ (arrV _ _ _).slots.size ≤ _); rw [arrV_size]; decide) rfl rfl dL_addFlow_13 fun H2 e2 z2 oq2 => ?_
    have hO2 : lO cJ o (Int32.ofInt r).toInt64 H2 := e2.trans (congrArg some lO_set)
    have hB2 : am_wd (gC g) u H2 := hB.kept (fun q hq => oq2 q (fun e => hZ.2.2.2.2 (e ▸ hq)))
    have hS2 := hS1.put (k := (Int32.ofInt 0).toNatClampNeg) z2 oq2 (Or.inr rfl : lA g o o)
    refine lv_goto (tgt := 25) hx hb0 dL_addFlow_14 (by first | decide | rfl) ?_
    refine lv_iconst (v := Int32.ofInt 0) hx hb0 dL_addFlow_25 rfl ?_
    exact W.iret hx hb0 hr (fun t ht _ => ⟨⟨_, ((Int32.ofInt r).toInt64, u), rfl, ⟨0, rfl, Or.inl ⟨rfl, r, rfl, hp⟩⟩, by rw [ht]; exact hB2, by rw [ht]; exact hO2⟩, hS2.F ht⟩) hS2.2.2 dL_addFlow_26 hlk

set_option maxRecDepth 100000 in
set_option maxHeartbeats 4000000 in
/-- the law's cut -/
theorem w_cut (l : Launch) (hl : l.stackTraces = false) (g : am_g) (hI : am_inj (gC g)) (cJ : ClassId) (o : Nat) (v : Int64) (σ : am_M) (p1 p2 : Int) (hp1 : -2147483648 ≤ p1 ∧ p1 < 2147483648) (hp2 : -2147483648 ≤ p2 ∧ p2 < 2147483648) (S : ab_S) (b : Int) (hC : ab_C S σ) (hS : ab_I S b) : Met l yL_cut wsL_cut ({ frames := 8, cells := 2, slots := 12, locals := 125 }) (lP g cJ o v σ (.ref (g.2.2 0 0) :: .int (Int32.ofInt p1) :: .int (Int32.ofInt p2) :: [.ref o])) (lQ g cJ o (fun k v' σ' => (k = 0 ∧ ∃ r : Int, v' = (Int32.ofInt r).toInt64 ∧ (fun r σ' => ((0 ≤ p1 ∧ p1 < 4) ∧ (0 ≤ p2 ∧ p2 < 4)) ∧ S 18 (4 * p1.toNat + p2.toNat) = 0 ∧ ab_C (ab_u S 18 (4 * p1.toNat + p2.toNat) 1) σ' ∧ r = S 14 (32 + 4 * p1.toNat + p2.toNat) + S 14 (48 + 4 * p2.toNat + p1.toNat)) r σ') ∨ (∃ E, (fun E => (E = "java/lang/IllegalArgumentException" ∧ ¬ ((0 ≤ p1 ∧ p1 < 4) ∧ (0 ≤ p2 ∧ p2 < 4))) ∨ (E = "java/lang/IllegalStateException" ∧ ((0 ≤ p1 ∧ p1 < 4) ∧ (0 ≤ p2 ∧ p2 < 4)) ∧ ¬ S 18 (4 * p1.toNat + p2.toNat) = 0)) E ∧ σ' = σ ∧ v' = v ∧ k = lK E))) 2 12 (lA g o) := by
  refine lq_start (cc := cL_cut) (nL := 5) (hh := [(0, 10, 13, 13), (0, 10, 17, 19)]) (by decide) rfl rfl (Nat.le_of_ble_eq_true rfl) ?_
  intro p e s m below meth c C hW hO ls hlv
  obtain ⟨hx, hb0, hml, hown, hts, hZ, htab, hr, hlk⟩ := C
  have hlv : lv_has ls 5 [(0, .ref (g.2.2 0 0)), (1, .int (Int32.ofInt p1)), (2, .int (Int32.ofInt p2)), (3, .ref o)] := hlv
  have hoH : o < s.heap.size := (Array.getElem?_eq_some_iff.mp hO).1
  refine lv_aload_n hx hb0 dL_cut_0 rfl (lv_at hlv 3 rfl) ?_
  refine lv_iconst (v := Int32.ofInt 0) hx hb0 dL_cut_1 rfl ?_
  refine lv_aload_n hx hb0 dL_cut_2 rfl (lv_at hlv 0 rfl) ?_
  refine lv_iload_n hx hb0 dL_cut_3 rfl (lv_at hlv 1 rfl) ?_
  refine lv_iload_n hx hb0 dL_cut_4 rfl (lv_at hlv 2 rfl) ?_
  refine vx_calli (A0 := lA g o) (vx_runV (As := [.int (Int32.ofInt p1), .int (Int32.ofInt p2)]) (rest := [.int (Int32.ofInt 0), .ref o]) ⟨hx, hb0, hml, hown, hts⟩ (c_X5_cut l hl g hI σ p1 p2 hp1 hp2 S b hC hS) (cwV 2 hts gL_cut_X5_cut rfl rfl rfl (by decide +kernel) ⟨Nat.le_of_ble_eq_true rfl, Nat.le_of_ble_eq_true rfl⟩) ⟨am_blindX (gC g) σ [.inr (0, 0), .inl p1, .inl p2], va_recv hZ.1.1 (am_one hW (k := 0) (i := 0) (show 0 < (1:Nat) by decide) rfl) (ci := 5) rfl (q0 := 0) rfl, fun U hU hW9 => ⟨rfl, by rw [hU]; exact hW, am_K.warm hW9 hZ.1, by rw [hU]; exact am_Z.go hW9 (hZ.2.1.narrow (fun _ h => Or.inl h)) (fun _ _ _ => rfl)⟩⟩ rfl rfl hlv.1 rfl (lv_room (Nat.le_of_ble_eq_true rfl)) dL_cut_5 ⟨Nat.le_of_ble_eq_true rfl, Nat.le_of_ble_eq_true rfl⟩) va_S.rf (fun q _ h => Or.inl h) (fun q h => Or.inl h) (fun q _ h => Or.inl h) ?_ ?_
  · intro E ce q9 u t H1 locs1 ht hvm hp hB hz hk hS1 hce hcv hcl
    obtain ⟨hWx, hEx⟩ := hB
    rw [ht] at hWx
    have hO1 : lO cJ o v H1 := (hk o hoH hZ.2.2.2.2).trans hO
    rcases hEx with ⟨rfl, hE⟩ | ⟨rfl, hE⟩
    · refine vx_catch (E := "java/lang/IllegalArgumentException") (name := "java/lang/IllegalArgumentException") hown [] (⟨0, 10, 13, 13⟩ : ExceptionTableEntry) [(⟨0, 10, 17, 19⟩ : ExceptionTableEntry)] htab (fun z hz => absurd hz List.not_mem_nil) (by decide) (by decide) (hts (.classLink RL 13 "java/lang/IllegalArgumentException") (by decide +kernel)) (am_zw_use (w := .castable "java/lang/IllegalArgumentException" "java/lang/IllegalArgumentException") (by decide +kernel) (hZ.2.1.2.2.1 _ (by decide +kernel))) hce hcv hcl ?_
      refine lv_astore hx hb0 dL_cut_13 hlv (by decide) rfl (fun ls hlv => ?_)
      refine lv_iconst (v := Int32.ofInt 1) hx hb0 dL_cut_15 rfl ?_
      exact W.iret hx hb0 hr (fun t ht _ => ⟨⟨_, (v, σ), rfl, ⟨1, rfl, Or.inr ⟨"java/lang/IllegalArgumentException", Or.inl ⟨rfl, hE⟩, rfl, rfl, by decide⟩⟩, by rw [ht]; exact hWx, by rw [ht]; exact hO1⟩, hS1.F ht⟩) hS1.2.2 dL_cut_16 hlk
    · refine vx_catch (E := "java/lang/IllegalStateException") (name := "java/lang/IllegalStateException") hown [(⟨0, 10, 13, 13⟩ : ExceptionTableEntry)] (⟨0, 10, 17, 19⟩ : ExceptionTableEntry) [] htab (fun z hz => by rw [List.mem_singleton.mp hz]; exact Or.inr ⟨by decide, _, hts (.classLink RL 13 "java/lang/IllegalArgumentException") (by decide +kernel), hZ.2.2.1⟩) (by decide) (by decide) (hts (.classLink RL 19 "java/lang/IllegalStateException") (by decide +kernel)) (am_zw_use (w := .castable "java/lang/IllegalStateException" "java/lang/IllegalStateException") (by decide +kernel) (hZ.2.1.2.2.1 _ (by decide +kernel))) hce hcv hcl ?_
      refine lv_astore hx hb0 dL_cut_17 hlv (by decide) rfl (fun ls hlv => ?_)
      refine lv_iconst (v := Int32.ofInt 2) hx hb0 dL_cut_19 rfl ?_
      exact W.iret hx hb0 hr (fun t ht _ => ⟨⟨_, (v, σ), rfl, ⟨2, rfl, Or.inr ⟨"java/lang/IllegalStateException", Or.inr ⟨rfl, hE⟩, rfl, rfl, by decide⟩⟩, by rw [ht]; exact hWx, by rw [ht]; exact hO1⟩, hS1.F ht⟩) hS1.2.2 dL_cut_20 hlk
  · intro r9 u t H1 locs1 ht hvm hp hB hz hk hS1
    obtain ⟨r, rfl, hp⟩ := hp
    rw [ht] at hB
    have hO1 : lO cJ o v H1 := (hk o hoH hZ.2.2.2.2).trans hO
    refine lv_i2l hx hb0 dL_cut_8 rfl ?_
    refine W.last (cell := arrV cJ 1 (fun _ => .long v)) (a := o) (j := Int32.ofInt 0) (x := (Int32.ofInt r).toInt64) hx hb0 hO1 (hZ.2.2.2.1 1 (fun _ => .long v)) (fun q => by cases q) (by show ¬ (_ ∨ (arrV _ _ _).slots.size ≤ _); rw [arrV_size]; decide) rfl rfl dL_cut_9 fun H2 e2 z2 oq2 => ?_
    have hO2 : lO cJ o (Int32.ofInt r).toInt64 H2 := e2.trans (congrArg some lO_set)
    have hB2 : am_wd (gC g) u H2 := hB.kept (fun q hq => oq2 q (fun e => hZ.2.2.2.2 (e ▸ hq)))
    have hS2 := hS1.put (k := (Int32.ofInt 0).toNatClampNeg) z2 oq2 (Or.inr rfl : lA g o o)
    refine lv_goto (tgt := 21) hx hb0 dL_cut_10 (by first | decide | rfl) ?_
    refine lv_iconst (v := Int32.ofInt 0) hx hb0 dL_cut_21 rfl ?_
    exact W.iret hx hb0 hr (fun t ht _ => ⟨⟨_, ((Int32.ofInt r).toInt64, u), rfl, ⟨0, rfl, Or.inl ⟨rfl, r, rfl, hp⟩⟩, by rw [ht]; exact hB2, by rw [ht]; exact hO2⟩, hS2.F ht⟩) hS2.2.2 dL_cut_22 hlk

set_option maxRecDepth 100000 in
set_option maxHeartbeats 4000000 in
/-- the law's restore -/
theorem w_restore (l : Launch) (hl : l.stackTraces = false) (g : am_g) (hI : am_inj (gC g)) (cJ : ClassId) (o : Nat) (v : Int64) (σ : am_M) (p1 p2 : Int) (hp1 : -2147483648 ≤ p1 ∧ p1 < 2147483648) (hp2 : -2147483648 ≤ p2 ∧ p2 < 2147483648) (S : ab_S) (b : Int) (hC : ab_C S σ) (hS : ab_I S b) : Met l yL_restore wsL_restore ({ frames := 8, cells := 2, slots := 12, locals := 127 }) (lP g cJ o v σ (.ref (g.2.2 0 0) :: .int (Int32.ofInt p1) :: .int (Int32.ofInt p2) :: [.ref o])) (lQ g cJ o (fun k v' σ' => (k = 0 ∧ ∃ r : Int, v' = (Int32.ofInt r).toInt64 ∧ (fun r σ' => ((0 ≤ p1 ∧ p1 < 4) ∧ (0 ≤ p2 ∧ p2 < 4)) ∧ ¬ S 18 (4 * p1.toNat + p2.toNat) = 0 ∧ ab_C (ab_u S 18 (4 * p1.toNat + p2.toNat) 0) σ' ∧ r = ab_cuts (ab_u S 18 (4 * p1.toNat + p2.toNat) 0)) r σ') ∨ (∃ E, (fun E => (E = "java/lang/IllegalArgumentException" ∧ ¬ ((0 ≤ p1 ∧ p1 < 4) ∧ (0 ≤ p2 ∧ p2 < 4))) ∨ (E = "java/lang/IllegalStateException" ∧ ((0 ≤ p1 ∧ p1 < 4) ∧ (0 ≤ p2 ∧ p2 < 4)) ∧ S 18 (4 * p1.toNat + p2.toNat) = 0)) E ∧ σ' = σ ∧ v' = v ∧ k = lK E))) 2 12 (lA g o) := by
  refine lq_start (cc := cL_restore) (nL := 5) (hh := [(0, 10, 13, 13), (0, 10, 17, 19)]) (by decide) rfl rfl (Nat.le_of_ble_eq_true rfl) ?_
  intro p e s m below meth c C hW hO ls hlv
  obtain ⟨hx, hb0, hml, hown, hts, hZ, htab, hr, hlk⟩ := C
  have hlv : lv_has ls 5 [(0, .ref (g.2.2 0 0)), (1, .int (Int32.ofInt p1)), (2, .int (Int32.ofInt p2)), (3, .ref o)] := hlv
  have hoH : o < s.heap.size := (Array.getElem?_eq_some_iff.mp hO).1
  refine lv_aload_n hx hb0 dL_restore_0 rfl (lv_at hlv 3 rfl) ?_
  refine lv_iconst (v := Int32.ofInt 0) hx hb0 dL_restore_1 rfl ?_
  refine lv_aload_n hx hb0 dL_restore_2 rfl (lv_at hlv 0 rfl) ?_
  refine lv_iload_n hx hb0 dL_restore_3 rfl (lv_at hlv 1 rfl) ?_
  refine lv_iload_n hx hb0 dL_restore_4 rfl (lv_at hlv 2 rfl) ?_
  refine vx_calli (A0 := lA g o) (vx_runV (As := [.int (Int32.ofInt p1), .int (Int32.ofInt p2)]) (rest := [.int (Int32.ofInt 0), .ref o]) ⟨hx, hb0, hml, hown, hts⟩ (c_X5_restore l hl g hI σ p1 p2 hp1 hp2 S b hC hS) (cwV 2 hts gL_restore_X5_restore rfl rfl rfl (by decide +kernel) ⟨Nat.le_of_ble_eq_true rfl, Nat.le_of_ble_eq_true rfl⟩) ⟨am_blindX (gC g) σ [.inr (0, 0), .inl p1, .inl p2], va_recv hZ.1.1 (am_one hW (k := 0) (i := 0) (show 0 < (1:Nat) by decide) rfl) (ci := 5) rfl (q0 := 0) rfl, fun U hU hW9 => ⟨rfl, by rw [hU]; exact hW, am_K.warm hW9 hZ.1, by rw [hU]; exact am_Z.go hW9 (hZ.2.1.narrow (fun _ h => Or.inl h)) (fun _ _ _ => rfl)⟩⟩ rfl rfl hlv.1 rfl (lv_room (Nat.le_of_ble_eq_true rfl)) dL_restore_5 ⟨Nat.le_of_ble_eq_true rfl, Nat.le_of_ble_eq_true rfl⟩) va_S.rf (fun q _ h => Or.inl h) (fun q h => Or.inl h) (fun q _ h => Or.inl h) ?_ ?_
  · intro E ce q9 u t H1 locs1 ht hvm hp hB hz hk hS1 hce hcv hcl
    obtain ⟨hWx, hEx⟩ := hB
    rw [ht] at hWx
    have hO1 : lO cJ o v H1 := (hk o hoH hZ.2.2.2.2).trans hO
    rcases hEx with ⟨rfl, hE⟩ | ⟨rfl, hE⟩
    · refine vx_catch (E := "java/lang/IllegalArgumentException") (name := "java/lang/IllegalArgumentException") hown [] (⟨0, 10, 13, 13⟩ : ExceptionTableEntry) [(⟨0, 10, 17, 19⟩ : ExceptionTableEntry)] htab (fun z hz => absurd hz List.not_mem_nil) (by decide) (by decide) (hts (.classLink RL 13 "java/lang/IllegalArgumentException") (by decide +kernel)) (am_zw_use (w := .castable "java/lang/IllegalArgumentException" "java/lang/IllegalArgumentException") (by decide +kernel) (hZ.2.1.2.2.1 _ (by decide +kernel))) hce hcv hcl ?_
      refine lv_astore hx hb0 dL_restore_13 hlv (by decide) rfl (fun ls hlv => ?_)
      refine lv_iconst (v := Int32.ofInt 1) hx hb0 dL_restore_15 rfl ?_
      exact W.iret hx hb0 hr (fun t ht _ => ⟨⟨_, (v, σ), rfl, ⟨1, rfl, Or.inr ⟨"java/lang/IllegalArgumentException", Or.inl ⟨rfl, hE⟩, rfl, rfl, by decide⟩⟩, by rw [ht]; exact hWx, by rw [ht]; exact hO1⟩, hS1.F ht⟩) hS1.2.2 dL_restore_16 hlk
    · refine vx_catch (E := "java/lang/IllegalStateException") (name := "java/lang/IllegalStateException") hown [(⟨0, 10, 13, 13⟩ : ExceptionTableEntry)] (⟨0, 10, 17, 19⟩ : ExceptionTableEntry) [] htab (fun z hz => by rw [List.mem_singleton.mp hz]; exact Or.inr ⟨by decide, _, hts (.classLink RL 13 "java/lang/IllegalArgumentException") (by decide +kernel), hZ.2.2.1⟩) (by decide) (by decide) (hts (.classLink RL 19 "java/lang/IllegalStateException") (by decide +kernel)) (am_zw_use (w := .castable "java/lang/IllegalStateException" "java/lang/IllegalStateException") (by decide +kernel) (hZ.2.1.2.2.1 _ (by decide +kernel))) hce hcv hcl ?_
      refine lv_astore hx hb0 dL_restore_17 hlv (by decide) rfl (fun ls hlv => ?_)
      refine lv_iconst (v := Int32.ofInt 2) hx hb0 dL_restore_19 rfl ?_
      exact W.iret hx hb0 hr (fun t ht _ => ⟨⟨_, (v, σ), rfl, ⟨2, rfl, Or.inr ⟨"java/lang/IllegalStateException", Or.inr ⟨rfl, hE⟩, rfl, rfl, by decide⟩⟩, by rw [ht]; exact hWx, by rw [ht]; exact hO1⟩, hS1.F ht⟩) hS1.2.2 dL_restore_20 hlk
  · intro r9 u t H1 locs1 ht hvm hp hB hz hk hS1
    obtain ⟨r, rfl, hp⟩ := hp
    rw [ht] at hB
    have hO1 : lO cJ o v H1 := (hk o hoH hZ.2.2.2.2).trans hO
    refine lv_i2l hx hb0 dL_restore_8 rfl ?_
    refine W.last (cell := arrV cJ 1 (fun _ => .long v)) (a := o) (j := Int32.ofInt 0) (x := (Int32.ofInt r).toInt64) hx hb0 hO1 (hZ.2.2.2.1 1 (fun _ => .long v)) (fun q => by cases q) (by show ¬ (_ ∨ (arrV _ _ _).slots.size ≤ _); rw [arrV_size]; decide) rfl rfl dL_restore_9 fun H2 e2 z2 oq2 => ?_
    have hO2 : lO cJ o (Int32.ofInt r).toInt64 H2 := e2.trans (congrArg some lO_set)
    have hB2 : am_wd (gC g) u H2 := hB.kept (fun q hq => oq2 q (fun e => hZ.2.2.2.2 (e ▸ hq)))
    have hS2 := hS1.put (k := (Int32.ofInt 0).toNatClampNeg) z2 oq2 (Or.inr rfl : lA g o o)
    refine lv_goto (tgt := 21) hx hb0 dL_restore_10 (by first | decide | rfl) ?_
    refine lv_iconst (v := Int32.ofInt 0) hx hb0 dL_restore_21 rfl ?_
    exact W.iret hx hb0 hr (fun t ht _ => ⟨⟨_, ((Int32.ofInt r).toInt64, u), rfl, ⟨0, rfl, Or.inl ⟨rfl, r, rfl, hp⟩⟩, by rw [ht]; exact hB2, by rw [ht]; exact hO2⟩, hS2.F ht⟩) hS2.2.2 dL_restore_22 hlk

set_option maxRecDepth 100000 in
set_option maxHeartbeats 4000000 in
/-- the law's pass -/
theorem w_pass (l : Launch) (hl : l.stackTraces = false) (g : am_g) (hI : am_inj (gC g)) (cJ : ClassId) (o : Nat) (v : Int64) (σ : am_M) (p1 : Int) (hp1 : -2147483648 ≤ p1 ∧ p1 < 2147483648) (S : ab_S) (b : Int) (hC : ab_C S σ) (hS : ab_I S b) (hb : b + 9600 ≤ 100000000) : Met l yL_pass wsL_pass ({ frames := 7, cells := 1, slots := 6, locals := 157 }) (lP g cJ o v σ (.ref (g.2.2 0 0) :: .int (Int32.ofInt p1) :: [.ref o])) (lQ g cJ o (fun k v' σ' => (k = 0 ∧ ∃ r : Int, v' = (Int32.ofInt r).toInt64 ∧ (fun r σ' => (1 ≤ p1 ∧ p1 ≤ 200) ∧ S 19 3 + p1 ≤ 100000 ∧ ab_C (ab_pass S p1.toNat) σ' ∧ r = ab_passC S p1.toNat) r σ') ∨ (∃ E, (fun E => (E = "java/lang/IllegalArgumentException" ∧ ¬ (1 ≤ p1 ∧ p1 ≤ 200)) ∨ (E = "java/lang/IllegalStateException" ∧ (1 ≤ p1 ∧ p1 ≤ 200) ∧ ¬ S 19 3 + p1 ≤ 100000)) E ∧ σ' = σ ∧ v' = v ∧ k = lK E))) 1 6 (lA g o) := by
  refine lq_start (cc := cL_pass) (nL := 4) (hh := [(0, 9, 12, 13), (0, 9, 15, 19)]) (by decide) rfl rfl (Nat.le_of_ble_eq_true rfl) ?_
  intro p e s m below meth c C hW hO ls hlv
  obtain ⟨hx, hb0, hml, hown, hts, hZ, htab, hr, hlk⟩ := C
  have hlv : lv_has ls 4 [(0, .ref (g.2.2 0 0)), (1, .int (Int32.ofInt p1)), (2, .ref o)] := hlv
  have hoH : o < s.heap.size := (Array.getElem?_eq_some_iff.mp hO).1
  refine lv_aload_n hx hb0 dL_pass_0 rfl (lv_at hlv 2 rfl) ?_
  refine lv_iconst (v := Int32.ofInt 0) hx hb0 dL_pass_1 rfl ?_
  refine lv_aload_n hx hb0 dL_pass_2 rfl (lv_at hlv 0 rfl) ?_
  refine lv_iload_n hx hb0 dL_pass_3 rfl (lv_at hlv 1 rfl) ?_
  refine vx_calli (A0 := lA g o) (vx_runV (As := [.int (Int32.ofInt p1)]) (rest := [.int (Int32.ofInt 0), .ref o]) ⟨hx, hb0, hml, hown, hts⟩ (c_X5_pass l hl g hI σ p1 hp1 S b hC hS hb) (cwV 1 hts gL_pass_X5_pass rfl rfl rfl (by decide +kernel) ⟨Nat.le_of_ble_eq_true rfl, Nat.le_of_ble_eq_true rfl⟩) ⟨am_blindX (gC g) σ [.inr (0, 0), .inl p1], va_recv hZ.1.1 (am_one hW (k := 0) (i := 0) (show 0 < (1:Nat) by decide) rfl) (ci := 5) rfl (q0 := 0) rfl, fun U hU hW9 => ⟨rfl, by rw [hU]; exact hW, am_K.warm hW9 hZ.1, by rw [hU]; exact am_Z.go hW9 (hZ.2.1.narrow (fun _ h => Or.inl h)) (fun _ _ _ => rfl)⟩⟩ rfl rfl hlv.1 rfl (lv_room (Nat.le_of_ble_eq_true rfl)) dL_pass_4 ⟨Nat.le_of_ble_eq_true rfl, Nat.le_of_ble_eq_true rfl⟩) va_S.rf (fun q _ h => Or.inl h) (fun q h => Or.inl h) (fun q _ h => Or.inl h) ?_ ?_
  · intro E ce q9 u t H1 locs1 ht hvm hp hB hz hk hS1 hce hcv hcl
    obtain ⟨hWx, hEx⟩ := hB
    rw [ht] at hWx
    have hO1 : lO cJ o v H1 := (hk o hoH hZ.2.2.2.2).trans hO
    rcases hEx with ⟨rfl, hE⟩ | ⟨rfl, hE⟩
    · refine vx_catch (E := "java/lang/IllegalArgumentException") (name := "java/lang/IllegalArgumentException") hown [] (⟨0, 9, 12, 13⟩ : ExceptionTableEntry) [(⟨0, 9, 15, 19⟩ : ExceptionTableEntry)] htab (fun z hz => absurd hz List.not_mem_nil) (by decide) (by decide) (hts (.classLink RL 13 "java/lang/IllegalArgumentException") (by decide +kernel)) (am_zw_use (w := .castable "java/lang/IllegalArgumentException" "java/lang/IllegalArgumentException") (by decide +kernel) (hZ.2.1.2.2.1 _ (by decide +kernel))) hce hcv hcl ?_
      refine lv_astore_n hx hb0 dL_pass_12 rfl hlv (by decide) rfl (fun ls hlv => ?_)
      refine lv_iconst (v := Int32.ofInt 1) hx hb0 dL_pass_13 rfl ?_
      exact W.iret hx hb0 hr (fun t ht _ => ⟨⟨_, (v, σ), rfl, ⟨1, rfl, Or.inr ⟨"java/lang/IllegalArgumentException", Or.inl ⟨rfl, hE⟩, rfl, rfl, by decide⟩⟩, by rw [ht]; exact hWx, by rw [ht]; exact hO1⟩, hS1.F ht⟩) hS1.2.2 dL_pass_14 hlk
    · refine vx_catch (E := "java/lang/IllegalStateException") (name := "java/lang/IllegalStateException") hown [(⟨0, 9, 12, 13⟩ : ExceptionTableEntry)] (⟨0, 9, 15, 19⟩ : ExceptionTableEntry) [] htab (fun z hz => by rw [List.mem_singleton.mp hz]; exact Or.inr ⟨by decide, _, hts (.classLink RL 13 "java/lang/IllegalArgumentException") (by decide +kernel), hZ.2.2.1⟩) (by decide) (by decide) (hts (.classLink RL 19 "java/lang/IllegalStateException") (by decide +kernel)) (am_zw_use (w := .castable "java/lang/IllegalStateException" "java/lang/IllegalStateException") (by decide +kernel) (hZ.2.1.2.2.1 _ (by decide +kernel))) hce hcv hcl ?_
      refine lv_astore_n hx hb0 dL_pass_15 rfl hlv (by decide) rfl (fun ls hlv => ?_)
      refine lv_iconst (v := Int32.ofInt 2) hx hb0 dL_pass_16 rfl ?_
      exact W.iret hx hb0 hr (fun t ht _ => ⟨⟨_, (v, σ), rfl, ⟨2, rfl, Or.inr ⟨"java/lang/IllegalStateException", Or.inr ⟨rfl, hE⟩, rfl, rfl, by decide⟩⟩, by rw [ht]; exact hWx, by rw [ht]; exact hO1⟩, hS1.F ht⟩) hS1.2.2 dL_pass_17 hlk
  · intro r9 u t H1 locs1 ht hvm hp hB hz hk hS1
    obtain ⟨r, rfl, hp⟩ := hp
    rw [ht] at hB
    have hO1 : lO cJ o v H1 := (hk o hoH hZ.2.2.2.2).trans hO
    refine lv_i2l hx hb0 dL_pass_7 rfl ?_
    refine W.last (cell := arrV cJ 1 (fun _ => .long v)) (a := o) (j := Int32.ofInt 0) (x := (Int32.ofInt r).toInt64) hx hb0 hO1 (hZ.2.2.2.1 1 (fun _ => .long v)) (fun q => by cases q) (by show ¬ (_ ∨ (arrV _ _ _).slots.size ≤ _); rw [arrV_size]; decide) rfl rfl dL_pass_8 fun H2 e2 z2 oq2 => ?_
    have hO2 : lO cJ o (Int32.ofInt r).toInt64 H2 := e2.trans (congrArg some lO_set)
    have hB2 : am_wd (gC g) u H2 := hB.kept (fun q hq => oq2 q (fun e => hZ.2.2.2.2 (e ▸ hq)))
    have hS2 := hS1.put (k := (Int32.ofInt 0).toNatClampNeg) z2 oq2 (Or.inr rfl : lA g o o)
    refine lv_goto (tgt := 18) hx hb0 dL_pass_9 (by first | decide | rfl) ?_
    refine lv_iconst (v := Int32.ofInt 0) hx hb0 dL_pass_18 rfl ?_
    exact W.iret hx hb0 hr (fun t ht _ => ⟨⟨_, ((Int32.ofInt r).toInt64, u), rfl, ⟨0, rfl, Or.inl ⟨rfl, r, rfl, hp⟩⟩, by rw [ht]; exact hB2, by rw [ht]; exact hO2⟩, hS2.F ht⟩) hS2.2.2 dL_pass_19 hlk

set_option maxRecDepth 100000 in
set_option maxHeartbeats 4000000 in
/-- the law's sent -/
theorem w_sent (l : Launch) (hl : l.stackTraces = false) (g : am_g) (hI : am_inj (gC g)) (cJ : ClassId) (o : Nat) (v : Int64) (σ : am_M) (p1 : Int) (hp1 : -2147483648 ≤ p1 ∧ p1 < 2147483648) (S : ab_S) (b : Int) (hC : ab_C S σ) (hS : ab_I S b) : Met l yL_sent wsL_sent ({ frames := 8, cells := 1, slots := 6, locals := 124 }) (lP g cJ o v σ (.ref (g.2.2 0 0) :: .int (Int32.ofInt p1) :: [.ref o])) (lQ g cJ o (fun k v' σ' => (k = 0 ∧ ∃ r : Int, v' = (Int32.ofInt r).toInt64 ∧ (fun r σ' => σ' = σ ∧ (0 ≤ p1 ∧ p1 < S 19 4) ∧ r = S 4 p1.toNat) r σ') ∨ (∃ E, (fun E => E = "java/lang/IndexOutOfBoundsException" ∧ ¬ (0 ≤ p1 ∧ p1 < S 19 4)) E ∧ σ' = σ ∧ v' = v ∧ k = lK E))) 1 6 (lA g o) := by
  refine lq_start (cc := cL_sent) (nL := 4) (hh := [(0, 9, 12, 35)]) (by decide) rfl rfl (Nat.le_of_ble_eq_true rfl) ?_
  intro p e s m below meth c C hW hO ls hlv
  obtain ⟨hx, hb0, hml, hown, hts, hZ, htab, hr, hlk⟩ := C
  have hlv : lv_has ls 4 [(0, .ref (g.2.2 0 0)), (1, .int (Int32.ofInt p1)), (2, .ref o)] := hlv
  have hoH : o < s.heap.size := (Array.getElem?_eq_some_iff.mp hO).1
  refine lv_aload_n hx hb0 dL_sent_0 rfl (lv_at hlv 2 rfl) ?_
  refine lv_iconst (v := Int32.ofInt 0) hx hb0 dL_sent_1 rfl ?_
  refine lv_aload_n hx hb0 dL_sent_2 rfl (lv_at hlv 0 rfl) ?_
  refine lv_iload_n hx hb0 dL_sent_3 rfl (lv_at hlv 1 rfl) ?_
  refine vx_calli (A0 := lA g o) (vx_runV (As := [.int (Int32.ofInt p1)]) (rest := [.int (Int32.ofInt 0), .ref o]) ⟨hx, hb0, hml, hown, hts⟩ (c_X5_sent l hl g hI σ p1 hp1 S b hC hS) (cwV 1 hts gL_sent_X5_sent rfl rfl rfl (by decide +kernel) ⟨Nat.le_of_ble_eq_true rfl, Nat.le_of_ble_eq_true rfl⟩) ⟨am_blindX (gC g) σ [.inr (0, 0), .inl p1], va_recv hZ.1.1 (am_one hW (k := 0) (i := 0) (show 0 < (1:Nat) by decide) rfl) (ci := 5) rfl (q0 := 0) rfl, fun U hU hW9 => ⟨rfl, by rw [hU]; exact hW, am_K.warm hW9 hZ.1, by rw [hU]; exact am_Z.go hW9 (hZ.2.1.narrow (fun _ h => Or.inl h)) (fun _ _ _ => rfl)⟩⟩ rfl rfl hlv.1 rfl (lv_room (Nat.le_of_ble_eq_true rfl)) dL_sent_4 ⟨Nat.le_of_ble_eq_true rfl, Nat.le_of_ble_eq_true rfl⟩) va_S.rf (fun q _ h => Or.inl h) (fun q h => Or.inl h) (fun q _ h => Or.inl h) ?_ ?_
  · intro E ce q9 u t H1 locs1 ht hvm hp hB hz hk hS1 hce hcv hcl
    obtain ⟨hWx, hEx⟩ := hB
    rw [ht] at hWx
    have hO1 : lO cJ o v H1 := (hk o hoH hZ.2.2.2.2).trans hO
    obtain ⟨rfl, hE⟩ := hEx
    refine vx_catch (E := "java/lang/IndexOutOfBoundsException") (name := "java/lang/IndexOutOfBoundsException") hown [] (⟨0, 9, 12, 35⟩ : ExceptionTableEntry) [] htab (fun z hz => absurd hz List.not_mem_nil) (by decide) (by decide) (hts (.classLink RL 35 "java/lang/IndexOutOfBoundsException") (by decide +kernel)) (am_zw_use (w := .castable "java/lang/IndexOutOfBoundsException" "java/lang/IndexOutOfBoundsException") (by decide +kernel) (hZ.2.1.2.2.1 _ (by decide +kernel))) hce hcv hcl ?_
    refine lv_astore_n hx hb0 dL_sent_12 rfl hlv (by decide) rfl (fun ls hlv => ?_)
    refine lv_iconst (v := Int32.ofInt 1) hx hb0 dL_sent_13 rfl ?_
    exact W.iret hx hb0 hr (fun t ht _ => ⟨⟨_, (v, σ), rfl, ⟨1, rfl, Or.inr ⟨"java/lang/IndexOutOfBoundsException", ⟨rfl, hE⟩, rfl, rfl, by decide⟩⟩, by rw [ht]; exact hWx, by rw [ht]; exact hO1⟩, hS1.F ht⟩) hS1.2.2 dL_sent_14 hlk
  · intro r9 u t H1 locs1 ht hvm hp hB hz hk hS1
    obtain ⟨r, rfl, hp⟩ := hp
    rw [ht] at hB
    have hO1 : lO cJ o v H1 := (hk o hoH hZ.2.2.2.2).trans hO
    refine lv_i2l hx hb0 dL_sent_7 rfl ?_
    refine W.last (cell := arrV cJ 1 (fun _ => .long v)) (a := o) (j := Int32.ofInt 0) (x := (Int32.ofInt r).toInt64) hx hb0 hO1 (hZ.2.2.2.1 1 (fun _ => .long v)) (fun q => by cases q) (by show ¬ (_ ∨ (arrV _ _ _).slots.size ≤ _); rw [arrV_size]; decide) rfl rfl dL_sent_8 fun H2 e2 z2 oq2 => ?_
    have hO2 : lO cJ o (Int32.ofInt r).toInt64 H2 := e2.trans (congrArg some lO_set)
    have hB2 : am_wd (gC g) u H2 := hB.kept (fun q hq => oq2 q (fun e => hZ.2.2.2.2 (e ▸ hq)))
    have hS2 := hS1.put (k := (Int32.ofInt 0).toNatClampNeg) z2 oq2 (Or.inr rfl : lA g o o)
    refine lv_goto (tgt := 15) hx hb0 dL_sent_9 (by first | decide | rfl) ?_
    refine lv_iconst (v := Int32.ofInt 0) hx hb0 dL_sent_15 rfl ?_
    exact W.iret hx hb0 hr (fun t ht _ => ⟨⟨_, ((Int32.ofInt r).toInt64, u), rfl, ⟨0, rfl, Or.inl ⟨rfl, r, rfl, hp⟩⟩, by rw [ht]; exact hB2, by rw [ht]; exact hO2⟩, hS2.F ht⟩) hS2.2.2 dL_sent_16 hlk

set_option maxRecDepth 100000 in
set_option maxHeartbeats 4000000 in
/-- the law's delivered -/
theorem w_delivered (l : Launch) (hl : l.stackTraces = false) (g : am_g) (hI : am_inj (gC g)) (cJ : ClassId) (o : Nat) (v : Int64) (σ : am_M) (p1 : Int) (hp1 : -2147483648 ≤ p1 ∧ p1 < 2147483648) (S : ab_S) (b : Int) (hC : ab_C S σ) (hS : ab_I S b) : Met l yL_delivered wsL_delivered ({ frames := 8, cells := 1, slots := 6, locals := 124 }) (lP g cJ o v σ (.ref (g.2.2 0 0) :: .int (Int32.ofInt p1) :: [.ref o])) (lQ g cJ o (fun k v' σ' => (k = 0 ∧ ∃ r : Int, v' = (Int32.ofInt r).toInt64 ∧ (fun r σ' => σ' = σ ∧ (0 ≤ p1 ∧ p1 < S 19 4) ∧ r = S 5 p1.toNat) r σ') ∨ (∃ E, (fun E => E = "java/lang/IndexOutOfBoundsException" ∧ ¬ (0 ≤ p1 ∧ p1 < S 19 4)) E ∧ σ' = σ ∧ v' = v ∧ k = lK E))) 1 6 (lA g o) := by
  refine lq_start (cc := cL_delivered) (nL := 4) (hh := [(0, 9, 12, 35)]) (by decide) rfl rfl (Nat.le_of_ble_eq_true rfl) ?_
  intro p e s m below meth c C hW hO ls hlv
  obtain ⟨hx, hb0, hml, hown, hts, hZ, htab, hr, hlk⟩ := C
  have hlv : lv_has ls 4 [(0, .ref (g.2.2 0 0)), (1, .int (Int32.ofInt p1)), (2, .ref o)] := hlv
  have hoH : o < s.heap.size := (Array.getElem?_eq_some_iff.mp hO).1
  refine lv_aload_n hx hb0 dL_delivered_0 rfl (lv_at hlv 2 rfl) ?_
  refine lv_iconst (v := Int32.ofInt 0) hx hb0 dL_delivered_1 rfl ?_
  refine lv_aload_n hx hb0 dL_delivered_2 rfl (lv_at hlv 0 rfl) ?_
  refine lv_iload_n hx hb0 dL_delivered_3 rfl (lv_at hlv 1 rfl) ?_
  refine vx_calli (A0 := lA g o) (vx_runV (As := [.int (Int32.ofInt p1)]) (rest := [.int (Int32.ofInt 0), .ref o]) ⟨hx, hb0, hml, hown, hts⟩ (c_X5_delivered l hl g hI σ p1 hp1 S b hC hS) (cwV 1 hts gL_delivered_X5_delivered rfl rfl rfl (by decide +kernel) ⟨Nat.le_of_ble_eq_true rfl, Nat.le_of_ble_eq_true rfl⟩) ⟨am_blindX (gC g) σ [.inr (0, 0), .inl p1], va_recv hZ.1.1 (am_one hW (k := 0) (i := 0) (show 0 < (1:Nat) by decide) rfl) (ci := 5) rfl (q0 := 0) rfl, fun U hU hW9 => ⟨rfl, by rw [hU]; exact hW, am_K.warm hW9 hZ.1, by rw [hU]; exact am_Z.go hW9 (hZ.2.1.narrow (fun _ h => Or.inl h)) (fun _ _ _ => rfl)⟩⟩ rfl rfl hlv.1 rfl (lv_room (Nat.le_of_ble_eq_true rfl)) dL_delivered_4 ⟨Nat.le_of_ble_eq_true rfl, Nat.le_of_ble_eq_true rfl⟩) va_S.rf (fun q _ h => Or.inl h) (fun q h => Or.inl h) (fun q _ h => Or.inl h) ?_ ?_
  · intro E ce q9 u t H1 locs1 ht hvm hp hB hz hk hS1 hce hcv hcl
    obtain ⟨hWx, hEx⟩ := hB
    rw [ht] at hWx
    have hO1 : lO cJ o v H1 := (hk o hoH hZ.2.2.2.2).trans hO
    obtain ⟨rfl, hE⟩ := hEx
    refine vx_catch (E := "java/lang/IndexOutOfBoundsException") (name := "java/lang/IndexOutOfBoundsException") hown [] (⟨0, 9, 12, 35⟩ : ExceptionTableEntry) [] htab (fun z hz => absurd hz List.not_mem_nil) (by decide) (by decide) (hts (.classLink RL 35 "java/lang/IndexOutOfBoundsException") (by decide +kernel)) (am_zw_use (w := .castable "java/lang/IndexOutOfBoundsException" "java/lang/IndexOutOfBoundsException") (by decide +kernel) (hZ.2.1.2.2.1 _ (by decide +kernel))) hce hcv hcl ?_
    refine lv_astore_n hx hb0 dL_delivered_12 rfl hlv (by decide) rfl (fun ls hlv => ?_)
    refine lv_iconst (v := Int32.ofInt 1) hx hb0 dL_delivered_13 rfl ?_
    exact W.iret hx hb0 hr (fun t ht _ => ⟨⟨_, (v, σ), rfl, ⟨1, rfl, Or.inr ⟨"java/lang/IndexOutOfBoundsException", ⟨rfl, hE⟩, rfl, rfl, by decide⟩⟩, by rw [ht]; exact hWx, by rw [ht]; exact hO1⟩, hS1.F ht⟩) hS1.2.2 dL_delivered_14 hlk
  · intro r9 u t H1 locs1 ht hvm hp hB hz hk hS1
    obtain ⟨r, rfl, hp⟩ := hp
    rw [ht] at hB
    have hO1 : lO cJ o v H1 := (hk o hoH hZ.2.2.2.2).trans hO
    refine lv_i2l hx hb0 dL_delivered_7 rfl ?_
    refine W.last (cell := arrV cJ 1 (fun _ => .long v)) (a := o) (j := Int32.ofInt 0) (x := (Int32.ofInt r).toInt64) hx hb0 hO1 (hZ.2.2.2.1 1 (fun _ => .long v)) (fun q => by cases q) (by show ¬ (_ ∨ (arrV _ _ _).slots.size ≤ _); rw [arrV_size]; decide) rfl rfl dL_delivered_8 fun H2 e2 z2 oq2 => ?_
    have hO2 : lO cJ o (Int32.ofInt r).toInt64 H2 := e2.trans (congrArg some lO_set)
    have hB2 : am_wd (gC g) u H2 := hB.kept (fun q hq => oq2 q (fun e => hZ.2.2.2.2 (e ▸ hq)))
    have hS2 := hS1.put (k := (Int32.ofInt 0).toNatClampNeg) z2 oq2 (Or.inr rfl : lA g o o)
    refine lv_goto (tgt := 15) hx hb0 dL_delivered_9 (by first | decide | rfl) ?_
    refine lv_iconst (v := Int32.ofInt 0) hx hb0 dL_delivered_15 rfl ?_
    exact W.iret hx hb0 hr (fun t ht _ => ⟨⟨_, ((Int32.ofInt r).toInt64, u), rfl, ⟨0, rfl, Or.inl ⟨rfl, r, rfl, hp⟩⟩, by rw [ht]; exact hB2, by rw [ht]; exact hO2⟩, hS2.F ht⟩) hS2.2.2 dL_delivered_16 hlk

set_option maxRecDepth 100000 in
set_option maxHeartbeats 4000000 in
/-- the law's lost -/
theorem w_lost (l : Launch) (hl : l.stackTraces = false) (g : am_g) (hI : am_inj (gC g)) (cJ : ClassId) (o : Nat) (v : Int64) (σ : am_M) (p1 : Int) (hp1 : -2147483648 ≤ p1 ∧ p1 < 2147483648) (S : ab_S) (b : Int) (hC : ab_C S σ) (hS : ab_I S b) : Met l yL_lost wsL_lost ({ frames := 8, cells := 1, slots := 6, locals := 124 }) (lP g cJ o v σ (.ref (g.2.2 0 0) :: .int (Int32.ofInt p1) :: [.ref o])) (lQ g cJ o (fun k v' σ' => (k = 0 ∧ ∃ r : Int, v' = (Int32.ofInt r).toInt64 ∧ (fun r σ' => σ' = σ ∧ (0 ≤ p1 ∧ p1 < S 19 4) ∧ r = S 6 p1.toNat) r σ') ∨ (∃ E, (fun E => E = "java/lang/IndexOutOfBoundsException" ∧ ¬ (0 ≤ p1 ∧ p1 < S 19 4)) E ∧ σ' = σ ∧ v' = v ∧ k = lK E))) 1 6 (lA g o) := by
  refine lq_start (cc := cL_lost) (nL := 4) (hh := [(0, 9, 12, 35)]) (by decide) rfl rfl (Nat.le_of_ble_eq_true rfl) ?_
  intro p e s m below meth c C hW hO ls hlv
  obtain ⟨hx, hb0, hml, hown, hts, hZ, htab, hr, hlk⟩ := C
  have hlv : lv_has ls 4 [(0, .ref (g.2.2 0 0)), (1, .int (Int32.ofInt p1)), (2, .ref o)] := hlv
  have hoH : o < s.heap.size := (Array.getElem?_eq_some_iff.mp hO).1
  refine lv_aload_n hx hb0 dL_lost_0 rfl (lv_at hlv 2 rfl) ?_
  refine lv_iconst (v := Int32.ofInt 0) hx hb0 dL_lost_1 rfl ?_
  refine lv_aload_n hx hb0 dL_lost_2 rfl (lv_at hlv 0 rfl) ?_
  refine lv_iload_n hx hb0 dL_lost_3 rfl (lv_at hlv 1 rfl) ?_
  refine vx_calli (A0 := lA g o) (vx_runV (As := [.int (Int32.ofInt p1)]) (rest := [.int (Int32.ofInt 0), .ref o]) ⟨hx, hb0, hml, hown, hts⟩ (c_X5_lost l hl g hI σ p1 hp1 S b hC hS) (cwV 1 hts gL_lost_X5_lost rfl rfl rfl (by decide +kernel) ⟨Nat.le_of_ble_eq_true rfl, Nat.le_of_ble_eq_true rfl⟩) ⟨am_blindX (gC g) σ [.inr (0, 0), .inl p1], va_recv hZ.1.1 (am_one hW (k := 0) (i := 0) (show 0 < (1:Nat) by decide) rfl) (ci := 5) rfl (q0 := 0) rfl, fun U hU hW9 => ⟨rfl, by rw [hU]; exact hW, am_K.warm hW9 hZ.1, by rw [hU]; exact am_Z.go hW9 (hZ.2.1.narrow (fun _ h => Or.inl h)) (fun _ _ _ => rfl)⟩⟩ rfl rfl hlv.1 rfl (lv_room (Nat.le_of_ble_eq_true rfl)) dL_lost_4 ⟨Nat.le_of_ble_eq_true rfl, Nat.le_of_ble_eq_true rfl⟩) va_S.rf (fun q _ h => Or.inl h) (fun q h => Or.inl h) (fun q _ h => Or.inl h) ?_ ?_
  · intro E ce q9 u t H1 locs1 ht hvm hp hB hz hk hS1 hce hcv hcl
    obtain ⟨hWx, hEx⟩ := hB
    rw [ht] at hWx
    have hO1 : lO cJ o v H1 := (hk o hoH hZ.2.2.2.2).trans hO
    obtain ⟨rfl, hE⟩ := hEx
    refine vx_catch (E := "java/lang/IndexOutOfBoundsException") (name := "java/lang/IndexOutOfBoundsException") hown [] (⟨0, 9, 12, 35⟩ : ExceptionTableEntry) [] htab (fun z hz => absurd hz List.not_mem_nil) (by decide) (by decide) (hts (.classLink RL 35 "java/lang/IndexOutOfBoundsException") (by decide +kernel)) (am_zw_use (w := .castable "java/lang/IndexOutOfBoundsException" "java/lang/IndexOutOfBoundsException") (by decide +kernel) (hZ.2.1.2.2.1 _ (by decide +kernel))) hce hcv hcl ?_
    refine lv_astore_n hx hb0 dL_lost_12 rfl hlv (by decide) rfl (fun ls hlv => ?_)
    refine lv_iconst (v := Int32.ofInt 1) hx hb0 dL_lost_13 rfl ?_
    exact W.iret hx hb0 hr (fun t ht _ => ⟨⟨_, (v, σ), rfl, ⟨1, rfl, Or.inr ⟨"java/lang/IndexOutOfBoundsException", ⟨rfl, hE⟩, rfl, rfl, by decide⟩⟩, by rw [ht]; exact hWx, by rw [ht]; exact hO1⟩, hS1.F ht⟩) hS1.2.2 dL_lost_14 hlk
  · intro r9 u t H1 locs1 ht hvm hp hB hz hk hS1
    obtain ⟨r, rfl, hp⟩ := hp
    rw [ht] at hB
    have hO1 : lO cJ o v H1 := (hk o hoH hZ.2.2.2.2).trans hO
    refine lv_i2l hx hb0 dL_lost_7 rfl ?_
    refine W.last (cell := arrV cJ 1 (fun _ => .long v)) (a := o) (j := Int32.ofInt 0) (x := (Int32.ofInt r).toInt64) hx hb0 hO1 (hZ.2.2.2.1 1 (fun _ => .long v)) (fun q => by cases q) (by show ¬ (_ ∨ (arrV _ _ _).slots.size ≤ _); rw [arrV_size]; decide) rfl rfl dL_lost_8 fun H2 e2 z2 oq2 => ?_
    have hO2 : lO cJ o (Int32.ofInt r).toInt64 H2 := e2.trans (congrArg some lO_set)
    have hB2 : am_wd (gC g) u H2 := hB.kept (fun q hq => oq2 q (fun e => hZ.2.2.2.2 (e ▸ hq)))
    have hS2 := hS1.put (k := (Int32.ofInt 0).toNatClampNeg) z2 oq2 (Or.inr rfl : lA g o o)
    refine lv_goto (tgt := 15) hx hb0 dL_lost_9 (by first | decide | rfl) ?_
    refine lv_iconst (v := Int32.ofInt 0) hx hb0 dL_lost_15 rfl ?_
    exact W.iret hx hb0 hr (fun t ht _ => ⟨⟨_, ((Int32.ofInt r).toInt64, u), rfl, ⟨0, rfl, Or.inl ⟨rfl, r, rfl, hp⟩⟩, by rw [ht]; exact hB2, by rw [ht]; exact hO2⟩, hS2.F ht⟩) hS2.2.2 dL_lost_16 hlk

set_option maxRecDepth 100000 in
set_option maxHeartbeats 4000000 in
/-- the law's outOfOrder -/
theorem w_outOfOrder (l : Launch) (hl : l.stackTraces = false) (g : am_g) (hI : am_inj (gC g)) (cJ : ClassId) (o : Nat) (v : Int64) (σ : am_M) (p1 : Int) (hp1 : -2147483648 ≤ p1 ∧ p1 < 2147483648) (S : ab_S) (b : Int) (hC : ab_C S σ) (hS : ab_I S b) : Met l yL_outOfOrder wsL_outOfOrder ({ frames := 8, cells := 1, slots := 6, locals := 124 }) (lP g cJ o v σ (.ref (g.2.2 0 0) :: .int (Int32.ofInt p1) :: [.ref o])) (lQ g cJ o (fun k v' σ' => (k = 0 ∧ ∃ r : Int, v' = (Int32.ofInt r).toInt64 ∧ (fun r σ' => σ' = σ ∧ (0 ≤ p1 ∧ p1 < S 19 4) ∧ r = S 7 p1.toNat) r σ') ∨ (∃ E, (fun E => E = "java/lang/IndexOutOfBoundsException" ∧ ¬ (0 ≤ p1 ∧ p1 < S 19 4)) E ∧ σ' = σ ∧ v' = v ∧ k = lK E))) 1 6 (lA g o) := by
  refine lq_start (cc := cL_outOfOrder) (nL := 4) (hh := [(0, 9, 12, 35)]) (by decide) rfl rfl (Nat.le_of_ble_eq_true rfl) ?_
  intro p e s m below meth c C hW hO ls hlv
  obtain ⟨hx, hb0, hml, hown, hts, hZ, htab, hr, hlk⟩ := C
  have hlv : lv_has ls 4 [(0, .ref (g.2.2 0 0)), (1, .int (Int32.ofInt p1)), (2, .ref o)] := hlv
  have hoH : o < s.heap.size := (Array.getElem?_eq_some_iff.mp hO).1
  refine lv_aload_n hx hb0 dL_outOfOrder_0 rfl (lv_at hlv 2 rfl) ?_
  refine lv_iconst (v := Int32.ofInt 0) hx hb0 dL_outOfOrder_1 rfl ?_
  refine lv_aload_n hx hb0 dL_outOfOrder_2 rfl (lv_at hlv 0 rfl) ?_
  refine lv_iload_n hx hb0 dL_outOfOrder_3 rfl (lv_at hlv 1 rfl) ?_
  refine vx_calli (A0 := lA g o) (vx_runV (As := [.int (Int32.ofInt p1)]) (rest := [.int (Int32.ofInt 0), .ref o]) ⟨hx, hb0, hml, hown, hts⟩ (c_X5_outOfOrder l hl g hI σ p1 hp1 S b hC hS) (cwV 1 hts gL_outOfOrder_X5_outOfOrder rfl rfl rfl (by decide +kernel) ⟨Nat.le_of_ble_eq_true rfl, Nat.le_of_ble_eq_true rfl⟩) ⟨am_blindX (gC g) σ [.inr (0, 0), .inl p1], va_recv hZ.1.1 (am_one hW (k := 0) (i := 0) (show 0 < (1:Nat) by decide) rfl) (ci := 5) rfl (q0 := 0) rfl, fun U hU hW9 => ⟨rfl, by rw [hU]; exact hW, am_K.warm hW9 hZ.1, by rw [hU]; exact am_Z.go hW9 (hZ.2.1.narrow (fun _ h => Or.inl h)) (fun _ _ _ => rfl)⟩⟩ rfl rfl hlv.1 rfl (lv_room (Nat.le_of_ble_eq_true rfl)) dL_outOfOrder_4 ⟨Nat.le_of_ble_eq_true rfl, Nat.le_of_ble_eq_true rfl⟩) va_S.rf (fun q _ h => Or.inl h) (fun q h => Or.inl h) (fun q _ h => Or.inl h) ?_ ?_
  · intro E ce q9 u t H1 locs1 ht hvm hp hB hz hk hS1 hce hcv hcl
    obtain ⟨hWx, hEx⟩ := hB
    rw [ht] at hWx
    have hO1 : lO cJ o v H1 := (hk o hoH hZ.2.2.2.2).trans hO
    obtain ⟨rfl, hE⟩ := hEx
    refine vx_catch (E := "java/lang/IndexOutOfBoundsException") (name := "java/lang/IndexOutOfBoundsException") hown [] (⟨0, 9, 12, 35⟩ : ExceptionTableEntry) [] htab (fun z hz => absurd hz List.not_mem_nil) (by decide) (by decide) (hts (.classLink RL 35 "java/lang/IndexOutOfBoundsException") (by decide +kernel)) (am_zw_use (w := .castable "java/lang/IndexOutOfBoundsException" "java/lang/IndexOutOfBoundsException") (by decide +kernel) (hZ.2.1.2.2.1 _ (by decide +kernel))) hce hcv hcl ?_
    refine lv_astore_n hx hb0 dL_outOfOrder_12 rfl hlv (by decide) rfl (fun ls hlv => ?_)
    refine lv_iconst (v := Int32.ofInt 1) hx hb0 dL_outOfOrder_13 rfl ?_
    exact W.iret hx hb0 hr (fun t ht _ => ⟨⟨_, (v, σ), rfl, ⟨1, rfl, Or.inr ⟨"java/lang/IndexOutOfBoundsException", ⟨rfl, hE⟩, rfl, rfl, by decide⟩⟩, by rw [ht]; exact hWx, by rw [ht]; exact hO1⟩, hS1.F ht⟩) hS1.2.2 dL_outOfOrder_14 hlk
  · intro r9 u t H1 locs1 ht hvm hp hB hz hk hS1
    obtain ⟨r, rfl, hp⟩ := hp
    rw [ht] at hB
    have hO1 : lO cJ o v H1 := (hk o hoH hZ.2.2.2.2).trans hO
    refine lv_i2l hx hb0 dL_outOfOrder_7 rfl ?_
    refine W.last (cell := arrV cJ 1 (fun _ => .long v)) (a := o) (j := Int32.ofInt 0) (x := (Int32.ofInt r).toInt64) hx hb0 hO1 (hZ.2.2.2.1 1 (fun _ => .long v)) (fun q => by cases q) (by show ¬ (_ ∨ (arrV _ _ _).slots.size ≤ _); rw [arrV_size]; decide) rfl rfl dL_outOfOrder_8 fun H2 e2 z2 oq2 => ?_
    have hO2 : lO cJ o (Int32.ofInt r).toInt64 H2 := e2.trans (congrArg some lO_set)
    have hB2 : am_wd (gC g) u H2 := hB.kept (fun q hq => oq2 q (fun e => hZ.2.2.2.2 (e ▸ hq)))
    have hS2 := hS1.put (k := (Int32.ofInt 0).toNatClampNeg) z2 oq2 (Or.inr rfl : lA g o o)
    refine lv_goto (tgt := 15) hx hb0 dL_outOfOrder_9 (by first | decide | rfl) ?_
    refine lv_iconst (v := Int32.ofInt 0) hx hb0 dL_outOfOrder_15 rfl ?_
    exact W.iret hx hb0 hr (fun t ht _ => ⟨⟨_, ((Int32.ofInt r).toInt64, u), rfl, ⟨0, rfl, Or.inl ⟨rfl, r, rfl, hp⟩⟩, by rw [ht]; exact hB2, by rw [ht]; exact hO2⟩, hS2.F ht⟩) hS2.2.2 dL_outOfOrder_16 hlk

set_option maxRecDepth 100000 in
set_option maxHeartbeats 4000000 in
/-- the law's doneIn -/
theorem w_doneIn (l : Launch) (hl : l.stackTraces = false) (g : am_g) (hI : am_inj (gC g)) (cJ : ClassId) (o : Nat) (v : Int64) (σ : am_M) (p1 : Int) (hp1 : -2147483648 ≤ p1 ∧ p1 < 2147483648) (S : ab_S) (b : Int) (hC : ab_C S σ) (hS : ab_I S b) : Met l yL_doneIn wsL_doneIn ({ frames := 8, cells := 1, slots := 6, locals := 124 }) (lP g cJ o v σ (.ref (g.2.2 0 0) :: .int (Int32.ofInt p1) :: [.ref o])) (lQ g cJ o (fun k v' σ' => (k = 0 ∧ ∃ r : Int, v' = (Int32.ofInt r).toInt64 ∧ (fun r σ' => σ' = σ ∧ (0 ≤ p1 ∧ p1 < S 19 4) ∧ r = S 9 p1.toNat) r σ') ∨ (∃ E, (fun E => E = "java/lang/IndexOutOfBoundsException" ∧ ¬ (0 ≤ p1 ∧ p1 < S 19 4)) E ∧ σ' = σ ∧ v' = v ∧ k = lK E))) 1 6 (lA g o) := by
  refine lq_start (cc := cL_doneIn) (nL := 4) (hh := [(0, 9, 12, 35)]) (by decide) rfl rfl (Nat.le_of_ble_eq_true rfl) ?_
  intro p e s m below meth c C hW hO ls hlv
  obtain ⟨hx, hb0, hml, hown, hts, hZ, htab, hr, hlk⟩ := C
  have hlv : lv_has ls 4 [(0, .ref (g.2.2 0 0)), (1, .int (Int32.ofInt p1)), (2, .ref o)] := hlv
  have hoH : o < s.heap.size := (Array.getElem?_eq_some_iff.mp hO).1
  refine lv_aload_n hx hb0 dL_doneIn_0 rfl (lv_at hlv 2 rfl) ?_
  refine lv_iconst (v := Int32.ofInt 0) hx hb0 dL_doneIn_1 rfl ?_
  refine lv_aload_n hx hb0 dL_doneIn_2 rfl (lv_at hlv 0 rfl) ?_
  refine lv_iload_n hx hb0 dL_doneIn_3 rfl (lv_at hlv 1 rfl) ?_
  refine vx_calli (A0 := lA g o) (vx_runV (As := [.int (Int32.ofInt p1)]) (rest := [.int (Int32.ofInt 0), .ref o]) ⟨hx, hb0, hml, hown, hts⟩ (c_X5_doneIn l hl g hI σ p1 hp1 S b hC hS) (cwV 1 hts gL_doneIn_X5_doneIn rfl rfl rfl (by decide +kernel) ⟨Nat.le_of_ble_eq_true rfl, Nat.le_of_ble_eq_true rfl⟩) ⟨am_blindX (gC g) σ [.inr (0, 0), .inl p1], va_recv hZ.1.1 (am_one hW (k := 0) (i := 0) (show 0 < (1:Nat) by decide) rfl) (ci := 5) rfl (q0 := 0) rfl, fun U hU hW9 => ⟨rfl, by rw [hU]; exact hW, am_K.warm hW9 hZ.1, by rw [hU]; exact am_Z.go hW9 (hZ.2.1.narrow (fun _ h => Or.inl h)) (fun _ _ _ => rfl)⟩⟩ rfl rfl hlv.1 rfl (lv_room (Nat.le_of_ble_eq_true rfl)) dL_doneIn_4 ⟨Nat.le_of_ble_eq_true rfl, Nat.le_of_ble_eq_true rfl⟩) va_S.rf (fun q _ h => Or.inl h) (fun q h => Or.inl h) (fun q _ h => Or.inl h) ?_ ?_
  · intro E ce q9 u t H1 locs1 ht hvm hp hB hz hk hS1 hce hcv hcl
    obtain ⟨hWx, hEx⟩ := hB
    rw [ht] at hWx
    have hO1 : lO cJ o v H1 := (hk o hoH hZ.2.2.2.2).trans hO
    obtain ⟨rfl, hE⟩ := hEx
    refine vx_catch (E := "java/lang/IndexOutOfBoundsException") (name := "java/lang/IndexOutOfBoundsException") hown [] (⟨0, 9, 12, 35⟩ : ExceptionTableEntry) [] htab (fun z hz => absurd hz List.not_mem_nil) (by decide) (by decide) (hts (.classLink RL 35 "java/lang/IndexOutOfBoundsException") (by decide +kernel)) (am_zw_use (w := .castable "java/lang/IndexOutOfBoundsException" "java/lang/IndexOutOfBoundsException") (by decide +kernel) (hZ.2.1.2.2.1 _ (by decide +kernel))) hce hcv hcl ?_
    refine lv_astore_n hx hb0 dL_doneIn_12 rfl hlv (by decide) rfl (fun ls hlv => ?_)
    refine lv_iconst (v := Int32.ofInt 1) hx hb0 dL_doneIn_13 rfl ?_
    exact W.iret hx hb0 hr (fun t ht _ => ⟨⟨_, (v, σ), rfl, ⟨1, rfl, Or.inr ⟨"java/lang/IndexOutOfBoundsException", ⟨rfl, hE⟩, rfl, rfl, by decide⟩⟩, by rw [ht]; exact hWx, by rw [ht]; exact hO1⟩, hS1.F ht⟩) hS1.2.2 dL_doneIn_14 hlk
  · intro r9 u t H1 locs1 ht hvm hp hB hz hk hS1
    obtain ⟨r, rfl, hp⟩ := hp
    rw [ht] at hB
    have hO1 : lO cJ o v H1 := (hk o hoH hZ.2.2.2.2).trans hO
    refine lv_i2l hx hb0 dL_doneIn_7 rfl ?_
    refine W.last (cell := arrV cJ 1 (fun _ => .long v)) (a := o) (j := Int32.ofInt 0) (x := (Int32.ofInt r).toInt64) hx hb0 hO1 (hZ.2.2.2.1 1 (fun _ => .long v)) (fun q => by cases q) (by show ¬ (_ ∨ (arrV _ _ _).slots.size ≤ _); rw [arrV_size]; decide) rfl rfl dL_doneIn_8 fun H2 e2 z2 oq2 => ?_
    have hO2 : lO cJ o (Int32.ofInt r).toInt64 H2 := e2.trans (congrArg some lO_set)
    have hB2 : am_wd (gC g) u H2 := hB.kept (fun q hq => oq2 q (fun e => hZ.2.2.2.2 (e ▸ hq)))
    have hS2 := hS1.put (k := (Int32.ofInt 0).toNatClampNeg) z2 oq2 (Or.inr rfl : lA g o o)
    refine lv_goto (tgt := 15) hx hb0 dL_doneIn_9 (by first | decide | rfl) ?_
    refine lv_iconst (v := Int32.ofInt 0) hx hb0 dL_doneIn_15 rfl ?_
    exact W.iret hx hb0 hr (fun t ht _ => ⟨⟨_, ((Int32.ofInt r).toInt64, u), rfl, ⟨0, rfl, Or.inl ⟨rfl, r, rfl, hp⟩⟩, by rw [ht]; exact hB2, by rw [ht]; exact hO2⟩, hS2.F ht⟩) hS2.2.2 dL_doneIn_16 hlk

set_option maxRecDepth 100000 in
set_option maxHeartbeats 4000000 in
/-- the law's flowlets -/
theorem w_flowlets (l : Launch) (hl : l.stackTraces = false) (g : am_g) (hI : am_inj (gC g)) (cJ : ClassId) (o : Nat) (v : Int64) (σ : am_M) (p1 : Int) (hp1 : -2147483648 ≤ p1 ∧ p1 < 2147483648) (S : ab_S) (b : Int) (hC : ab_C S σ) (hS : ab_I S b) : Met l yL_flowlets wsL_flowlets ({ frames := 8, cells := 1, slots := 6, locals := 124 }) (lP g cJ o v σ (.ref (g.2.2 0 0) :: .int (Int32.ofInt p1) :: [.ref o])) (lQ g cJ o (fun k v' σ' => (k = 0 ∧ ∃ r : Int, v' = (Int32.ofInt r).toInt64 ∧ (fun r σ' => σ' = σ ∧ (0 ≤ p1 ∧ p1 < S 19 4) ∧ r = S 10 p1.toNat) r σ') ∨ (∃ E, (fun E => E = "java/lang/IndexOutOfBoundsException" ∧ ¬ (0 ≤ p1 ∧ p1 < S 19 4)) E ∧ σ' = σ ∧ v' = v ∧ k = lK E))) 1 6 (lA g o) := by
  refine lq_start (cc := cL_flowlets) (nL := 4) (hh := [(0, 9, 12, 35)]) (by decide) rfl rfl (Nat.le_of_ble_eq_true rfl) ?_
  intro p e s m below meth c C hW hO ls hlv
  obtain ⟨hx, hb0, hml, hown, hts, hZ, htab, hr, hlk⟩ := C
  have hlv : lv_has ls 4 [(0, .ref (g.2.2 0 0)), (1, .int (Int32.ofInt p1)), (2, .ref o)] := hlv
  have hoH : o < s.heap.size := (Array.getElem?_eq_some_iff.mp hO).1
  refine lv_aload_n hx hb0 dL_flowlets_0 rfl (lv_at hlv 2 rfl) ?_
  refine lv_iconst (v := Int32.ofInt 0) hx hb0 dL_flowlets_1 rfl ?_
  refine lv_aload_n hx hb0 dL_flowlets_2 rfl (lv_at hlv 0 rfl) ?_
  refine lv_iload_n hx hb0 dL_flowlets_3 rfl (lv_at hlv 1 rfl) ?_
  refine vx_calli (A0 := lA g o) (vx_runV (As := [.int (Int32.ofInt p1)]) (rest := [.int (Int32.ofInt 0), .ref o]) ⟨hx, hb0, hml, hown, hts⟩ (c_X5_flowlets l hl g hI σ p1 hp1 S b hC hS) (cwV 1 hts gL_flowlets_X5_flowlets rfl rfl rfl (by decide +kernel) ⟨Nat.le_of_ble_eq_true rfl, Nat.le_of_ble_eq_true rfl⟩) ⟨am_blindX (gC g) σ [.inr (0, 0), .inl p1], va_recv hZ.1.1 (am_one hW (k := 0) (i := 0) (show 0 < (1:Nat) by decide) rfl) (ci := 5) rfl (q0 := 0) rfl, fun U hU hW9 => ⟨rfl, by rw [hU]; exact hW, am_K.warm hW9 hZ.1, by rw [hU]; exact am_Z.go hW9 (hZ.2.1.narrow (fun _ h => Or.inl h)) (fun _ _ _ => rfl)⟩⟩ rfl rfl hlv.1 rfl (lv_room (Nat.le_of_ble_eq_true rfl)) dL_flowlets_4 ⟨Nat.le_of_ble_eq_true rfl, Nat.le_of_ble_eq_true rfl⟩) va_S.rf (fun q _ h => Or.inl h) (fun q h => Or.inl h) (fun q _ h => Or.inl h) ?_ ?_
  · intro E ce q9 u t H1 locs1 ht hvm hp hB hz hk hS1 hce hcv hcl
    obtain ⟨hWx, hEx⟩ := hB
    rw [ht] at hWx
    have hO1 : lO cJ o v H1 := (hk o hoH hZ.2.2.2.2).trans hO
    obtain ⟨rfl, hE⟩ := hEx
    refine vx_catch (E := "java/lang/IndexOutOfBoundsException") (name := "java/lang/IndexOutOfBoundsException") hown [] (⟨0, 9, 12, 35⟩ : ExceptionTableEntry) [] htab (fun z hz => absurd hz List.not_mem_nil) (by decide) (by decide) (hts (.classLink RL 35 "java/lang/IndexOutOfBoundsException") (by decide +kernel)) (am_zw_use (w := .castable "java/lang/IndexOutOfBoundsException" "java/lang/IndexOutOfBoundsException") (by decide +kernel) (hZ.2.1.2.2.1 _ (by decide +kernel))) hce hcv hcl ?_
    refine lv_astore_n hx hb0 dL_flowlets_12 rfl hlv (by decide) rfl (fun ls hlv => ?_)
    refine lv_iconst (v := Int32.ofInt 1) hx hb0 dL_flowlets_13 rfl ?_
    exact W.iret hx hb0 hr (fun t ht _ => ⟨⟨_, (v, σ), rfl, ⟨1, rfl, Or.inr ⟨"java/lang/IndexOutOfBoundsException", ⟨rfl, hE⟩, rfl, rfl, by decide⟩⟩, by rw [ht]; exact hWx, by rw [ht]; exact hO1⟩, hS1.F ht⟩) hS1.2.2 dL_flowlets_14 hlk
  · intro r9 u t H1 locs1 ht hvm hp hB hz hk hS1
    obtain ⟨r, rfl, hp⟩ := hp
    rw [ht] at hB
    have hO1 : lO cJ o v H1 := (hk o hoH hZ.2.2.2.2).trans hO
    refine lv_i2l hx hb0 dL_flowlets_7 rfl ?_
    refine W.last (cell := arrV cJ 1 (fun _ => .long v)) (a := o) (j := Int32.ofInt 0) (x := (Int32.ofInt r).toInt64) hx hb0 hO1 (hZ.2.2.2.1 1 (fun _ => .long v)) (fun q => by cases q) (by show ¬ (_ ∨ (arrV _ _ _).slots.size ≤ _); rw [arrV_size]; decide) rfl rfl dL_flowlets_8 fun H2 e2 z2 oq2 => ?_
    have hO2 : lO cJ o (Int32.ofInt r).toInt64 H2 := e2.trans (congrArg some lO_set)
    have hB2 : am_wd (gC g) u H2 := hB.kept (fun q hq => oq2 q (fun e => hZ.2.2.2.2 (e ▸ hq)))
    have hS2 := hS1.put (k := (Int32.ofInt 0).toNatClampNeg) z2 oq2 (Or.inr rfl : lA g o o)
    refine lv_goto (tgt := 15) hx hb0 dL_flowlets_9 (by first | decide | rfl) ?_
    refine lv_iconst (v := Int32.ofInt 0) hx hb0 dL_flowlets_15 rfl ?_
    exact W.iret hx hb0 hr (fun t ht _ => ⟨⟨_, ((Int32.ofInt r).toInt64, u), rfl, ⟨0, rfl, Or.inl ⟨rfl, r, rfl, hp⟩⟩, by rw [ht]; exact hB2, by rw [ht]; exact hO2⟩, hS2.F ht⟩) hS2.2.2 dL_flowlets_16 hlk

set_option maxRecDepth 100000 in
set_option maxHeartbeats 4000000 in
/-- the law's spineOf -/
theorem w_spineOf (l : Launch) (hl : l.stackTraces = false) (g : am_g) (hI : am_inj (gC g)) (cJ : ClassId) (o : Nat) (v : Int64) (σ : am_M) (p1 : Int) (hp1 : -2147483648 ≤ p1 ∧ p1 < 2147483648) (S : ab_S) (b : Int) (hC : ab_C S σ) (hS : ab_I S b) : Met l yL_spineOf wsL_spineOf ({ frames := 8, cells := 1, slots := 6, locals := 124 }) (lP g cJ o v σ (.ref (g.2.2 0 0) :: .int (Int32.ofInt p1) :: [.ref o])) (lQ g cJ o (fun k v' σ' => (k = 0 ∧ ∃ r : Int, v' = (Int32.ofInt r).toInt64 ∧ (fun r σ' => σ' = σ ∧ (0 ≤ p1 ∧ p1 < S 19 4) ∧ r = S 11 p1.toNat) r σ') ∨ (∃ E, (fun E => E = "java/lang/IndexOutOfBoundsException" ∧ ¬ (0 ≤ p1 ∧ p1 < S 19 4)) E ∧ σ' = σ ∧ v' = v ∧ k = lK E))) 1 6 (lA g o) := by
  refine lq_start (cc := cL_spineOf) (nL := 4) (hh := [(0, 9, 12, 35)]) (by decide) rfl rfl (Nat.le_of_ble_eq_true rfl) ?_
  intro p e s m below meth c C hW hO ls hlv
  obtain ⟨hx, hb0, hml, hown, hts, hZ, htab, hr, hlk⟩ := C
  have hlv : lv_has ls 4 [(0, .ref (g.2.2 0 0)), (1, .int (Int32.ofInt p1)), (2, .ref o)] := hlv
  have hoH : o < s.heap.size := (Array.getElem?_eq_some_iff.mp hO).1
  refine lv_aload_n hx hb0 dL_spineOf_0 rfl (lv_at hlv 2 rfl) ?_
  refine lv_iconst (v := Int32.ofInt 0) hx hb0 dL_spineOf_1 rfl ?_
  refine lv_aload_n hx hb0 dL_spineOf_2 rfl (lv_at hlv 0 rfl) ?_
  refine lv_iload_n hx hb0 dL_spineOf_3 rfl (lv_at hlv 1 rfl) ?_
  refine vx_calli (A0 := lA g o) (vx_runV (As := [.int (Int32.ofInt p1)]) (rest := [.int (Int32.ofInt 0), .ref o]) ⟨hx, hb0, hml, hown, hts⟩ (c_X5_spineOf l hl g hI σ p1 hp1 S b hC hS) (cwV 1 hts gL_spineOf_X5_spineOf rfl rfl rfl (by decide +kernel) ⟨Nat.le_of_ble_eq_true rfl, Nat.le_of_ble_eq_true rfl⟩) ⟨am_blindX (gC g) σ [.inr (0, 0), .inl p1], va_recv hZ.1.1 (am_one hW (k := 0) (i := 0) (show 0 < (1:Nat) by decide) rfl) (ci := 5) rfl (q0 := 0) rfl, fun U hU hW9 => ⟨rfl, by rw [hU]; exact hW, am_K.warm hW9 hZ.1, by rw [hU]; exact am_Z.go hW9 (hZ.2.1.narrow (fun _ h => Or.inl h)) (fun _ _ _ => rfl)⟩⟩ rfl rfl hlv.1 rfl (lv_room (Nat.le_of_ble_eq_true rfl)) dL_spineOf_4 ⟨Nat.le_of_ble_eq_true rfl, Nat.le_of_ble_eq_true rfl⟩) va_S.rf (fun q _ h => Or.inl h) (fun q h => Or.inl h) (fun q _ h => Or.inl h) ?_ ?_
  · intro E ce q9 u t H1 locs1 ht hvm hp hB hz hk hS1 hce hcv hcl
    obtain ⟨hWx, hEx⟩ := hB
    rw [ht] at hWx
    have hO1 : lO cJ o v H1 := (hk o hoH hZ.2.2.2.2).trans hO
    obtain ⟨rfl, hE⟩ := hEx
    refine vx_catch (E := "java/lang/IndexOutOfBoundsException") (name := "java/lang/IndexOutOfBoundsException") hown [] (⟨0, 9, 12, 35⟩ : ExceptionTableEntry) [] htab (fun z hz => absurd hz List.not_mem_nil) (by decide) (by decide) (hts (.classLink RL 35 "java/lang/IndexOutOfBoundsException") (by decide +kernel)) (am_zw_use (w := .castable "java/lang/IndexOutOfBoundsException" "java/lang/IndexOutOfBoundsException") (by decide +kernel) (hZ.2.1.2.2.1 _ (by decide +kernel))) hce hcv hcl ?_
    refine lv_astore_n hx hb0 dL_spineOf_12 rfl hlv (by decide) rfl (fun ls hlv => ?_)
    refine lv_iconst (v := Int32.ofInt 1) hx hb0 dL_spineOf_13 rfl ?_
    exact W.iret hx hb0 hr (fun t ht _ => ⟨⟨_, (v, σ), rfl, ⟨1, rfl, Or.inr ⟨"java/lang/IndexOutOfBoundsException", ⟨rfl, hE⟩, rfl, rfl, by decide⟩⟩, by rw [ht]; exact hWx, by rw [ht]; exact hO1⟩, hS1.F ht⟩) hS1.2.2 dL_spineOf_14 hlk
  · intro r9 u t H1 locs1 ht hvm hp hB hz hk hS1
    obtain ⟨r, rfl, hp⟩ := hp
    rw [ht] at hB
    have hO1 : lO cJ o v H1 := (hk o hoH hZ.2.2.2.2).trans hO
    refine lv_i2l hx hb0 dL_spineOf_7 rfl ?_
    refine W.last (cell := arrV cJ 1 (fun _ => .long v)) (a := o) (j := Int32.ofInt 0) (x := (Int32.ofInt r).toInt64) hx hb0 hO1 (hZ.2.2.2.1 1 (fun _ => .long v)) (fun q => by cases q) (by show ¬ (_ ∨ (arrV _ _ _).slots.size ≤ _); rw [arrV_size]; decide) rfl rfl dL_spineOf_8 fun H2 e2 z2 oq2 => ?_
    have hO2 : lO cJ o (Int32.ofInt r).toInt64 H2 := e2.trans (congrArg some lO_set)
    have hB2 : am_wd (gC g) u H2 := hB.kept (fun q hq => oq2 q (fun e => hZ.2.2.2.2 (e ▸ hq)))
    have hS2 := hS1.put (k := (Int32.ofInt 0).toNatClampNeg) z2 oq2 (Or.inr rfl : lA g o o)
    refine lv_goto (tgt := 15) hx hb0 dL_spineOf_9 (by first | decide | rfl) ?_
    refine lv_iconst (v := Int32.ofInt 0) hx hb0 dL_spineOf_15 rfl ?_
    exact W.iret hx hb0 hr (fun t ht _ => ⟨⟨_, ((Int32.ofInt r).toInt64, u), rfl, ⟨0, rfl, Or.inl ⟨rfl, r, rfl, hp⟩⟩, by rw [ht]; exact hB2, by rw [ht]; exact hO2⟩, hS2.F ht⟩) hS2.2.2 dL_spineOf_16 hlk

set_option maxRecDepth 100000 in
set_option maxHeartbeats 4000000 in
/-- the law's upQueue -/
theorem w_upQueue (l : Launch) (hl : l.stackTraces = false) (g : am_g) (hI : am_inj (gC g)) (cJ : ClassId) (o : Nat) (v : Int64) (σ : am_M) (p1 : Int) (hp1 : -2147483648 ≤ p1 ∧ p1 < 2147483648) (S : ab_S) (b : Int) (hC : ab_C S σ) (hS : ab_I S b) : Met l yL_upQueue wsL_upQueue ({ frames := 8, cells := 1, slots := 6, locals := 123 }) (lP g cJ o v σ (.ref (g.2.2 0 0) :: .int (Int32.ofInt p1) :: [.ref o])) (lQ g cJ o (fun k v' σ' => (k = 0 ∧ ∃ r : Int, v' = (Int32.ofInt r).toInt64 ∧ (fun r σ' => σ' = σ ∧ (0 ≤ p1 ∧ p1 < 16) ∧ r = S 14 (p1.toNat)) r σ') ∨ (∃ E, (fun E => E = "java/lang/IllegalArgumentException" ∧ ¬ (0 ≤ p1 ∧ p1 < 16)) E ∧ σ' = σ ∧ v' = v ∧ k = lK E))) 1 6 (lA g o) := by
  refine lq_start (cc := cL_upQueue) (nL := 4) (hh := [(0, 9, 12, 13)]) (by decide) rfl rfl (Nat.le_of_ble_eq_true rfl) ?_
  intro p e s m below meth c C hW hO ls hlv
  obtain ⟨hx, hb0, hml, hown, hts, hZ, htab, hr, hlk⟩ := C
  have hlv : lv_has ls 4 [(0, .ref (g.2.2 0 0)), (1, .int (Int32.ofInt p1)), (2, .ref o)] := hlv
  have hoH : o < s.heap.size := (Array.getElem?_eq_some_iff.mp hO).1
  refine lv_aload_n hx hb0 dL_upQueue_0 rfl (lv_at hlv 2 rfl) ?_
  refine lv_iconst (v := Int32.ofInt 0) hx hb0 dL_upQueue_1 rfl ?_
  refine lv_aload_n hx hb0 dL_upQueue_2 rfl (lv_at hlv 0 rfl) ?_
  refine lv_iload_n hx hb0 dL_upQueue_3 rfl (lv_at hlv 1 rfl) ?_
  refine vx_calli (A0 := lA g o) (vx_runV (As := [.int (Int32.ofInt p1)]) (rest := [.int (Int32.ofInt 0), .ref o]) ⟨hx, hb0, hml, hown, hts⟩ (c_X5_upQueue l hl g hI σ p1 hp1 S b hC hS) (cwV 1 hts gL_upQueue_X5_upQueue rfl rfl rfl (by decide +kernel) ⟨Nat.le_of_ble_eq_true rfl, Nat.le_of_ble_eq_true rfl⟩) ⟨am_blindX (gC g) σ [.inr (0, 0), .inl p1], va_recv hZ.1.1 (am_one hW (k := 0) (i := 0) (show 0 < (1:Nat) by decide) rfl) (ci := 5) rfl (q0 := 0) rfl, fun U hU hW9 => ⟨rfl, by rw [hU]; exact hW, am_K.warm hW9 hZ.1, by rw [hU]; exact am_Z.go hW9 (hZ.2.1.narrow (fun _ h => Or.inl h)) (fun _ _ _ => rfl)⟩⟩ rfl rfl hlv.1 rfl (lv_room (Nat.le_of_ble_eq_true rfl)) dL_upQueue_4 ⟨Nat.le_of_ble_eq_true rfl, Nat.le_of_ble_eq_true rfl⟩) va_S.rf (fun q _ h => Or.inl h) (fun q h => Or.inl h) (fun q _ h => Or.inl h) ?_ ?_
  · intro E ce q9 u t H1 locs1 ht hvm hp hB hz hk hS1 hce hcv hcl
    obtain ⟨hWx, hEx⟩ := hB
    rw [ht] at hWx
    have hO1 : lO cJ o v H1 := (hk o hoH hZ.2.2.2.2).trans hO
    obtain ⟨rfl, hE⟩ := hEx
    refine vx_catch (E := "java/lang/IllegalArgumentException") (name := "java/lang/IllegalArgumentException") hown [] (⟨0, 9, 12, 13⟩ : ExceptionTableEntry) [] htab (fun z hz => absurd hz List.not_mem_nil) (by decide) (by decide) (hts (.classLink RL 13 "java/lang/IllegalArgumentException") (by decide +kernel)) (am_zw_use (w := .castable "java/lang/IllegalArgumentException" "java/lang/IllegalArgumentException") (by decide +kernel) (hZ.2.1.2.2.1 _ (by decide +kernel))) hce hcv hcl ?_
    refine lv_astore_n hx hb0 dL_upQueue_12 rfl hlv (by decide) rfl (fun ls hlv => ?_)
    refine lv_iconst (v := Int32.ofInt 1) hx hb0 dL_upQueue_13 rfl ?_
    exact W.iret hx hb0 hr (fun t ht _ => ⟨⟨_, (v, σ), rfl, ⟨1, rfl, Or.inr ⟨"java/lang/IllegalArgumentException", ⟨rfl, hE⟩, rfl, rfl, by decide⟩⟩, by rw [ht]; exact hWx, by rw [ht]; exact hO1⟩, hS1.F ht⟩) hS1.2.2 dL_upQueue_14 hlk
  · intro r9 u t H1 locs1 ht hvm hp hB hz hk hS1
    obtain ⟨r, rfl, hp⟩ := hp
    rw [ht] at hB
    have hO1 : lO cJ o v H1 := (hk o hoH hZ.2.2.2.2).trans hO
    refine lv_i2l hx hb0 dL_upQueue_7 rfl ?_
    refine W.last (cell := arrV cJ 1 (fun _ => .long v)) (a := o) (j := Int32.ofInt 0) (x := (Int32.ofInt r).toInt64) hx hb0 hO1 (hZ.2.2.2.1 1 (fun _ => .long v)) (fun q => by cases q) (by show ¬ (_ ∨ (arrV _ _ _).slots.size ≤ _); rw [arrV_size]; decide) rfl rfl dL_upQueue_8 fun H2 e2 z2 oq2 => ?_
    have hO2 : lO cJ o (Int32.ofInt r).toInt64 H2 := e2.trans (congrArg some lO_set)
    have hB2 : am_wd (gC g) u H2 := hB.kept (fun q hq => oq2 q (fun e => hZ.2.2.2.2 (e ▸ hq)))
    have hS2 := hS1.put (k := (Int32.ofInt 0).toNatClampNeg) z2 oq2 (Or.inr rfl : lA g o o)
    refine lv_goto (tgt := 15) hx hb0 dL_upQueue_9 (by first | decide | rfl) ?_
    refine lv_iconst (v := Int32.ofInt 0) hx hb0 dL_upQueue_15 rfl ?_
    exact W.iret hx hb0 hr (fun t ht _ => ⟨⟨_, ((Int32.ofInt r).toInt64, u), rfl, ⟨0, rfl, Or.inl ⟨rfl, r, rfl, hp⟩⟩, by rw [ht]; exact hB2, by rw [ht]; exact hO2⟩, hS2.F ht⟩) hS2.2.2 dL_upQueue_16 hlk

set_option maxRecDepth 100000 in
set_option maxHeartbeats 4000000 in
/-- the law's downQueue -/
theorem w_downQueue (l : Launch) (hl : l.stackTraces = false) (g : am_g) (hI : am_inj (gC g)) (cJ : ClassId) (o : Nat) (v : Int64) (σ : am_M) (p1 : Int) (hp1 : -2147483648 ≤ p1 ∧ p1 < 2147483648) (S : ab_S) (b : Int) (hC : ab_C S σ) (hS : ab_I S b) : Met l yL_downQueue wsL_downQueue ({ frames := 8, cells := 1, slots := 6, locals := 123 }) (lP g cJ o v σ (.ref (g.2.2 0 0) :: .int (Int32.ofInt p1) :: [.ref o])) (lQ g cJ o (fun k v' σ' => (k = 0 ∧ ∃ r : Int, v' = (Int32.ofInt r).toInt64 ∧ (fun r σ' => σ' = σ ∧ (0 ≤ p1 ∧ p1 < 16) ∧ r = S 14 (16 + p1.toNat)) r σ') ∨ (∃ E, (fun E => E = "java/lang/IllegalArgumentException" ∧ ¬ (0 ≤ p1 ∧ p1 < 16)) E ∧ σ' = σ ∧ v' = v ∧ k = lK E))) 1 6 (lA g o) := by
  refine lq_start (cc := cL_downQueue) (nL := 4) (hh := [(0, 9, 12, 13)]) (by decide) rfl rfl (Nat.le_of_ble_eq_true rfl) ?_
  intro p e s m below meth c C hW hO ls hlv
  obtain ⟨hx, hb0, hml, hown, hts, hZ, htab, hr, hlk⟩ := C
  have hlv : lv_has ls 4 [(0, .ref (g.2.2 0 0)), (1, .int (Int32.ofInt p1)), (2, .ref o)] := hlv
  have hoH : o < s.heap.size := (Array.getElem?_eq_some_iff.mp hO).1
  refine lv_aload_n hx hb0 dL_downQueue_0 rfl (lv_at hlv 2 rfl) ?_
  refine lv_iconst (v := Int32.ofInt 0) hx hb0 dL_downQueue_1 rfl ?_
  refine lv_aload_n hx hb0 dL_downQueue_2 rfl (lv_at hlv 0 rfl) ?_
  refine lv_iload_n hx hb0 dL_downQueue_3 rfl (lv_at hlv 1 rfl) ?_
  refine vx_calli (A0 := lA g o) (vx_runV (As := [.int (Int32.ofInt p1)]) (rest := [.int (Int32.ofInt 0), .ref o]) ⟨hx, hb0, hml, hown, hts⟩ (c_X5_downQueue l hl g hI σ p1 hp1 S b hC hS) (cwV 1 hts gL_downQueue_X5_downQueue rfl rfl rfl (by decide +kernel) ⟨Nat.le_of_ble_eq_true rfl, Nat.le_of_ble_eq_true rfl⟩) ⟨am_blindX (gC g) σ [.inr (0, 0), .inl p1], va_recv hZ.1.1 (am_one hW (k := 0) (i := 0) (show 0 < (1:Nat) by decide) rfl) (ci := 5) rfl (q0 := 0) rfl, fun U hU hW9 => ⟨rfl, by rw [hU]; exact hW, am_K.warm hW9 hZ.1, by rw [hU]; exact am_Z.go hW9 (hZ.2.1.narrow (fun _ h => Or.inl h)) (fun _ _ _ => rfl)⟩⟩ rfl rfl hlv.1 rfl (lv_room (Nat.le_of_ble_eq_true rfl)) dL_downQueue_4 ⟨Nat.le_of_ble_eq_true rfl, Nat.le_of_ble_eq_true rfl⟩) va_S.rf (fun q _ h => Or.inl h) (fun q h => Or.inl h) (fun q _ h => Or.inl h) ?_ ?_
  · intro E ce q9 u t H1 locs1 ht hvm hp hB hz hk hS1 hce hcv hcl
    obtain ⟨hWx, hEx⟩ := hB
    rw [ht] at hWx
    have hO1 : lO cJ o v H1 := (hk o hoH hZ.2.2.2.2).trans hO
    obtain ⟨rfl, hE⟩ := hEx
    refine vx_catch (E := "java/lang/IllegalArgumentException") (name := "java/lang/IllegalArgumentException") hown [] (⟨0, 9, 12, 13⟩ : ExceptionTableEntry) [] htab (fun z hz => absurd hz List.not_mem_nil) (by decide) (by decide) (hts (.classLink RL 13 "java/lang/IllegalArgumentException") (by decide +kernel)) (am_zw_use (w := .castable "java/lang/IllegalArgumentException" "java/lang/IllegalArgumentException") (by decide +kernel) (hZ.2.1.2.2.1 _ (by decide +kernel))) hce hcv hcl ?_
    refine lv_astore_n hx hb0 dL_downQueue_12 rfl hlv (by decide) rfl (fun ls hlv => ?_)
    refine lv_iconst (v := Int32.ofInt 1) hx hb0 dL_downQueue_13 rfl ?_
    exact W.iret hx hb0 hr (fun t ht _ => ⟨⟨_, (v, σ), rfl, ⟨1, rfl, Or.inr ⟨"java/lang/IllegalArgumentException", ⟨rfl, hE⟩, rfl, rfl, by decide⟩⟩, by rw [ht]; exact hWx, by rw [ht]; exact hO1⟩, hS1.F ht⟩) hS1.2.2 dL_downQueue_14 hlk
  · intro r9 u t H1 locs1 ht hvm hp hB hz hk hS1
    obtain ⟨r, rfl, hp⟩ := hp
    rw [ht] at hB
    have hO1 : lO cJ o v H1 := (hk o hoH hZ.2.2.2.2).trans hO
    refine lv_i2l hx hb0 dL_downQueue_7 rfl ?_
    refine W.last (cell := arrV cJ 1 (fun _ => .long v)) (a := o) (j := Int32.ofInt 0) (x := (Int32.ofInt r).toInt64) hx hb0 hO1 (hZ.2.2.2.1 1 (fun _ => .long v)) (fun q => by cases q) (by show ¬ (_ ∨ (arrV _ _ _).slots.size ≤ _); rw [arrV_size]; decide) rfl rfl dL_downQueue_8 fun H2 e2 z2 oq2 => ?_
    have hO2 : lO cJ o (Int32.ofInt r).toInt64 H2 := e2.trans (congrArg some lO_set)
    have hB2 : am_wd (gC g) u H2 := hB.kept (fun q hq => oq2 q (fun e => hZ.2.2.2.2 (e ▸ hq)))
    have hS2 := hS1.put (k := (Int32.ofInt 0).toNatClampNeg) z2 oq2 (Or.inr rfl : lA g o o)
    refine lv_goto (tgt := 15) hx hb0 dL_downQueue_9 (by first | decide | rfl) ?_
    refine lv_iconst (v := Int32.ofInt 0) hx hb0 dL_downQueue_15 rfl ?_
    exact W.iret hx hb0 hr (fun t ht _ => ⟨⟨_, ((Int32.ofInt r).toInt64, u), rfl, ⟨0, rfl, Or.inl ⟨rfl, r, rfl, hp⟩⟩, by rw [ht]; exact hB2, by rw [ht]; exact hO2⟩, hS2.F ht⟩) hS2.2.2 dL_downQueue_16 hlk

set_option maxRecDepth 100000 in
set_option maxHeartbeats 4000000 in
/-- the law's northQueue -/
theorem w_northQueue (l : Launch) (hl : l.stackTraces = false) (g : am_g) (hI : am_inj (gC g)) (cJ : ClassId) (o : Nat) (v : Int64) (σ : am_M) (p1 p2 : Int) (hp1 : -2147483648 ≤ p1 ∧ p1 < 2147483648) (hp2 : -2147483648 ≤ p2 ∧ p2 < 2147483648) (S : ab_S) (b : Int) (hC : ab_C S σ) (hS : ab_I S b) : Met l yL_northQueue wsL_northQueue ({ frames := 8, cells := 1, slots := 6, locals := 125 }) (lP g cJ o v σ (.ref (g.2.2 0 0) :: .int (Int32.ofInt p1) :: .int (Int32.ofInt p2) :: [.ref o])) (lQ g cJ o (fun k v' σ' => (k = 0 ∧ ∃ r : Int, v' = (Int32.ofInt r).toInt64 ∧ (fun r σ' => σ' = σ ∧ ((0 ≤ p1 ∧ p1 < 4) ∧ (0 ≤ p2 ∧ p2 < 4)) ∧ r = S 14 (32 + 4 * p1.toNat + p2.toNat)) r σ') ∨ (∃ E, (fun E => E = "java/lang/IllegalArgumentException" ∧ ¬ ((0 ≤ p1 ∧ p1 < 4) ∧ (0 ≤ p2 ∧ p2 < 4))) E ∧ σ' = σ ∧ v' = v ∧ k = lK E))) 1 6 (lA g o) := by
  refine lq_start (cc := cL_northQueue) (nL := 5) (hh := [(0, 10, 13, 13)]) (by decide) rfl rfl (Nat.le_of_ble_eq_true rfl) ?_
  intro p e s m below meth c C hW hO ls hlv
  obtain ⟨hx, hb0, hml, hown, hts, hZ, htab, hr, hlk⟩ := C
  have hlv : lv_has ls 5 [(0, .ref (g.2.2 0 0)), (1, .int (Int32.ofInt p1)), (2, .int (Int32.ofInt p2)), (3, .ref o)] := hlv
  have hoH : o < s.heap.size := (Array.getElem?_eq_some_iff.mp hO).1
  refine lv_aload_n hx hb0 dL_northQueue_0 rfl (lv_at hlv 3 rfl) ?_
  refine lv_iconst (v := Int32.ofInt 0) hx hb0 dL_northQueue_1 rfl ?_
  refine lv_aload_n hx hb0 dL_northQueue_2 rfl (lv_at hlv 0 rfl) ?_
  refine lv_iload_n hx hb0 dL_northQueue_3 rfl (lv_at hlv 1 rfl) ?_
  refine lv_iload_n hx hb0 dL_northQueue_4 rfl (lv_at hlv 2 rfl) ?_
  refine vx_calli (A0 := lA g o) (vx_runV (As := [.int (Int32.ofInt p1), .int (Int32.ofInt p2)]) (rest := [.int (Int32.ofInt 0), .ref o]) ⟨hx, hb0, hml, hown, hts⟩ (c_X5_northQueue l hl g hI σ p1 p2 hp1 hp2 S b hC hS) (cwV 2 hts gL_northQueue_X5_northQueue rfl rfl rfl (by decide +kernel) ⟨Nat.le_of_ble_eq_true rfl, Nat.le_of_ble_eq_true rfl⟩) ⟨am_blindX (gC g) σ [.inr (0, 0), .inl p1, .inl p2], va_recv hZ.1.1 (am_one hW (k := 0) (i := 0) (show 0 < (1:Nat) by decide) rfl) (ci := 5) rfl (q0 := 0) rfl, fun U hU hW9 => ⟨rfl, by rw [hU]; exact hW, am_K.warm hW9 hZ.1, by rw [hU]; exact am_Z.go hW9 (hZ.2.1.narrow (fun _ h => Or.inl h)) (fun _ _ _ => rfl)⟩⟩ rfl rfl hlv.1 rfl (lv_room (Nat.le_of_ble_eq_true rfl)) dL_northQueue_5 ⟨Nat.le_of_ble_eq_true rfl, Nat.le_of_ble_eq_true rfl⟩) va_S.rf (fun q _ h => Or.inl h) (fun q h => Or.inl h) (fun q _ h => Or.inl h) ?_ ?_
  · intro E ce q9 u t H1 locs1 ht hvm hp hB hz hk hS1 hce hcv hcl
    obtain ⟨hWx, hEx⟩ := hB
    rw [ht] at hWx
    have hO1 : lO cJ o v H1 := (hk o hoH hZ.2.2.2.2).trans hO
    obtain ⟨rfl, hE⟩ := hEx
    refine vx_catch (E := "java/lang/IllegalArgumentException") (name := "java/lang/IllegalArgumentException") hown [] (⟨0, 10, 13, 13⟩ : ExceptionTableEntry) [] htab (fun z hz => absurd hz List.not_mem_nil) (by decide) (by decide) (hts (.classLink RL 13 "java/lang/IllegalArgumentException") (by decide +kernel)) (am_zw_use (w := .castable "java/lang/IllegalArgumentException" "java/lang/IllegalArgumentException") (by decide +kernel) (hZ.2.1.2.2.1 _ (by decide +kernel))) hce hcv hcl ?_
    refine lv_astore hx hb0 dL_northQueue_13 hlv (by decide) rfl (fun ls hlv => ?_)
    refine lv_iconst (v := Int32.ofInt 1) hx hb0 dL_northQueue_15 rfl ?_
    exact W.iret hx hb0 hr (fun t ht _ => ⟨⟨_, (v, σ), rfl, ⟨1, rfl, Or.inr ⟨"java/lang/IllegalArgumentException", ⟨rfl, hE⟩, rfl, rfl, by decide⟩⟩, by rw [ht]; exact hWx, by rw [ht]; exact hO1⟩, hS1.F ht⟩) hS1.2.2 dL_northQueue_16 hlk
  · intro r9 u t H1 locs1 ht hvm hp hB hz hk hS1
    obtain ⟨r, rfl, hp⟩ := hp
    rw [ht] at hB
    have hO1 : lO cJ o v H1 := (hk o hoH hZ.2.2.2.2).trans hO
    refine lv_i2l hx hb0 dL_northQueue_8 rfl ?_
    refine W.last (cell := arrV cJ 1 (fun _ => .long v)) (a := o) (j := Int32.ofInt 0) (x := (Int32.ofInt r).toInt64) hx hb0 hO1 (hZ.2.2.2.1 1 (fun _ => .long v)) (fun q => by cases q) (by show ¬ (_ ∨ (arrV _ _ _).slots.size ≤ _); rw [arrV_size]; decide) rfl rfl dL_northQueue_9 fun H2 e2 z2 oq2 => ?_
    have hO2 : lO cJ o (Int32.ofInt r).toInt64 H2 := e2.trans (congrArg some lO_set)
    have hB2 : am_wd (gC g) u H2 := hB.kept (fun q hq => oq2 q (fun e => hZ.2.2.2.2 (e ▸ hq)))
    have hS2 := hS1.put (k := (Int32.ofInt 0).toNatClampNeg) z2 oq2 (Or.inr rfl : lA g o o)
    refine lv_goto (tgt := 17) hx hb0 dL_northQueue_10 (by first | decide | rfl) ?_
    refine lv_iconst (v := Int32.ofInt 0) hx hb0 dL_northQueue_17 rfl ?_
    exact W.iret hx hb0 hr (fun t ht _ => ⟨⟨_, ((Int32.ofInt r).toInt64, u), rfl, ⟨0, rfl, Or.inl ⟨rfl, r, rfl, hp⟩⟩, by rw [ht]; exact hB2, by rw [ht]; exact hO2⟩, hS2.F ht⟩) hS2.2.2 dL_northQueue_18 hlk

set_option maxRecDepth 100000 in
set_option maxHeartbeats 4000000 in
/-- the law's southQueue -/
theorem w_southQueue (l : Launch) (hl : l.stackTraces = false) (g : am_g) (hI : am_inj (gC g)) (cJ : ClassId) (o : Nat) (v : Int64) (σ : am_M) (p1 p2 : Int) (hp1 : -2147483648 ≤ p1 ∧ p1 < 2147483648) (hp2 : -2147483648 ≤ p2 ∧ p2 < 2147483648) (S : ab_S) (b : Int) (hC : ab_C S σ) (hS : ab_I S b) : Met l yL_southQueue wsL_southQueue ({ frames := 8, cells := 1, slots := 6, locals := 125 }) (lP g cJ o v σ (.ref (g.2.2 0 0) :: .int (Int32.ofInt p1) :: .int (Int32.ofInt p2) :: [.ref o])) (lQ g cJ o (fun k v' σ' => (k = 0 ∧ ∃ r : Int, v' = (Int32.ofInt r).toInt64 ∧ (fun r σ' => σ' = σ ∧ ((0 ≤ p1 ∧ p1 < 4) ∧ (0 ≤ p2 ∧ p2 < 4)) ∧ r = S 14 (48 + 4 * p1.toNat + p2.toNat)) r σ') ∨ (∃ E, (fun E => E = "java/lang/IllegalArgumentException" ∧ ¬ ((0 ≤ p1 ∧ p1 < 4) ∧ (0 ≤ p2 ∧ p2 < 4))) E ∧ σ' = σ ∧ v' = v ∧ k = lK E))) 1 6 (lA g o) := by
  refine lq_start (cc := cL_southQueue) (nL := 5) (hh := [(0, 10, 13, 13)]) (by decide) rfl rfl (Nat.le_of_ble_eq_true rfl) ?_
  intro p e s m below meth c C hW hO ls hlv
  obtain ⟨hx, hb0, hml, hown, hts, hZ, htab, hr, hlk⟩ := C
  have hlv : lv_has ls 5 [(0, .ref (g.2.2 0 0)), (1, .int (Int32.ofInt p1)), (2, .int (Int32.ofInt p2)), (3, .ref o)] := hlv
  have hoH : o < s.heap.size := (Array.getElem?_eq_some_iff.mp hO).1
  refine lv_aload_n hx hb0 dL_southQueue_0 rfl (lv_at hlv 3 rfl) ?_
  refine lv_iconst (v := Int32.ofInt 0) hx hb0 dL_southQueue_1 rfl ?_
  refine lv_aload_n hx hb0 dL_southQueue_2 rfl (lv_at hlv 0 rfl) ?_
  refine lv_iload_n hx hb0 dL_southQueue_3 rfl (lv_at hlv 1 rfl) ?_
  refine lv_iload_n hx hb0 dL_southQueue_4 rfl (lv_at hlv 2 rfl) ?_
  refine vx_calli (A0 := lA g o) (vx_runV (As := [.int (Int32.ofInt p1), .int (Int32.ofInt p2)]) (rest := [.int (Int32.ofInt 0), .ref o]) ⟨hx, hb0, hml, hown, hts⟩ (c_X5_southQueue l hl g hI σ p1 p2 hp1 hp2 S b hC hS) (cwV 2 hts gL_southQueue_X5_southQueue rfl rfl rfl (by decide +kernel) ⟨Nat.le_of_ble_eq_true rfl, Nat.le_of_ble_eq_true rfl⟩) ⟨am_blindX (gC g) σ [.inr (0, 0), .inl p1, .inl p2], va_recv hZ.1.1 (am_one hW (k := 0) (i := 0) (show 0 < (1:Nat) by decide) rfl) (ci := 5) rfl (q0 := 0) rfl, fun U hU hW9 => ⟨rfl, by rw [hU]; exact hW, am_K.warm hW9 hZ.1, by rw [hU]; exact am_Z.go hW9 (hZ.2.1.narrow (fun _ h => Or.inl h)) (fun _ _ _ => rfl)⟩⟩ rfl rfl hlv.1 rfl (lv_room (Nat.le_of_ble_eq_true rfl)) dL_southQueue_5 ⟨Nat.le_of_ble_eq_true rfl, Nat.le_of_ble_eq_true rfl⟩) va_S.rf (fun q _ h => Or.inl h) (fun q h => Or.inl h) (fun q _ h => Or.inl h) ?_ ?_
  · intro E ce q9 u t H1 locs1 ht hvm hp hB hz hk hS1 hce hcv hcl
    obtain ⟨hWx, hEx⟩ := hB
    rw [ht] at hWx
    have hO1 : lO cJ o v H1 := (hk o hoH hZ.2.2.2.2).trans hO
    obtain ⟨rfl, hE⟩ := hEx
    refine vx_catch (E := "java/lang/IllegalArgumentException") (name := "java/lang/IllegalArgumentException") hown [] (⟨0, 10, 13, 13⟩ : ExceptionTableEntry) [] htab (fun z hz => absurd hz List.not_mem_nil) (by decide) (by decide) (hts (.classLink RL 13 "java/lang/IllegalArgumentException") (by decide +kernel)) (am_zw_use (w := .castable "java/lang/IllegalArgumentException" "java/lang/IllegalArgumentException") (by decide +kernel) (hZ.2.1.2.2.1 _ (by decide +kernel))) hce hcv hcl ?_
    refine lv_astore hx hb0 dL_southQueue_13 hlv (by decide) rfl (fun ls hlv => ?_)
    refine lv_iconst (v := Int32.ofInt 1) hx hb0 dL_southQueue_15 rfl ?_
    exact W.iret hx hb0 hr (fun t ht _ => ⟨⟨_, (v, σ), rfl, ⟨1, rfl, Or.inr ⟨"java/lang/IllegalArgumentException", ⟨rfl, hE⟩, rfl, rfl, by decide⟩⟩, by rw [ht]; exact hWx, by rw [ht]; exact hO1⟩, hS1.F ht⟩) hS1.2.2 dL_southQueue_16 hlk
  · intro r9 u t H1 locs1 ht hvm hp hB hz hk hS1
    obtain ⟨r, rfl, hp⟩ := hp
    rw [ht] at hB
    have hO1 : lO cJ o v H1 := (hk o hoH hZ.2.2.2.2).trans hO
    refine lv_i2l hx hb0 dL_southQueue_8 rfl ?_
    refine W.last (cell := arrV cJ 1 (fun _ => .long v)) (a := o) (j := Int32.ofInt 0) (x := (Int32.ofInt r).toInt64) hx hb0 hO1 (hZ.2.2.2.1 1 (fun _ => .long v)) (fun q => by cases q) (by show ¬ (_ ∨ (arrV _ _ _).slots.size ≤ _); rw [arrV_size]; decide) rfl rfl dL_southQueue_9 fun H2 e2 z2 oq2 => ?_
    have hO2 : lO cJ o (Int32.ofInt r).toInt64 H2 := e2.trans (congrArg some lO_set)
    have hB2 : am_wd (gC g) u H2 := hB.kept (fun q hq => oq2 q (fun e => hZ.2.2.2.2 (e ▸ hq)))
    have hS2 := hS1.put (k := (Int32.ofInt 0).toNatClampNeg) z2 oq2 (Or.inr rfl : lA g o o)
    refine lv_goto (tgt := 17) hx hb0 dL_southQueue_10 (by first | decide | rfl) ?_
    refine lv_iconst (v := Int32.ofInt 0) hx hb0 dL_southQueue_17 rfl ?_
    exact W.iret hx hb0 hr (fun t ht _ => ⟨⟨_, ((Int32.ofInt r).toInt64, u), rfl, ⟨0, rfl, Or.inl ⟨rfl, r, rfl, hp⟩⟩, by rw [ht]; exact hB2, by rw [ht]; exact hO2⟩, hS2.F ht⟩) hS2.2.2 dL_southQueue_18 hlk

set_option maxRecDepth 100000 in
set_option maxHeartbeats 4000000 in
/-- the law's upCredits -/
theorem w_upCredits (l : Launch) (hl : l.stackTraces = false) (g : am_g) (hI : am_inj (gC g)) (cJ : ClassId) (o : Nat) (v : Int64) (σ : am_M) (p1 : Int) (hp1 : -2147483648 ≤ p1 ∧ p1 < 2147483648) (S : ab_S) (b : Int) (hC : ab_C S σ) (hS : ab_I S b) : Met l yL_upCredits wsL_upCredits ({ frames := 8, cells := 1, slots := 6, locals := 123 }) (lP g cJ o v σ (.ref (g.2.2 0 0) :: .int (Int32.ofInt p1) :: [.ref o])) (lQ g cJ o (fun k v' σ' => (k = 0 ∧ ∃ r : Int, v' = (Int32.ofInt r).toInt64 ∧ (fun r σ' => σ' = σ ∧ (0 ≤ p1 ∧ p1 < 16) ∧ r = S 13 (p1.toNat)) r σ') ∨ (∃ E, (fun E => E = "java/lang/IllegalArgumentException" ∧ ¬ (0 ≤ p1 ∧ p1 < 16)) E ∧ σ' = σ ∧ v' = v ∧ k = lK E))) 1 6 (lA g o) := by
  refine lq_start (cc := cL_upCredits) (nL := 4) (hh := [(0, 9, 12, 13)]) (by decide) rfl rfl (Nat.le_of_ble_eq_true rfl) ?_
  intro p e s m below meth c C hW hO ls hlv
  obtain ⟨hx, hb0, hml, hown, hts, hZ, htab, hr, hlk⟩ := C
  have hlv : lv_has ls 4 [(0, .ref (g.2.2 0 0)), (1, .int (Int32.ofInt p1)), (2, .ref o)] := hlv
  have hoH : o < s.heap.size := (Array.getElem?_eq_some_iff.mp hO).1
  refine lv_aload_n hx hb0 dL_upCredits_0 rfl (lv_at hlv 2 rfl) ?_
  refine lv_iconst (v := Int32.ofInt 0) hx hb0 dL_upCredits_1 rfl ?_
  refine lv_aload_n hx hb0 dL_upCredits_2 rfl (lv_at hlv 0 rfl) ?_
  refine lv_iload_n hx hb0 dL_upCredits_3 rfl (lv_at hlv 1 rfl) ?_
  refine vx_calli (A0 := lA g o) (vx_runV (As := [.int (Int32.ofInt p1)]) (rest := [.int (Int32.ofInt 0), .ref o]) ⟨hx, hb0, hml, hown, hts⟩ (c_X5_upCredits l hl g hI σ p1 hp1 S b hC hS) (cwV 1 hts gL_upCredits_X5_upCredits rfl rfl rfl (by decide +kernel) ⟨Nat.le_of_ble_eq_true rfl, Nat.le_of_ble_eq_true rfl⟩) ⟨am_blindX (gC g) σ [.inr (0, 0), .inl p1], va_recv hZ.1.1 (am_one hW (k := 0) (i := 0) (show 0 < (1:Nat) by decide) rfl) (ci := 5) rfl (q0 := 0) rfl, fun U hU hW9 => ⟨rfl, by rw [hU]; exact hW, am_K.warm hW9 hZ.1, by rw [hU]; exact am_Z.go hW9 (hZ.2.1.narrow (fun _ h => Or.inl h)) (fun _ _ _ => rfl)⟩⟩ rfl rfl hlv.1 rfl (lv_room (Nat.le_of_ble_eq_true rfl)) dL_upCredits_4 ⟨Nat.le_of_ble_eq_true rfl, Nat.le_of_ble_eq_true rfl⟩) va_S.rf (fun q _ h => Or.inl h) (fun q h => Or.inl h) (fun q _ h => Or.inl h) ?_ ?_
  · intro E ce q9 u t H1 locs1 ht hvm hp hB hz hk hS1 hce hcv hcl
    obtain ⟨hWx, hEx⟩ := hB
    rw [ht] at hWx
    have hO1 : lO cJ o v H1 := (hk o hoH hZ.2.2.2.2).trans hO
    obtain ⟨rfl, hE⟩ := hEx
    refine vx_catch (E := "java/lang/IllegalArgumentException") (name := "java/lang/IllegalArgumentException") hown [] (⟨0, 9, 12, 13⟩ : ExceptionTableEntry) [] htab (fun z hz => absurd hz List.not_mem_nil) (by decide) (by decide) (hts (.classLink RL 13 "java/lang/IllegalArgumentException") (by decide +kernel)) (am_zw_use (w := .castable "java/lang/IllegalArgumentException" "java/lang/IllegalArgumentException") (by decide +kernel) (hZ.2.1.2.2.1 _ (by decide +kernel))) hce hcv hcl ?_
    refine lv_astore_n hx hb0 dL_upCredits_12 rfl hlv (by decide) rfl (fun ls hlv => ?_)
    refine lv_iconst (v := Int32.ofInt 1) hx hb0 dL_upCredits_13 rfl ?_
    exact W.iret hx hb0 hr (fun t ht _ => ⟨⟨_, (v, σ), rfl, ⟨1, rfl, Or.inr ⟨"java/lang/IllegalArgumentException", ⟨rfl, hE⟩, rfl, rfl, by decide⟩⟩, by rw [ht]; exact hWx, by rw [ht]; exact hO1⟩, hS1.F ht⟩) hS1.2.2 dL_upCredits_14 hlk
  · intro r9 u t H1 locs1 ht hvm hp hB hz hk hS1
    obtain ⟨r, rfl, hp⟩ := hp
    rw [ht] at hB
    have hO1 : lO cJ o v H1 := (hk o hoH hZ.2.2.2.2).trans hO
    refine lv_i2l hx hb0 dL_upCredits_7 rfl ?_
    refine W.last (cell := arrV cJ 1 (fun _ => .long v)) (a := o) (j := Int32.ofInt 0) (x := (Int32.ofInt r).toInt64) hx hb0 hO1 (hZ.2.2.2.1 1 (fun _ => .long v)) (fun q => by cases q) (by show ¬ (_ ∨ (arrV _ _ _).slots.size ≤ _); rw [arrV_size]; decide) rfl rfl dL_upCredits_8 fun H2 e2 z2 oq2 => ?_
    have hO2 : lO cJ o (Int32.ofInt r).toInt64 H2 := e2.trans (congrArg some lO_set)
    have hB2 : am_wd (gC g) u H2 := hB.kept (fun q hq => oq2 q (fun e => hZ.2.2.2.2 (e ▸ hq)))
    have hS2 := hS1.put (k := (Int32.ofInt 0).toNatClampNeg) z2 oq2 (Or.inr rfl : lA g o o)
    refine lv_goto (tgt := 15) hx hb0 dL_upCredits_9 (by first | decide | rfl) ?_
    refine lv_iconst (v := Int32.ofInt 0) hx hb0 dL_upCredits_15 rfl ?_
    exact W.iret hx hb0 hr (fun t ht _ => ⟨⟨_, ((Int32.ofInt r).toInt64, u), rfl, ⟨0, rfl, Or.inl ⟨rfl, r, rfl, hp⟩⟩, by rw [ht]; exact hB2, by rw [ht]; exact hO2⟩, hS2.F ht⟩) hS2.2.2 dL_upCredits_16 hlk

set_option maxRecDepth 100000 in
set_option maxHeartbeats 4000000 in
/-- the law's northCredits -/
theorem w_northCredits (l : Launch) (hl : l.stackTraces = false) (g : am_g) (hI : am_inj (gC g)) (cJ : ClassId) (o : Nat) (v : Int64) (σ : am_M) (p1 p2 : Int) (hp1 : -2147483648 ≤ p1 ∧ p1 < 2147483648) (hp2 : -2147483648 ≤ p2 ∧ p2 < 2147483648) (S : ab_S) (b : Int) (hC : ab_C S σ) (hS : ab_I S b) : Met l yL_northCredits wsL_northCredits ({ frames := 8, cells := 1, slots := 6, locals := 125 }) (lP g cJ o v σ (.ref (g.2.2 0 0) :: .int (Int32.ofInt p1) :: .int (Int32.ofInt p2) :: [.ref o])) (lQ g cJ o (fun k v' σ' => (k = 0 ∧ ∃ r : Int, v' = (Int32.ofInt r).toInt64 ∧ (fun r σ' => σ' = σ ∧ ((0 ≤ p1 ∧ p1 < 4) ∧ (0 ≤ p2 ∧ p2 < 4)) ∧ r = S 13 (32 + 4 * p1.toNat + p2.toNat)) r σ') ∨ (∃ E, (fun E => E = "java/lang/IllegalArgumentException" ∧ ¬ ((0 ≤ p1 ∧ p1 < 4) ∧ (0 ≤ p2 ∧ p2 < 4))) E ∧ σ' = σ ∧ v' = v ∧ k = lK E))) 1 6 (lA g o) := by
  refine lq_start (cc := cL_northCredits) (nL := 5) (hh := [(0, 10, 13, 13)]) (by decide) rfl rfl (Nat.le_of_ble_eq_true rfl) ?_
  intro p e s m below meth c C hW hO ls hlv
  obtain ⟨hx, hb0, hml, hown, hts, hZ, htab, hr, hlk⟩ := C
  have hlv : lv_has ls 5 [(0, .ref (g.2.2 0 0)), (1, .int (Int32.ofInt p1)), (2, .int (Int32.ofInt p2)), (3, .ref o)] := hlv
  have hoH : o < s.heap.size := (Array.getElem?_eq_some_iff.mp hO).1
  refine lv_aload_n hx hb0 dL_northCredits_0 rfl (lv_at hlv 3 rfl) ?_
  refine lv_iconst (v := Int32.ofInt 0) hx hb0 dL_northCredits_1 rfl ?_
  refine lv_aload_n hx hb0 dL_northCredits_2 rfl (lv_at hlv 0 rfl) ?_
  refine lv_iload_n hx hb0 dL_northCredits_3 rfl (lv_at hlv 1 rfl) ?_
  refine lv_iload_n hx hb0 dL_northCredits_4 rfl (lv_at hlv 2 rfl) ?_
  refine vx_calli (A0 := lA g o) (vx_runV (As := [.int (Int32.ofInt p1), .int (Int32.ofInt p2)]) (rest := [.int (Int32.ofInt 0), .ref o]) ⟨hx, hb0, hml, hown, hts⟩ (c_X5_northCredits l hl g hI σ p1 p2 hp1 hp2 S b hC hS) (cwV 2 hts gL_northCredits_X5_northCredits rfl rfl rfl (by decide +kernel) ⟨Nat.le_of_ble_eq_true rfl, Nat.le_of_ble_eq_true rfl⟩) ⟨am_blindX (gC g) σ [.inr (0, 0), .inl p1, .inl p2], va_recv hZ.1.1 (am_one hW (k := 0) (i := 0) (show 0 < (1:Nat) by decide) rfl) (ci := 5) rfl (q0 := 0) rfl, fun U hU hW9 => ⟨rfl, by rw [hU]; exact hW, am_K.warm hW9 hZ.1, by rw [hU]; exact am_Z.go hW9 (hZ.2.1.narrow (fun _ h => Or.inl h)) (fun _ _ _ => rfl)⟩⟩ rfl rfl hlv.1 rfl (lv_room (Nat.le_of_ble_eq_true rfl)) dL_northCredits_5 ⟨Nat.le_of_ble_eq_true rfl, Nat.le_of_ble_eq_true rfl⟩) va_S.rf (fun q _ h => Or.inl h) (fun q h => Or.inl h) (fun q _ h => Or.inl h) ?_ ?_
  · intro E ce q9 u t H1 locs1 ht hvm hp hB hz hk hS1 hce hcv hcl
    obtain ⟨hWx, hEx⟩ := hB
    rw [ht] at hWx
    have hO1 : lO cJ o v H1 := (hk o hoH hZ.2.2.2.2).trans hO
    obtain ⟨rfl, hE⟩ := hEx
    refine vx_catch (E := "java/lang/IllegalArgumentException") (name := "java/lang/IllegalArgumentException") hown [] (⟨0, 10, 13, 13⟩ : ExceptionTableEntry) [] htab (fun z hz => absurd hz List.not_mem_nil) (by decide) (by decide) (hts (.classLink RL 13 "java/lang/IllegalArgumentException") (by decide +kernel)) (am_zw_use (w := .castable "java/lang/IllegalArgumentException" "java/lang/IllegalArgumentException") (by decide +kernel) (hZ.2.1.2.2.1 _ (by decide +kernel))) hce hcv hcl ?_
    refine lv_astore hx hb0 dL_northCredits_13 hlv (by decide) rfl (fun ls hlv => ?_)
    refine lv_iconst (v := Int32.ofInt 1) hx hb0 dL_northCredits_15 rfl ?_
    exact W.iret hx hb0 hr (fun t ht _ => ⟨⟨_, (v, σ), rfl, ⟨1, rfl, Or.inr ⟨"java/lang/IllegalArgumentException", ⟨rfl, hE⟩, rfl, rfl, by decide⟩⟩, by rw [ht]; exact hWx, by rw [ht]; exact hO1⟩, hS1.F ht⟩) hS1.2.2 dL_northCredits_16 hlk
  · intro r9 u t H1 locs1 ht hvm hp hB hz hk hS1
    obtain ⟨r, rfl, hp⟩ := hp
    rw [ht] at hB
    have hO1 : lO cJ o v H1 := (hk o hoH hZ.2.2.2.2).trans hO
    refine lv_i2l hx hb0 dL_northCredits_8 rfl ?_
    refine W.last (cell := arrV cJ 1 (fun _ => .long v)) (a := o) (j := Int32.ofInt 0) (x := (Int32.ofInt r).toInt64) hx hb0 hO1 (hZ.2.2.2.1 1 (fun _ => .long v)) (fun q => by cases q) (by show ¬ (_ ∨ (arrV _ _ _).slots.size ≤ _); rw [arrV_size]; decide) rfl rfl dL_northCredits_9 fun H2 e2 z2 oq2 => ?_
    have hO2 : lO cJ o (Int32.ofInt r).toInt64 H2 := e2.trans (congrArg some lO_set)
    have hB2 : am_wd (gC g) u H2 := hB.kept (fun q hq => oq2 q (fun e => hZ.2.2.2.2 (e ▸ hq)))
    have hS2 := hS1.put (k := (Int32.ofInt 0).toNatClampNeg) z2 oq2 (Or.inr rfl : lA g o o)
    refine lv_goto (tgt := 17) hx hb0 dL_northCredits_10 (by first | decide | rfl) ?_
    refine lv_iconst (v := Int32.ofInt 0) hx hb0 dL_northCredits_17 rfl ?_
    exact W.iret hx hb0 hr (fun t ht _ => ⟨⟨_, ((Int32.ofInt r).toInt64, u), rfl, ⟨0, rfl, Or.inl ⟨rfl, r, rfl, hp⟩⟩, by rw [ht]; exact hB2, by rw [ht]; exact hO2⟩, hS2.F ht⟩) hS2.2.2 dL_northCredits_18 hlk

set_option maxRecDepth 100000 in
set_option maxHeartbeats 4000000 in
/-- the law's open -/
theorem w_open (l : Launch) (hl : l.stackTraces = false) (g : am_g) (hI : am_inj (gC g)) (cJ : ClassId) (o : Nat) (v : Int64) (σ : am_M) (p1 : Int) (hp1 : -2147483648 ≤ p1 ∧ p1 < 2147483648) (S : ab_S) (b : Int) (hC : ab_C S σ) (hS : ab_I S b) : Met l yL_open wsL_open ({ frames := 8, cells := 1, slots := 6, locals := 123 }) (lP g cJ o v σ (.ref (g.2.2 0 0) :: .int (Int32.ofInt p1) :: [.ref o])) (lQ g cJ o (fun k v' σ' => (k = 0 ∧ ∃ r : Int, v' = (Int32.ofInt r).toInt64 ∧ (fun r σ' => σ' = σ ∧ (0 ≤ p1 ∧ p1 < 16) ∧ r = S 16 p1.toNat) r σ') ∨ (∃ E, (fun E => E = "java/lang/IllegalArgumentException" ∧ ¬ (0 ≤ p1 ∧ p1 < 16)) E ∧ σ' = σ ∧ v' = v ∧ k = lK E))) 1 6 (lA g o) := by
  refine lq_start (cc := cL_open) (nL := 4) (hh := [(0, 9, 12, 13)]) (by decide) rfl rfl (Nat.le_of_ble_eq_true rfl) ?_
  intro p e s m below meth c C hW hO ls hlv
  obtain ⟨hx, hb0, hml, hown, hts, hZ, htab, hr, hlk⟩ := C
  have hlv : lv_has ls 4 [(0, .ref (g.2.2 0 0)), (1, .int (Int32.ofInt p1)), (2, .ref o)] := hlv
  have hoH : o < s.heap.size := (Array.getElem?_eq_some_iff.mp hO).1
  refine lv_aload_n hx hb0 dL_open_0 rfl (lv_at hlv 2 rfl) ?_
  refine lv_iconst (v := Int32.ofInt 0) hx hb0 dL_open_1 rfl ?_
  refine lv_aload_n hx hb0 dL_open_2 rfl (lv_at hlv 0 rfl) ?_
  refine lv_iload_n hx hb0 dL_open_3 rfl (lv_at hlv 1 rfl) ?_
  refine vx_calli (A0 := lA g o) (vx_runV (As := [.int (Int32.ofInt p1)]) (rest := [.int (Int32.ofInt 0), .ref o]) ⟨hx, hb0, hml, hown, hts⟩ (c_X5_open l hl g hI σ p1 hp1 S b hC hS) (cwV 1 hts gL_open_X5_open rfl rfl rfl (by decide +kernel) ⟨Nat.le_of_ble_eq_true rfl, Nat.le_of_ble_eq_true rfl⟩) ⟨am_blindX (gC g) σ [.inr (0, 0), .inl p1], va_recv hZ.1.1 (am_one hW (k := 0) (i := 0) (show 0 < (1:Nat) by decide) rfl) (ci := 5) rfl (q0 := 0) rfl, fun U hU hW9 => ⟨rfl, by rw [hU]; exact hW, am_K.warm hW9 hZ.1, by rw [hU]; exact am_Z.go hW9 (hZ.2.1.narrow (fun _ h => Or.inl h)) (fun _ _ _ => rfl)⟩⟩ rfl rfl hlv.1 rfl (lv_room (Nat.le_of_ble_eq_true rfl)) dL_open_4 ⟨Nat.le_of_ble_eq_true rfl, Nat.le_of_ble_eq_true rfl⟩) va_S.rf (fun q _ h => Or.inl h) (fun q h => Or.inl h) (fun q _ h => Or.inl h) ?_ ?_
  · intro E ce q9 u t H1 locs1 ht hvm hp hB hz hk hS1 hce hcv hcl
    obtain ⟨hWx, hEx⟩ := hB
    rw [ht] at hWx
    have hO1 : lO cJ o v H1 := (hk o hoH hZ.2.2.2.2).trans hO
    obtain ⟨rfl, hE⟩ := hEx
    refine vx_catch (E := "java/lang/IllegalArgumentException") (name := "java/lang/IllegalArgumentException") hown [] (⟨0, 9, 12, 13⟩ : ExceptionTableEntry) [] htab (fun z hz => absurd hz List.not_mem_nil) (by decide) (by decide) (hts (.classLink RL 13 "java/lang/IllegalArgumentException") (by decide +kernel)) (am_zw_use (w := .castable "java/lang/IllegalArgumentException" "java/lang/IllegalArgumentException") (by decide +kernel) (hZ.2.1.2.2.1 _ (by decide +kernel))) hce hcv hcl ?_
    refine lv_astore_n hx hb0 dL_open_12 rfl hlv (by decide) rfl (fun ls hlv => ?_)
    refine lv_iconst (v := Int32.ofInt 1) hx hb0 dL_open_13 rfl ?_
    exact W.iret hx hb0 hr (fun t ht _ => ⟨⟨_, (v, σ), rfl, ⟨1, rfl, Or.inr ⟨"java/lang/IllegalArgumentException", ⟨rfl, hE⟩, rfl, rfl, by decide⟩⟩, by rw [ht]; exact hWx, by rw [ht]; exact hO1⟩, hS1.F ht⟩) hS1.2.2 dL_open_14 hlk
  · intro r9 u t H1 locs1 ht hvm hp hB hz hk hS1
    obtain ⟨r, rfl, hp⟩ := hp
    rw [ht] at hB
    have hO1 : lO cJ o v H1 := (hk o hoH hZ.2.2.2.2).trans hO
    refine lv_i2l hx hb0 dL_open_7 rfl ?_
    refine W.last (cell := arrV cJ 1 (fun _ => .long v)) (a := o) (j := Int32.ofInt 0) (x := (Int32.ofInt r).toInt64) hx hb0 hO1 (hZ.2.2.2.1 1 (fun _ => .long v)) (fun q => by cases q) (by show ¬ (_ ∨ (arrV _ _ _).slots.size ≤ _); rw [arrV_size]; decide) rfl rfl dL_open_8 fun H2 e2 z2 oq2 => ?_
    have hO2 : lO cJ o (Int32.ofInt r).toInt64 H2 := e2.trans (congrArg some lO_set)
    have hB2 : am_wd (gC g) u H2 := hB.kept (fun q hq => oq2 q (fun e => hZ.2.2.2.2 (e ▸ hq)))
    have hS2 := hS1.put (k := (Int32.ofInt 0).toNatClampNeg) z2 oq2 (Or.inr rfl : lA g o o)
    refine lv_goto (tgt := 15) hx hb0 dL_open_9 (by first | decide | rfl) ?_
    refine lv_iconst (v := Int32.ofInt 0) hx hb0 dL_open_15 rfl ?_
    exact W.iret hx hb0 hr (fun t ht _ => ⟨⟨_, ((Int32.ofInt r).toInt64, u), rfl, ⟨0, rfl, Or.inl ⟨rfl, r, rfl, hp⟩⟩, by rw [ht]; exact hB2, by rw [ht]; exact hO2⟩, hS2.F ht⟩) hS2.2.2 dL_open_16 hlk

set_option maxRecDepth 100000 in
set_option maxHeartbeats 4000000 in
/-- the law's usable -/
theorem w_usable (l : Launch) (hl : l.stackTraces = false) (g : am_g) (hI : am_inj (gC g)) (cJ : ClassId) (o : Nat) (v : Int64) (σ : am_M) (p1 p2 : Int) (hp1 : -2147483648 ≤ p1 ∧ p1 < 2147483648) (hp2 : -2147483648 ≤ p2 ∧ p2 < 2147483648) (S : ab_S) (b : Int) (hC : ab_C S σ) (hS : ab_I S b) : Met l yL_usable wsL_usable ({ frames := 7, cells := 1, slots := 6, locals := 104 }) (lP g cJ o v σ (.ref (g.2.2 0 0) :: .int (Int32.ofInt p1) :: .int (Int32.ofInt p2) :: [.ref o])) (lQ g cJ o (fun k v' σ' => (k = 0 ∧ ∃ r : Int, v' = (Int32.ofInt r).toInt64 ∧ (fun r σ' => σ' = σ ∧ ((0 ≤ p1 ∧ p1 < 4) ∧ (0 ≤ p2 ∧ p2 < 4) ∧ ¬ p1 = p2) ∧ r = ab_um S p1.toNat p2.toNat) r σ') ∨ (∃ E, (fun E => E = "java/lang/IllegalArgumentException" ∧ ¬ ((0 ≤ p1 ∧ p1 < 4) ∧ (0 ≤ p2 ∧ p2 < 4) ∧ ¬ p1 = p2)) E ∧ σ' = σ ∧ v' = v ∧ k = lK E))) 1 6 (lA g o) := by
  refine lq_start (cc := cL_usable) (nL := 5) (hh := [(0, 10, 13, 13)]) (by decide) rfl rfl (Nat.le_of_ble_eq_true rfl) ?_
  intro p e s m below meth c C hW hO ls hlv
  obtain ⟨hx, hb0, hml, hown, hts, hZ, htab, hr, hlk⟩ := C
  have hlv : lv_has ls 5 [(0, .ref (g.2.2 0 0)), (1, .int (Int32.ofInt p1)), (2, .int (Int32.ofInt p2)), (3, .ref o)] := hlv
  have hoH : o < s.heap.size := (Array.getElem?_eq_some_iff.mp hO).1
  refine lv_aload_n hx hb0 dL_usable_0 rfl (lv_at hlv 3 rfl) ?_
  refine lv_iconst (v := Int32.ofInt 0) hx hb0 dL_usable_1 rfl ?_
  refine lv_aload_n hx hb0 dL_usable_2 rfl (lv_at hlv 0 rfl) ?_
  refine lv_iload_n hx hb0 dL_usable_3 rfl (lv_at hlv 1 rfl) ?_
  refine lv_iload_n hx hb0 dL_usable_4 rfl (lv_at hlv 2 rfl) ?_
  refine vx_calli (A0 := lA g o) (vx_runV (As := [.int (Int32.ofInt p1), .int (Int32.ofInt p2)]) (rest := [.int (Int32.ofInt 0), .ref o]) ⟨hx, hb0, hml, hown, hts⟩ (c_X5_usable l hl g hI σ p1 p2 hp1 hp2 S b hC hS) (cwV 2 hts gL_usable_X5_usable rfl rfl rfl (by decide +kernel) ⟨Nat.le_of_ble_eq_true rfl, Nat.le_of_ble_eq_true rfl⟩) ⟨am_blindX (gC g) σ [.inr (0, 0), .inl p1, .inl p2], va_recv hZ.1.1 (am_one hW (k := 0) (i := 0) (show 0 < (1:Nat) by decide) rfl) (ci := 5) rfl (q0 := 0) rfl, fun U hU hW9 => ⟨rfl, by rw [hU]; exact hW, am_K.warm hW9 hZ.1, by rw [hU]; exact am_Z.go hW9 (hZ.2.1.narrow (fun _ h => Or.inl h)) (fun _ _ _ => rfl)⟩⟩ rfl rfl hlv.1 rfl (lv_room (Nat.le_of_ble_eq_true rfl)) dL_usable_5 ⟨Nat.le_of_ble_eq_true rfl, Nat.le_of_ble_eq_true rfl⟩) va_S.rf (fun q _ h => Or.inl h) (fun q h => Or.inl h) (fun q _ h => Or.inl h) ?_ ?_
  · intro E ce q9 u t H1 locs1 ht hvm hp hB hz hk hS1 hce hcv hcl
    obtain ⟨hWx, hEx⟩ := hB
    rw [ht] at hWx
    have hO1 : lO cJ o v H1 := (hk o hoH hZ.2.2.2.2).trans hO
    obtain ⟨rfl, hE⟩ := hEx
    refine vx_catch (E := "java/lang/IllegalArgumentException") (name := "java/lang/IllegalArgumentException") hown [] (⟨0, 10, 13, 13⟩ : ExceptionTableEntry) [] htab (fun z hz => absurd hz List.not_mem_nil) (by decide) (by decide) (hts (.classLink RL 13 "java/lang/IllegalArgumentException") (by decide +kernel)) (am_zw_use (w := .castable "java/lang/IllegalArgumentException" "java/lang/IllegalArgumentException") (by decide +kernel) (hZ.2.1.2.2.1 _ (by decide +kernel))) hce hcv hcl ?_
    refine lv_astore hx hb0 dL_usable_13 hlv (by decide) rfl (fun ls hlv => ?_)
    refine lv_iconst (v := Int32.ofInt 1) hx hb0 dL_usable_15 rfl ?_
    exact W.iret hx hb0 hr (fun t ht _ => ⟨⟨_, (v, σ), rfl, ⟨1, rfl, Or.inr ⟨"java/lang/IllegalArgumentException", ⟨rfl, hE⟩, rfl, rfl, by decide⟩⟩, by rw [ht]; exact hWx, by rw [ht]; exact hO1⟩, hS1.F ht⟩) hS1.2.2 dL_usable_16 hlk
  · intro r9 u t H1 locs1 ht hvm hp hB hz hk hS1
    obtain ⟨r, rfl, hp⟩ := hp
    rw [ht] at hB
    have hO1 : lO cJ o v H1 := (hk o hoH hZ.2.2.2.2).trans hO
    refine lv_i2l hx hb0 dL_usable_8 rfl ?_
    refine W.last (cell := arrV cJ 1 (fun _ => .long v)) (a := o) (j := Int32.ofInt 0) (x := (Int32.ofInt r).toInt64) hx hb0 hO1 (hZ.2.2.2.1 1 (fun _ => .long v)) (fun q => by cases q) (by show ¬ (_ ∨ (arrV _ _ _).slots.size ≤ _); rw [arrV_size]; decide) rfl rfl dL_usable_9 fun H2 e2 z2 oq2 => ?_
    have hO2 : lO cJ o (Int32.ofInt r).toInt64 H2 := e2.trans (congrArg some lO_set)
    have hB2 : am_wd (gC g) u H2 := hB.kept (fun q hq => oq2 q (fun e => hZ.2.2.2.2 (e ▸ hq)))
    have hS2 := hS1.put (k := (Int32.ofInt 0).toNatClampNeg) z2 oq2 (Or.inr rfl : lA g o o)
    refine lv_goto (tgt := 17) hx hb0 dL_usable_10 (by first | decide | rfl) ?_
    refine lv_iconst (v := Int32.ofInt 0) hx hb0 dL_usable_17 rfl ?_
    exact W.iret hx hb0 hr (fun t ht _ => ⟨⟨_, ((Int32.ofInt r).toInt64, u), rfl, ⟨0, rfl, Or.inl ⟨rfl, r, rfl, hp⟩⟩, by rw [ht]; exact hB2, by rw [ht]; exact hO2⟩, hS2.F ht⟩) hS2.2.2 dL_usable_18 hlk
