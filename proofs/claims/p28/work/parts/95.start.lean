/-! THE CLAIM OUT OF ONE WALK OF THE LAW'S BODY. Your part is whole_start (and what it stands on); all else here is the same for every law, but numbers. -/
def R_law : String := "FabricsimLaw"
def lw_P (b : Addr) (xs : List Int32) (args : Array Value) (s : State) : Prop := args = #[.ref b] ∧ s.IntsAt b xs ∧ xs.length ≤ 260 ∧ (Jvm.Cond.and given_1 narrow_1).before args s = true
def lw_Q (_ : Array Value) (s : State) (o : Outcome) (t : State) : Prop := o = .returned (some (.int 1)) ∧ Framed s o t [] 664514 7108083
def lw_Z (below : List Frame) (a : Array Value) (s : State) : State → Prop := fun t => ∃ o, t.status = .running ∧ Ended t below o ∧ lw_Q a s o t
/-- the law's own end, with 1 on the stack, nothing written that was there before, its room as the claim has it -/
theorem lw_ret {p : Program} {l : Launch} {e : Env} {s : State} {m : MethodId} {below : List Frame} {meth : Method} {c : Code} {b : Nat} (hx : p.tables.exec = Jvm.exec) (hb : c.code = code) (hr : meth.sig.returnType = ret) (hlocks : meth.locks = false) {pc : Nat} {H : Heap} {ls : Array Slot} (hdg : decode code pc = .ok (.ireturn, 1)) : W p l e room_1 s m #[Value.ref b] below meth c H [] 664514 7108083 (lw_Z below #[Value.ref b] s) (F0 m pc ls [.int 1]) := by
  intro T hT X
  obtain ⟨fs, hret, hrun, hended, hW, hframe⟩ := X.leave (v := some (.int 1)) (hlocks := hlocks) (fun h => by rw [hr] at h; cases h)
  have hmeth' : T.vm.method? m = some meth := X.method'
  refine ⟨T.setFrames fs, ?_, .returned (some (.int 1)), hrun, hended, rfl, ⟨_, rfl⟩, hW, hframe⟩
  jvm_step X.here [X.here.top, hx, hb, hdg, hmeth', hr, ret, narrow_b1]
  (try refine ⟨rfl, ?_⟩); (try refine ⟨rfl, ?_⟩)
  first | (intro acts; rw [hret _ acts rfl rfl rfl]) | rw [hret _ _ rfl rfl rfl]
  exact Steps.refl _
/-- what holds at the law's entry: the machine, the code, the tables' words (any of lw_tbl by 'hts w (by decide +kernel)'), the script of L ints xs at the cell b, what the Statement gives of the start (any of its parts by flat_of_before) -/
def lw_At (p : Program) (s : State) (m : MethodId) (meth : Method) (c : Code) (b L : Nat) (xs : Nat → Int32) : Prop :=
  p.tables.exec = Jvm.exec ∧ c.code = code ∧ meth.sig.returnType = ret ∧ c.maxLocals = 14 ∧ s.vm.findClass R_law = some m.cls ∧ (∀ w ∈ lw_tbl, w.before #[Value.ref b] s = true) ∧ va_X b L xs s s.heap ∧ b < s.heap.size ∧ meth.locks = false ∧ (Jvm.Cond.and given_1 narrow_1).before #[Value.ref b] s = true

/-! what holds of the tables and the classes at the law's entry -/
theorem lS_known {s : State} {args : Array Value} (hts : ∀ w ∈ lw_tbl, w.before args s = true) : ∃ D : va_G, ∀ (k : Nat) (q : vw_C), vwCl[k]? = some q → u_Kn s q.1 q.2.1 q.2.2 (D.1 k) (D.2 k) := by
  obtain ⟨c0, i0, h0⟩ := u_known (C := RX0) (T := TX0) (N := 13) (n := 13) hts (fun w h => (hw_wsX00 w h).1) (hts _ (by decide +kernel))
  obtain ⟨c1, i1, h1⟩ := u_known (C := RX1) (T := TX1) (N := 4) (n := 4) hts (fun w h => (hw_wsX10 w h).1) (hts _ (by decide +kernel))
  obtain ⟨c2, i2, h2⟩ := u_known (C := RX2) (T := TX2) (N := 7) (n := 7) hts (fun w h => (hw_wsX20 w h).1) (hts _ (by decide +kernel))
  obtain ⟨c3, i3, h3⟩ := u_known (C := RX3) (T := TX3) (N := 3) (n := 3) hts (fun w h => (hw_wsX30 w h).1) (hts _ (by decide +kernel))
  obtain ⟨c4, i4, h4⟩ := u_known (C := RX4) (T := TX4) (N := 4) (n := 4) hts (fun w h => (hw_wsX40 w h).1) (hts _ (by decide +kernel))
  obtain ⟨c5, i5, h5⟩ := u_known (C := RX5) (T := TX5) (N := 13) (n := 13) hts (fun w h => (hw_wsX50 w h).1) (hts _ (by decide +kernel))
  refine ⟨(fun k => if k = 0 then c0 else if k = 1 then c1 else if k = 2 then c2 else if k = 3 then c3 else if k = 4 then c4 else c5, fun k => if k = 0 then i0 else if k = 1 then i1 else if k = 2 then i2 else if k = 3 then i3 else if k = 4 then i4 else i5), ?_⟩
  intro k q hq
  match k, hq with
  | 0, hq => cases hq; exact h0
  | 1, hq => cases hq; exact h1
  | 2, hq => cases hq; exact h2
  | 3, hq => cases hq; exact h3
  | 4, hq => cases hq; exact h4
  | 5, hq => cases hq; exact h5
  | k + 6, hq => simp [vwCl] at hq
theorem lS_arr {s : State} {args : Array Value} {ty : FieldType} (hr : ∀ c : ClassId, s.vm.findClass ("[" ++ ty.toString) = some c → va_RA s c ty) (h : (Cond.arrayClass ty).before args s = true) : ∃ c : ClassId, ArrOfT s c ty ∧ va_RA s c ty := by
  obtain ⟨c, k, comp, h1, h2, h3⟩ := Cond.arrayClass_spec h
  exact ⟨c, fun n z => ⟨(fun k h => by cases h), k, h2, comp, h3⟩, hr c h1⟩
theorem lS_over {s : State} {C : String} (h : va_AO C s) : ∃ c : ClassId, ArrOfT s c (.object C) ∧ va_RA s c (.object C) := by
  obtain ⟨comp, c, k, h1, h2, h3, h4, h5⟩ := Cond.arrayOver_spec h
  exact ⟨c, fun n z => ⟨(fun k h => by cases h), k, h3, comp, h4⟩, k, comp, h3, h4, h1, h5⟩
theorem lS_ao {s : State} {args : Array Value} (hts : ∀ w ∈ lw_tbl, w.before args s = true) : am_AO s :=
  ⟨va_AO.of (hts _ (by decide +kernel)), va_AO.of (hts _ (by decide +kernel)), va_AO.of (hts _ (by decide +kernel)), va_AO.of (hts _ (by decide +kernel)), va_AO.of (hts _ (by decide +kernel))⟩
theorem lS_arrays {s : State} {args : Array Value} (hts : ∀ w ∈ lw_tbl, w.before args s = true) : ∃ tc : Nat → ClassId, ∀ (k : Nat) (q : ClassId × FieldType), (am_tyl tc)[k]? = some q → ArrOfT s q.1 q.2 ∧ va_RA s q.1 q.2 := by
  have hao := lS_ao hts
  obtain ⟨c0, h0⟩ := lS_arr (ty := .int) (fun _ h => h) (hts (.arrayClass .int) (by decide +kernel))
  obtain ⟨c1, h1⟩ := lS_arr (ty := .int) (fun _ h => h) (hts (.arrayClass .int) (by decide +kernel))
  obtain ⟨c2, h2⟩ := lS_over hao.1
  obtain ⟨c3, h3⟩ := lS_over hao.2.1
  obtain ⟨c4, h4⟩ := lS_over hao.2.2.1
  obtain ⟨c5, h5⟩ := lS_over hao.2.2.2.1
  obtain ⟨c6, h6⟩ := lS_over hao.2.2.2.2
  refine ⟨fun k => if k = 0 then c0 else if k = 1 then c1 else if k = 2 then c2 else if k = 3 then c3 else if k = 4 then c4 else if k = 5 then c5 else c6, ?_⟩
  intro k q hq
  match k, hq with
  | 0, hq => cases hq; exact h0
  | 1, hq => cases hq; exact h1
  | 2, hq => cases hq; exact h2
  | 3, hq => cases hq; exact h3
  | 4, hq => cases hq; exact h4
  | 5, hq => cases hq; exact h5
  | 6, hq => cases hq; exact h6
  | k + 7, hq => simp [am_tyl] at hq
theorem lS_nest : ∀ w ∈ am_nest, w ∈ lw_tbl := by decide +kernel
theorem lS_nestT : ∀ w ∈ am_nest, w.onTables = true := by decide +kernel
theorem lS_zw : ∀ w ∈ am_zw, w ∈ lw_tbl := by decide +kernel
theorem lS_zwT : ∀ w ∈ am_zw, w.onTables = true := by decide +kernel
theorem lS_tx : ∀ t ∈ am_tx, Cond.stringRef RX5 t.1 t.2 ∈ lw_tbl := by decide +kernel
theorem lS_txE : ∀ t ∈ am_tx, Cond.exactly (.string RX5 t.1) "java/lang/String" ∈ flatC (Jvm.Cond.and given_1 narrow_1) := by decide +kernel
theorem lS_Z {s : State} {args : Array Value} (hts : ∀ w ∈ lw_tbl, w.before args s = true) (hgv : (Jvm.Cond.and given_1 narrow_1).before args s = true) : am_Z (lB s) s s.heap := by
  have hs := flat_of_before _ hgv
  have hA : ∀ a : Nat, a < s.heap.size → ¬ lB s a := fun a h => Nat.not_le.mpr h
  refine ⟨vx_Zqof (hts _ (by decide +kernel)) (hts _ (by decide +kernel)) (hs _ (by decide +kernel)) hA, vx_Zqof (hts _ (by decide +kernel)) (hts _ (by decide +kernel)) (hs _ (by decide +kernel)) hA, fun w hw => va_Nw.of (lS_zwT w hw) (hts w (lS_zw w hw)), fun t ht => ?_⟩
  obtain ⟨a, c, cell, k, q1, -⟩ := Cond.exactly_spec (hs _ (lS_txE t ht))
  exact ⟨a, vk_R.of (hts _ (lS_tx t ht)) q1⟩
theorem lS_Nc {s : State} {args : Array Value} (hgv : (Jvm.Cond.and given_1 narrow_1).before args s = true) : va_Nc "java/lang/IllegalStateException" "java/lang/IllegalArgumentException" s :=
  va_Nc.of (flat_of_before _ hgv _ (by decide +kernel))
theorem lS_fl : (!List.contains flags0 noTraceFlag) = false := by decide +kernel
set_option maxHeartbeats 4000000 in
set_option maxRecDepth 100000 in
/-- THE LAW, from its entry -/
theorem whole_start {p : Program} {e : Env} {s : State} {m : MethodId} {below : List Frame} {meth : Method} {c : Code} (l : Launch) (hflags : l.flags = flags0) {b L : Nat} {xs : Nat → Int32} (hL : L ≤ 260) (C0 : lw_At p s m meth c b L xs) : W p l e room_1 s m #[Value.ref b] below meth c s.heap [] 0 0 (lw_Z below #[Value.ref b] s) (entryFrame m ([Value.ref b] : List Value).toArray 14) := by
  obtain ⟨hx, hb, hr, hml, hown, hts, hX, hbl, hlocks, hgv⟩ := id C0
  have hl : l.stackTraces = false := by unfold Launch.stackTraces; rw [hflags]; exact lS_fl
  obtain ⟨D, hKc⟩ := lS_known hts
  obtain ⟨tc, hKt⟩ := lS_arrays hts
  have hAO := lS_ao hts
  have hZ := lS_Z hts hgv
  have hNc := lS_Nc hgv
  have hK : ∀ (ad : Nat → Nat → Nat) (ly : am_L), am_K (D, tc, ad, ly) s := fun ad ly => ⟨⟨hKc, hKt⟩, fun w hw => va_Nw.of (lS_nestT w hw) (hts w (lS_nest w hw))⟩
  have S0 : CallFix p m c cL_law 14 s #[Value.ref b] lw_tbl RL := ⟨hx, hb, hml, hown, hts⟩
  have hlv := lv_entry ([.ref b]) (n := 14) (Nat.le_of_ble_eq_true rfl)
  rw [lg_entry_eq]
  generalize (lg_sl ([.ref b]) ++ List.replicate (14 - (lg_sl ([.ref b])).length) Slot.unset).toArray = ls at hlv ⊢
  have hlv : lv_has ls 14 [(0, .ref b)] := hlv
  obtain ⟨n0, hn0⟩ : ∃ n0 : Nat, n0 = s.heap.size := ⟨_, rfl⟩
  refine l_new (cc := cL_law) (own := RL) (Ts := lw_tbl) (ci := 5) (sl := [some (1, 0), some (2, 0), some (3, 0), some (4, 0), some (5, 0), some (6, 0), some (7, 0), some (8, 0), none, none, none, none, none]) (Cn := RX5) (T := TX5) (N := 13) (index := 10) (a := n0) hx hb hown hts (gC (ad_G D tc n0 0)) [true, true, true, true, true, true, true, true, false, false, false, false, false] rfl (hKc 5 _ rfl) hn0.symm (fun w h => (hw_wsX50 w h).1) tyX5 tyX5_ok (by decide +kernel) (by decide +kernel) (by decide +kernel) rfl (by decide +kernel) (Nat.le_of_ble_eq_true rfl) (Nat.le_of_ble_eq_true rfl) dL_law_0 (fun H1 hat1 hz1 ho1 => ?_)
  refine lv_dup hx hb dL_law_3 rfl ?_
  have hcw1 := ad_cwC D tc n0 0 hz1 hat1
  have hS1 : va_S (lB s) s.heap H1 [] := ⟨by omega, fun q h1 _ => ho1 q (by omega), fun _ h => by cases h⟩
  have hFC : ∀ (y q : Nat), am_FA (gC (ad_G D tc n0 y)) q → lB s q := fun y q h => by have := ad_FC D tc n0 y h; show s.heap.size ≤ q; omega
  refine va_callv (va_runI (As := []) (rest := [.ref n0]) S0 (cc_X5_init l (ad_G D tc n0 0) (ad_injC D tc n0 0) (n0 + 1) (fun _ _ _ => 0) (ad_cA D tc n0 0)) (cwI 0 hts hg_wsX5_init rfl rfl rfl (hts _ (by decide +kernel)) (hts _ (by decide +kernel)) (hts _ (by decide +kernel)) rfl (by decide +kernel) ⟨Nat.le_of_ble_eq_true rfl, Nat.le_of_ble_eq_true rfl⟩) ⟨cP_blind _ _ _, fun U hU hW9 => ⟨rfl, by rw [hU]; exact hcw1, am_K.warm hW9 (hK _ _), hAO.moved hW9.alike⟩⟩ rfl rfl hlv.1 rfl (lv_room (Nat.le_of_ble_eq_true rfl)) dL_law_4 ⟨Nat.le_of_ble_eq_true rfl, Nat.le_of_ble_eq_true rfl⟩) hS1 (fun q _ h => hFC 0 q h) (fun q h => hFC 0 q h) (fun σ t H2 locs2 ht hvm hC hB hz2 hk2 hS2 => ?_)
  rw [ht] at hB
  refine lv_astore_n (lv' := [(1, .ref n0), (0, .ref b)]) hx hb dL_law_7 rfl hlv (by decide) rfl (fun ls hlv => ?_)
  obtain ⟨y, hy⟩ : ∃ y : Nat, y = H2.size := ⟨_, rfl⟩
  refine lv_bipush (v := 24) hx hb dL_law_8 (by decide) ?_
  refine va_newaK (cc := cL_law) (N := 24) (h := y) hx hb (hts _ (by decide +kernel)) rfl dL_law_10 rfl (by decide) (by decide) (by decide) (Nat.le_of_ble_eq_true rfl) (Nat.le_of_ble_eq_true rfl) hy.symm (fun H3 c3 e3 z3 o3 hAr3 hN3 => ?_)
  refine lv_astore_n (lv' := [(2, .ref y), (1, .ref n0), (0, .ref b)]) hx hb dL_law_12 rfl hlv (by decide) rfl (fun ls hlv => ?_)
  refine lv_iconst (v := 4) hx hb dL_law_13 (by decide) ?_
  refine va_newaK (cc := cL_law) (N := 4) (h := y + 1) hx hb (hts _ (by decide +kernel)) rfl dL_law_14 rfl (by decide) (by decide) (by decide) (Nat.le_of_ble_eq_true rfl) (Nat.le_of_ble_eq_true rfl) z3 (fun H4 c4 e4 z4 o4 hAr4 hN4 => ?_)
  refine lv_astore_n (lv' := [(3, .ref (y + 1)), (2, .ref y), (1, .ref n0), (0, .ref b)]) hx hb dL_law_16 rfl hlv (by decide) rfl (fun ls hlv => ?_)
  have hKi : s.vm.findClass ("[" ++ FieldType.int.toString) = some (tc 0) := (hKt 0 _ rfl).2
  have q3 : tc 0 = c3 := Option.some.inj (hKi.symm.trans hN3)
  have q4 : tc 0 = c4 := Option.some.inj (hKi.symm.trans hN4)
  have hn2 : s.heap.size ≤ H2.size := hS2.1
  have hC2 : am_wd (gC (ad_G D tc n0 y)) σ H2 := ad_tr D tc n0 0 y hB
  have hlt : ∀ q, am_FA (gC (ad_G D tc n0 y)) q → q < y := fun q hq => by have := hC2.lt hq; omega
  have hC4 : am_wd (gC (ad_G D tc n0 y)) σ H4 := hC2.kept (fun q hq => by
    have h9 := hlt q hq
    exact (o4 q (by omega)).trans (o3 q h9))
  have h0 : Value.int (Int32.ofInt 0) = defaultValue FieldType.int := rfl
  have hA3 : H4[y]? = some (vp_cell (tc 0) (24, .inl (fun _ => Int32.ofInt 0))) := by
    rw [o4 y (by omega), e3, vp_cell_i, q3]
    rfl
  have hA4 : H4[y + 1]? = some (vp_cell (tc 0) (4, .inl (fun _ => Int32.ofInt 0))) := by
    rw [e4, vp_cell_i, q4]
    rfl
  have hS4 : va_S (lB s) s.heap H4 locs2 := ⟨by omega, fun q h1 h2 => ((o4 q (by omega)).trans (o3 q (by omega))).trans (hS2.2.1 q h1 h2), hS2.2.2⟩
  have hFL : ∀ q, am_FA (gL (ad_G D tc n0 y)) q → s.heap.size ≤ q := fun q hq => by
    rcases ad_FL D tc n0 y hq with h | h <;> omega
  have hIL := ad_injL D tc n0 y hlt
  have C9 : lq_C (ad_G D tc n0 y) p s m #[Value.ref b] c cL_law 14 lw_tbl (lB s) := ⟨S0, ⟨hK _ _, hZ.narrow (fun q h => hFL q h), hNc⟩, hIL, fun q h => hFL q h, fun a h _ => Nat.not_le.mpr h⟩
  refine W.widen (k := 531) (n := 2909) (Nat.le_of_ble_eq_true rfl) (Nat.le_of_ble_eq_true rfl) ?_
  exact law_body l hl (ad_G D tc n0 y) hIL C9 hX hbl (fun h => by have := hFL b h; omega) hL (fun H ls => by rw [show qi 1 = Value.int 1 from congrArg Value.int (by decide)]; exact lw_ret hx hb hr hlocks dL_law_652) (l_mix σ (fun _ _ _ => 0)) (C_mix hC) (fun j => by rw [mix_hi _ _ (by omega)]) H4 locs2 ls (ad_wdL D tc n0 y hC4 hA3 hA4) hS4 (lv_sub hlv [3, 2, 1, 0] rfl)
