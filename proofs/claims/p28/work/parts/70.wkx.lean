/-! methods that may throw, in the walk's words -/
def am_tx : List (Nat × String) := [(109, "delay, gap or window is out of range"), (117, "target is source"), (119, "packets or later is out of range"), (123, "there is no room for another flow"), (136, "the connection is cut"), (141, "the connection is not cut"), (149, "ticks is out of range"), (152, "too many ticks would have passed"), (191, "a leaf is out of range, or other is leaf"), (330, "there is no such host"), (332, "there is no such leaf or spine"), (336, "there is no such flow")]
def xIA : String := "java/lang/IllegalArgumentException"
def xIS : String := "java/lang/IllegalStateException"
def xIO : String := "java/lang/IndexOutOfBoundsException"
def am_exs : List String := ["java/lang/IllegalArgumentException", "java/lang/IllegalStateException", "java/lang/IndexOutOfBoundsException"]
def am_zw : List Cond := [.castable "java/lang/IllegalArgumentException" "java/lang/IllegalArgumentException", .castable "java/lang/IllegalStateException" "java/lang/IllegalStateException", .castable "java/lang/IndexOutOfBoundsException" "java/lang/IndexOutOfBoundsException", .declares (Bundle.initS "java/lang/RuntimeException"), .declares (Bundle.initS "java/lang/Exception"), .declares (Bundle.initS Bundle.tN)]
def am_isZ : Cond → Bool
  | .castable _ _ => true
  | .declares _ => true
  | _ => false
theorem am_zw_all : ∀ w ∈ am_zw, am_isZ w = true := by decide +kernel
theorem am_zw_warm {w : Cond} (h : am_isZ w = true) {s U : State} (hW : s.WarmedH U.vm) (hZ : va_Nw w s) : va_Nw w U := by
  cases w <;> first | exact va_Nw.warmC hW hZ | exact va_Nw.warmD hW hZ | exact absurd h (by simp [am_isZ])
theorem am_zw_use {w : Cond} (h : am_isZ w = true) {A : Array Value} {U : State} (hZ : va_Nw w U) : w.before A U = true := by
  cases w <;> first | exact va_Nw.use rfl hZ | exact absurd h (by simp [am_isZ])
/-- what a throw needs of the world: two statics of Throwable's, the texts, the classes -/
def am_Z (A : Nat → Prop) (U : State) (H : Heap) : Prop :=
  vx_Zq Bundle.tN "UNASSIGNED_STACK" Bundle.steD A U H ∧ vx_Zq Bundle.tN "SUPPRESSED_SENTINEL" Bundle.listD A U H ∧ (∀ w ∈ am_zw, va_Nw w U) ∧ ∀ t ∈ am_tx, ∃ a : Nat, vk_R RX5 t.1 t.2 a U
theorem am_Z.go {A : Nat → Prop} {s U : State} {H H0 : Heap} (hW : s.WarmedH U.vm) (h : am_Z A s H0) (hk : ∀ a : Nat, a < H0.size → ¬ A a → H[a]? = H0[a]?) : am_Z A U H := by
  obtain ⟨h1, h2, h3, h4⟩ := h
  refine ⟨(h1.kept hk).moved hW.alike, (h2.kept hk).moved hW.alike, fun w hw => am_zw_warm (am_zw_all w hw) hW (h3 w hw), fun t ht => ?_⟩
  obtain ⟨a, ha⟩ := h4 t ht
  exact ⟨a, ha.warm hW⟩
def am_PX (G : am_G) (σ : am_M) (av : List am_V) : Array Value → State → Prop := va_Pc (av.map (am_tv G)) (fun U => am_wd G σ U.heap ∧ am_K G U ∧ am_Z (am_FA G) U U.heap)
theorem am_blindX (G : am_G) (σ : am_M) (av : List am_V) : FrameBlind (am_PX G σ av) := fun a U g mk h => ⟨h.1, h.2.1, am_K.same (u := U) (U := U.calling g mk a) rfl h.2.2.1, am_Z.go (s := U) (U := U.calling g mk a) (State.WarmedH.refl U) h.2.2.2 (fun _ _ _ => rfl)⟩
def am_X (G : am_G) (σ : am_M) (ex : String → Prop) : String → State → State → Prop := vx_X (S := Unit) (fun _ => True) (fun E _ t => am_wd G σ t.heap ∧ ex E) (am_FA G)
theorem wkx_start {G : am_G} {l : Launch} {y : MethodName} {ws ws' : List Cond} {rm : Room} {Qc : Array Value → State → Outcome → State → Prop} {XC : String → State → State → Prop} {mc ms : Nat} {cc : ByteArray} {nL : Nat} {ret : Option FieldType} {own : String} {av : List am_V} {σ : am_M}
    (hy : plainName y.cls = true) (hw : ws = Cond.code y cc nL ret :: ws') (hI : am_inj G) (hcls : y.cls = own) (hlen : av.length ≤ nL)
    (body : ∀ p e s m below meth c, wk_C G p s m (av.map (am_tv G)).toArray c cc nL own ws (am_FA G) → am_Z (am_FA G) s s.heap → (∀ x ∈ c.exceptionTable.toList, False) → meth.sig.returnType = ret → meth.locks = false →
      wk G p l e (headSpec ws rm).room s m (av.map (am_tv G)).toArray below meth c 0 0 (vx_MQ below Qc XC (av.map (am_tv G)).toArray s mc ms (am_FA G)) (am_FA G) s.heap nL 0 (av.map some ++ List.replicate (nL - av.length) none) [] σ) :
    vx_Met l y ws rm (am_PX G σ av) Qc XC mc ms (am_FA G) := by
  refine vx_ofW (cc := cc) (maxL := nL) (ret := ret) hy hw ?_
  intro p e s m args below meth c s₁ B hml hno hv
  obtain ⟨rfl, hW, hK, hZ⟩ := hv
  have hts := atoms_spec (ws := ws) B.pre
  have hown : s.vm.findClass own = some m.cls := hcls ▸ findClass_of_methodNamed B.named
  rw [lg_entry_eq]
  have hl := lv_entry (av.map (am_tv G)) (n := nL) (by rw [am_lgsl]; exact hlen)
  rw [am_lv_args G (nL - av.length) av 0] at hl
  exact body p e s m below meth c ⟨B.exec, B.bytes, hml, hown, hts, hK, hI, fun _ h => h⟩ hZ hno B.returns B.notSynchronized s.heap [] _ hW va_S.rf hl
section WKX
variable {G : am_G} {p : Program} {l : Launch} {e : Env} {R : Room} {s : State} {m : MethodId} {args : Array Value} {below : List Frame} {meth : Method} {c : Code} {cells slots mc ms : Nat}
variable {nL pc : Nat} {lv : List (Option am_V)} {st : List am_V} {σ : am_M} {cc : ByteArray} {own : String} {Ts : List Cond} {XC : String → State → State → Prop}
theorem wkx_iret (C : wk_C G p s m args c cc nL own Ts (am_FA G)) (hr : meth.sig.returnType = some .int) (hlk : meth.locks = false) (hc : cells ≤ mc) (hs : slots ≤ ms) {post : Int → am_M → Prop} {x : Int} (hdg : decode cc pc = .ok (.ireturn, 1)) (hp : post x σ) : wk G p l e R s m args below meth c cells slots (vx_MQ below (am_QI G post) XC args s mc ms (am_FA G)) (am_FA G) s.heap nL pc lv [.inl x] σ := by
  intro H locs ls hW hS hL
  refine vx_ret (W.widen hc hs ?_)
  exact W.iret C.1 C.2.1 hr (fun t ht _ => ⟨⟨_, σ, rfl, ⟨x, rfl, hp⟩, by show am_wd G σ t.heap; rw [ht]; exact hW⟩, hS.F ht⟩) (fun q hq => hS.2.2 q hq) hdg hlk
theorem wkx_vret (C : wk_C G p s m args c cc nL own Ts (am_FA G)) (hr : meth.sig.returnType = none) (hlk : meth.locks = false) (hc : cells ≤ mc) (hs : slots ≤ ms) {post : am_M → Prop} (hdg : decode cc pc = .ok (.return_, 1)) (hp : post σ) : wk G p l e R s m args below meth c cells slots (vx_MQ below (am_QV G post) XC args s mc ms (am_FA G)) (am_FA G) s.heap nL pc lv [] σ := by
  intro H locs ls hW hS hL
  refine vx_ret (W.widen hc hs ?_)
  exact W.vret C.1 C.2.1 hr (fun t ht _ => ⟨⟨σ, rfl, hp, by show am_wd G σ t.heap; rw [ht]; exact hW⟩, hS.F ht⟩) (fun q hq => hS.2.2 q hq) hdg hlk
theorem wkx_ofV (C : wk_C G p s m args c cc nL own Ts (am_FA G)) {stk : List am_V} {a : Array Value} {post : am_M → Prop} {ex exO : String → Prop} {mc1 ms1 : Nat} {Qc : Array Value → State → Outcome → State → Prop}
    (hr : ∀ (H : Heap) (locs : List Loc) (ls : Array Slot), am_wd G σ H → va_S (am_FA G) s.heap H locs → ls.size = nL → vx_Run p l e R s m args below meth c H locs cells slots mc1 ms1 (F0 m pc ls (stk.map (am_tv G))) (st.map (am_tv G)) (am_QV G post a) (am_X G σ ex) (am_FA G))
    (hno : ∀ x ∈ c.exceptionTable.toList, False) (hlk : meth.locks = false) (hex : ∀ E, ex E → exO E) (hm1 : cells + mc1 ≤ mc) (hm2 : slots + ms1 ≤ ms)
    (kk : ∀ (σ' : am_M), post σ' → wk G p l e R s m args below meth c (cells + mc1) (slots + ms1) (vx_MQ below Qc (am_X G σ exO) args s mc ms (am_FA G)) (am_FA G) s.heap nL (pc + 3) lv st σ') :
    wk G p l e R s m args below meth c cells slots (vx_MQ below Qc (am_X G σ exO) args s mc ms (am_FA G)) (am_FA G) s.heap nL pc lv stk σ := by
  intro H locs ls hW hS hL
  refine vx_callv (hr H locs ls hW hS hL.1) hS (fun q _ h => h) (fun q h => h) (fun q _ h => h) ?_ ?_
  · intro E ce q9 u t H1 locs1 ht hvm hp hB hz hk hS1 hce hcv hcl
    exact vx_out (fun x hx => (hno x hx).elim) hlk hce hcv hcl (fun t2 ht2 hvm2 => ⟨(), trivial, ⟨by rw [ht2, ← ht]; exact hB.1, hex E hB.2⟩, hS1.F ht2⟩) (fun z hz2 => hS1.2.2 z hz2) hm1 hm2
  · intro u t H1 locs1 ht hvm hp hB hz hk hS1
    exact kk u hp H1 locs1 ls (by rw [← ht]; exact hB) hS1 hL
section VIRT
variable {y : MethodName} {ws' : List Cond} {rm : Room} {bytes : ByteArray} {maxL n index k0 i0 ci N mc1 ms1 : Nat} {ret : Option FieldType} {Cn host : String} {T : u_T} {sl : List (Option (Nat × Nat))} {av stk : List am_V} {Qc : Array Value → State → Outcome → State → Prop}
theorem wkx_runS (C : wk_C G p s m args c cc nL own Ts (am_FA G)) (hZ : am_Z (am_FA G) s s.heap) (hM : vx_Met l y ws' rm (am_PX G σ av) Qc XC mc1 ms1 (am_FA G)) (cw : CallB R s args own index y bytes maxL ret ws' rm mc1 ms1 n ∧ (Cond.static y).before args s = true)
    (hn : av.length = n) (hstk : stk = av.reverse ++ st) (hst : st.length ≤ 8) (hdg : decode cc pc = .ok (.invokestatic index, 3)) (hc : cells + mc1 ≤ R.cells) (hs : slots + ms1 ≤ R.slots) :
    ∀ (H : Heap) (locs : List Loc) (ls : Array Slot), am_wd G σ H → va_S (am_FA G) s.heap H locs → ls.size = nL → vx_Run p l e R s m args below meth c H locs cells slots mc1 ms1 (F0 m pc ls (stk.map (am_tv G))) (st.map (am_tv G)) (Qc (av.map (am_tv G)).toArray) XC (am_FA G) := by
  intro H locs ls hW hS hL
  exact vx_runS (As := av.map (am_tv G)) ⟨C.1, C.2.1, C.2.2.1, C.2.2.2.1, C.2.2.2.2.1⟩ hM cw ⟨am_blindX _ _ _, fun U hU hW9 => ⟨rfl, by rw [hU]; exact hW, am_K.warm hW9 C.2.2.2.2.2.1, by rw [hU]; exact am_Z.go hW9 hZ hS.2.1⟩⟩ rfl (by rw [List.length_map]; exact hn) hL (by rw [hstk, List.map_append, List.map_reverse]) (wk_room hst) hdg ⟨hc, hs⟩
theorem wkx_runV (C : wk_C G p s m args c cc nL own Ts (am_FA G)) (hZ : am_Z (am_FA G) s s.heap) (hM : vx_Met l y ws' rm (am_PX G σ (.inr (k0, i0) :: av)) Qc XC mc1 ms1 (am_FA G)) (cw : CallW R s args own Cn index y bytes maxL ret ws' rm mc1 ms1 n)
    (hsh : G.2.2.2.2 k0 i0 = .inl (ci, sl)) (hi : i0 < G.2.2.2.1 k0) (hcl : vwCl[ci]? = some (Cn, T, N)) (hn : av.length = n) (hstk : stk = av.reverse ++ .inr (k0, i0) :: st) (hst : st.length ≤ 8) (hdg : decode cc pc = .ok (.invokevirtual index, 3)) (hc : cells + mc1 ≤ R.cells) (hs : slots + ms1 ≤ R.slots) :
    ∀ (H : Heap) (locs : List Loc) (ls : Array Slot), am_wd G σ H → va_S (am_FA G) s.heap H locs → ls.size = nL → vx_Run p l e R s m args below meth c H locs cells slots mc1 ms1 (F0 m pc ls (stk.map (am_tv G))) (st.map (am_tv G)) (Qc ((.inr (k0, i0) :: av).map (am_tv G)).toArray) XC (am_FA G) := by
  intro H locs ls hW hS hL
  exact vx_runV (As := av.map (am_tv G)) ⟨C.1, C.2.1, C.2.2.1, C.2.2.2.1, C.2.2.2.2.1⟩ hM cw ⟨am_blindX _ _ _, va_recv C.2.2.2.2.2.1.1 (am_one hW hi (by rw [hsh]; rfl)) hcl (q0 := 0) rfl, fun U hU hW9 => ⟨rfl, by rw [hU]; exact hW, am_K.warm hW9 C.2.2.2.2.2.1, by rw [hU]; exact am_Z.go hW9 hZ hS.2.1⟩⟩ rfl (by rw [List.length_map]; exact hn) hL (wk_stk hstk) (wk_room hst) hdg ⟨hc, hs⟩
end VIRT
theorem am_hat {cls : String} {ic : Nat} {names : List String} {A : Nat → Prop} {H : Heap} (hZ : am_Z A s H) (h2 : ∀ w ∈ (vx_atS own ic cls names).filter (fun w => !goodWord w), w ∈ am_zw) (hin : ∀ w ∈ (vx_atS own ic cls names).filter goodWord, w.before args s = true) : ∀ w ∈ vx_atS own ic cls names, w.before args s = true :=
  vx_hat hin h2 (fun w hw => am_zw_use (am_zw_all w hw) (hZ.2.2.1 w hw))
theorem wkx_throw (C : wk_C G p s m args c cc nL own Ts (am_FA G)) (hZ : am_Z (am_FA G) s s.heap) (hl : l.stackTraces = false) (hno : ∀ x ∈ c.exceptionTable.toList, False) (hlk : meth.locks = false) {cls text : String} {names : List String} {ik is ic : Nat} {exO : String → Prop} {Qc : Array Value → State → Outcome → State → Prop}
    (hcls : Bundle.fit cls = true) (hnames : ∀ n ∈ names, Bundle.fit n = true) (hk : Cond.classLink own ik cls ∈ Ts) (hini : Cond.initialized cls ∈ Ts) (htx : (is, text) ∈ am_tx) (hown : own = RX5)
    (h2 : ∀ w ∈ (vx_atS own ic cls names).filter (fun w => !goodWord w), w ∈ am_zw) (hin : ∀ w ∈ (vx_atS own ic cls names).filter goodWord, w ∈ Ts)
    (hgood : ∀ w ∈ Cond.classLink own ik cls :: Cond.initialized cls :: vx_atS own ic cls names, vx_ot w = true)
    (d0 : decode cc pc = .ok (.new ik, 3)) (d3 : decode cc (pc + 3) = .ok (.dup, 1)) (d4 : decode cc (pc + 4) = .ok (.ldc is, 2)) (d6 : decode cc (pc + 6) = .ok (.invokespecial ic, 3)) (d9 : decode cc (pc + 9) = .ok (.athrow, 1))
    (hRf : names.length + 3 < R.frames) (hRl : 13 * (names.length + 1) + 43 ≤ R.locals) (hRc : cells + 1 ≤ R.cells) (hRs : slots + 6 ≤ R.slots) (hc : cells + 1 ≤ mc) (hs : slots + 6 ≤ ms) (hex : exO cls) :
    wk G p l e R s m args below meth c cells slots (vx_MQ below Qc (am_X G σ exO) args s mc ms (am_FA G)) (am_FA G) s.heap nL pc lv [] σ := by
  intro H locs ls hW hS hL
  obtain ⟨sa, hsa⟩ := hZ.2.2.2 _ htx
  subst hown
  exact vx_throwS (rest := []) (A := am_FA G) C.1 C.2.1 hl C.2.2.2.1 hcls hnames (C.2.2.2.2.1 _ hk) (C.2.2.2.2.1 _ hini) hsa (am_hat hZ h2 (fun w hw => C.2.2.2.2.1 w (hin w hw))) hgood hZ.1 hZ.2.1 hS (hL.1.trans C.2.2.1.symm) d0 d3 d4 d6 d9 (fun x hx => (hno x hx).elim) hRf (by simpa using hRl) hRc hRs hlk
    (fun t hvm hsz hkp => ⟨(), trivial, ⟨am_wd.kept hW (fun q hq => hkp q (am_wd.lt hW hq)), hex⟩, Nat.le_trans hS.1 hsz, fun q h1 h9 => (hkp q (Nat.lt_of_lt_of_le h1 hS.1)).trans (hS.2.1 q h1 h9)⟩) (fun z hz => hS.2.2 z hz) hc hs
theorem wkx_throwW (C : wk_C G p s m args c cc nL own Ts (am_FA G)) (hZ : am_Z (am_FA G) s s.heap) (hl : l.stackTraces = false) (hno : ∀ x ∈ c.exceptionTable.toList, False) (hlk : meth.locks = false) {cls text : String} {names : List String} {ik is ic : Nat} {exO : String → Prop} {Qc : Array Value → State → Outcome → State → Prop}
    (hcls : Bundle.fit cls = true) (hnames : ∀ n ∈ names, Bundle.fit n = true) (hk : Cond.classLink own ik cls ∈ Ts) (hini : Cond.initialized cls ∈ Ts) (htx : (is, text) ∈ am_tx) (hown : own = RX5)
    (h2 : ∀ w ∈ (vx_atS own ic cls names).filter (fun w => !goodWord w), w ∈ am_zw) (hin : ∀ w ∈ (vx_atS own ic cls names).filter goodWord, w ∈ Ts)
    (hgood : ∀ w ∈ Cond.classLink own ik cls :: Cond.initialized cls :: vx_atS own ic cls names, vx_ot w = true)
    (d0 : decode cc pc = .ok (.new ik, 3)) (d3 : decode cc (pc + 3) = .ok (.dup, 1)) (d4 : decode cc (pc + 4) = .ok (.ldc_w is, 3)) (d6 : decode cc (pc + 7) = .ok (.invokespecial ic, 3)) (d9 : decode cc (pc + 10) = .ok (.athrow, 1))
    (hRf : names.length + 3 < R.frames) (hRl : 13 * (names.length + 1) + 43 ≤ R.locals) (hRc : cells + 1 ≤ R.cells) (hRs : slots + 6 ≤ R.slots) (hc : cells + 1 ≤ mc) (hs : slots + 6 ≤ ms) (hex : exO cls) :
    wk G p l e R s m args below meth c cells slots (vx_MQ below Qc (am_X G σ exO) args s mc ms (am_FA G)) (am_FA G) s.heap nL pc lv [] σ := by
  intro H locs ls hW hS hL
  obtain ⟨sa, hsa⟩ := hZ.2.2.2 _ htx
  subst hown
  exact vx_throwSW (rest := []) (A := am_FA G) C.1 C.2.1 hl C.2.2.2.1 hcls hnames (C.2.2.2.2.1 _ hk) (C.2.2.2.2.1 _ hini) hsa (am_hat hZ h2 (fun w hw => C.2.2.2.2.1 w (hin w hw))) hgood hZ.1 hZ.2.1 hS (hL.1.trans C.2.2.1.symm) d0 d3 d4 d6 d9 (fun x hx => (hno x hx).elim) hRf (by simpa using hRl) hRc hRs hlk
    (fun t hvm hsz hkp => ⟨(), trivial, ⟨am_wd.kept hW (fun q hq => hkp q (am_wd.lt hW hq)), hex⟩, Nat.le_trans hS.1 hsz, fun q h1 h9 => (hkp q (Nat.lt_of_lt_of_le h1 hS.1)).trans (hS.2.1 q h1 h9)⟩) (fun z hz => hS.2.2 z hz) hc hs
end WKX
theorem ot_IA : (∀ w ∈ Cond.classLink RX5 107 "java/lang/IllegalArgumentException" :: Cond.initialized "java/lang/IllegalArgumentException" :: vx_atS RX5 111 "java/lang/IllegalArgumentException" ["java/lang/RuntimeException", "java/lang/Exception"], vx_ot w = true) ∧ ∀ w ∈ (vx_atS RX5 111 "java/lang/IllegalArgumentException" ["java/lang/RuntimeException", "java/lang/Exception"]).filter (fun w => !goodWord w), w ∈ am_zw := by
  constructor <;> decide +kernel
theorem ot_IS : (∀ w ∈ Cond.classLink RX5 121 "java/lang/IllegalStateException" :: Cond.initialized "java/lang/IllegalStateException" :: vx_atS RX5 125 "java/lang/IllegalStateException" ["java/lang/RuntimeException", "java/lang/Exception"], vx_ot w = true) ∧ ∀ w ∈ (vx_atS RX5 125 "java/lang/IllegalStateException" ["java/lang/RuntimeException", "java/lang/Exception"]).filter (fun w => !goodWord w), w ∈ am_zw := by
  constructor <;> decide +kernel
theorem ot_IO : (∀ w ∈ Cond.classLink RX5 334 "java/lang/IndexOutOfBoundsException" :: Cond.initialized "java/lang/IndexOutOfBoundsException" :: vx_atS RX5 338 "java/lang/IndexOutOfBoundsException" ["java/lang/RuntimeException", "java/lang/Exception"], vx_ot w = true) ∧ ∀ w ∈ (vx_atS RX5 338 "java/lang/IndexOutOfBoundsException" ["java/lang/RuntimeException", "java/lang/Exception"]).filter (fun w => !goodWord w), w ∈ am_zw := by
  constructor <;> decide +kernel
theorem fit_ns : ∀ n ∈ ["java/lang/RuntimeException", "java/lang/Exception"], Bundle.fit n = true := by decide +kernel
