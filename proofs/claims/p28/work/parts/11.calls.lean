/-! contracts in those words, entry, ends, calls -/
def am_P (G : am_G) (σ : am_M) (av : List am_V) : Array Value → State → Prop := va_Pc (av.map (am_tv G)) (fun U => am_wd G σ U.heap ∧ am_K G U)
def am_QI (G : am_G) (post : Int → am_M → Prop) : Array Value → State → Outcome → State → Prop := va_Qi (S := am_M) (fun r u => ∃ x : Int, r = Int32.ofInt x ∧ post x u) (fun u t => am_wd G u t.heap) (am_FA G)
def am_QV (G : am_G) (post : am_M → Prop) : Array Value → State → Outcome → State → Prop := va_Qv (S := am_M) post (fun u t => am_wd G u t.heap) (am_FA G)
def am_QR (G : am_G) (post : Nat × Nat → am_M → Prop) : Array Value → State → Outcome → State → Prop := va_Qr (S := (Nat × Nat) × am_M) (fun u => post u.1 u.2) (fun u a t => a = G.2.2.1 u.1.1 u.1.2 ∧ am_wd G u.2 t.heap) (am_FA G)
theorem am_blind (G : am_G) (σ : am_M) (av : List am_V) : FrameBlind (am_P G σ av) := fun a U g mk h => ⟨h.1, h.2.1, am_K.same (u := U) (U := U.calling g mk a) rfl h.2.2⟩
theorem am_lgsl (G : am_G) : ∀ av : List am_V, (lg_sl (av.map (am_tv G))).length = av.length
  | [] => rfl
  | v :: r => by
    rw [List.map_cons, List.length_cons, ← am_lgsl G r]
    simp [lg_sl, am_cat]
theorem am_cats (G : am_G) : ∀ av : List am_V, ((av.map (am_tv G)).map fun v => v.category).sum = av.length
  | [] => rfl
  | v :: r => by
    rw [List.map_cons, List.map_cons, List.sum_cons, am_cats G r, am_cat, List.length_cons, Nat.add_comm]
theorem wk_start {G : am_G} {l : Launch} {y : MethodName} {ws ws' : List Cond} {rm : Room} {Qc : Array Value → State → Outcome → State → Prop} {cc : ByteArray} {nL : Nat} {ret : Option FieldType} {own : String} {av : List am_V} {σ : am_M}
    (hy : plainName y.cls = true) (hw : ws = Cond.code y cc nL ret :: ws') (hI : am_inj G) (hcls : y.cls = own) (hlen : av.length ≤ nL)
    (body : ∀ p e s m below meth c, wk_C G p s m (av.map (am_tv G)).toArray c cc nL own ws (am_FA G) → meth.sig.returnType = ret → meth.locks = false →
      wk G p l e (headSpec ws rm).room s m (av.map (am_tv G)).toArray below meth c 0 0 (MQ below Qc (av.map (am_tv G)).toArray s 0 0 (am_FA G)) (am_FA G) s.heap nL 0 (av.map some ++ List.replicate (nL - av.length) none) [] σ) :
    Met l y ws rm (am_P G σ av) Qc 0 0 (am_FA G) := by
  refine Met.ofW (cc := cc) (maxL := nL) (ret := ret) hy hw ?_
  intro p e s m args below meth c s₁ B hml hv
  obtain ⟨rfl, hW, hK⟩ := hv
  have hts := atoms_spec (ws := ws) B.pre
  have hown : s.vm.findClass own = some m.cls := hcls ▸ findClass_of_methodNamed B.named
  rw [lg_entry_eq]
  have hl := lv_entry (av.map (am_tv G)) (n := nL) (by rw [am_lgsl]; exact hlen)
  rw [am_lv_args G (nL - av.length) av 0] at hl
  exact body p e s m below meth c ⟨B.exec, B.bytes, hml, hown, hts, hK, hI, fun _ h => h⟩ B.returns B.notSynchronized s.heap [] _ hW va_S.rf hl
section WKE
variable {G : am_G} {p : Program} {l : Launch} {e : Env} {R : Room} {s : State} {m : MethodId} {args : Array Value} {below : List Frame} {meth : Method} {c : Code} {cells slots : Nat} {Q : State → Prop}
variable {A : Nat → Prop} {H0 : Heap} {nL pc : Nat} {lv : List (Option am_V)} {st : List am_V} {σ : am_M} {cc : ByteArray} {own : String} {Ts : List Cond}
theorem wk_iret (C : wk_C G p s m args c cc nL own Ts (am_FA G)) (hr : meth.sig.returnType = some .int) (hlk : meth.locks = false) {post : Int → am_M → Prop} {x : Int} (hdg : decode cc pc = .ok (.ireturn, 1)) (hp : post x σ) : wk G p l e R s m args below meth c 0 0 (MQ below (am_QI G post) args s 0 0 (am_FA G)) (am_FA G) s.heap nL pc lv [.inl x] σ := by
  intro H locs ls hW hS hL
  exact W.iret C.1 C.2.1 hr (fun t ht _ => ⟨⟨_, σ, rfl, ⟨x, rfl, hp⟩, by show am_wd G σ t.heap; rw [ht]; exact hW⟩, hS.F ht⟩) (fun q hq => hS.2.2 q hq) hdg hlk
theorem wk_zret (C : wk_C G p s m args c cc nL own Ts (am_FA G)) (hr : meth.sig.returnType = some .boolean) (hlk : meth.locks = false) {post : Int → am_M → Prop} {x : Int} (hx : x = 0 ∨ x = 1) (hdg : decode cc pc = .ok (.ireturn, 1)) (hp : post x σ) : wk G p l e R s m args below meth c 0 0 (MQ below (am_QI G post) args s 0 0 (am_FA G)) (am_FA G) s.heap nL pc lv [.inl x] σ := by
  intro H locs ls hW hS hL
  exact W.zret C.1 C.2.1 hr (by rcases hx with rfl | rfl <;> decide) (fun t ht _ => ⟨⟨_, σ, rfl, ⟨x, rfl, hp⟩, by show am_wd G σ t.heap; rw [ht]; exact hW⟩, hS.F ht⟩) (fun q hq => hS.2.2 q hq) hdg hlk
theorem wk_aret (C : wk_C G p s m args c cc nL own Ts (am_FA G)) {rn : String} (hr : meth.sig.returnType = some (.object rn)) (hlk : meth.locks = false) {post : Nat × Nat → am_M → Prop} {x : Nat × Nat} (hdg : decode cc pc = .ok (.areturn, 1)) (hp : post x σ) : wk G p l e R s m args below meth c 0 0 (MQ below (am_QR G post) args s 0 0 (am_FA G)) (am_FA G) s.heap nL pc lv [.inr x] σ := by
  intro H locs ls hW hS hL
  exact W.aret C.1 C.2.1 hr (Or.inl ⟨_, rfl⟩) (Or.inr ⟨_, rfl⟩) (fun t ht _ => ⟨⟨(x, σ), _, rfl, hp, rfl, by show am_wd G σ t.heap; rw [ht]; exact hW⟩, hS.F ht⟩) (fun q hq => hS.2.2 q hq) hdg hlk
theorem wk_vret (C : wk_C G p s m args c cc nL own Ts (am_FA G)) (hr : meth.sig.returnType = none) (hlk : meth.locks = false) {post : am_M → Prop} (hdg : decode cc pc = .ok (.return_, 1)) (hp : post σ) : wk G p l e R s m args below meth c 0 0 (MQ below (am_QV G post) args s 0 0 (am_FA G)) (am_FA G) s.heap nL pc lv [] σ := by
  intro H locs ls hW hS hL
  exact W.vret C.1 C.2.1 hr (fun t ht _ => ⟨⟨σ, rfl, hp, by show am_wd G σ t.heap; rw [ht]; exact hW⟩, hS.F ht⟩) (fun q hq => hS.2.2 q hq) hdg hlk
theorem wk_ofI (C : wk_C G p s m args c cc nL own Ts A) {stk : List am_V} {a : Array Value} {post : Int → am_M → Prop}
    (hr : ∀ (H : Heap) (locs : List Loc) (ls : Array Slot), am_wd G σ H → ls.size = nL → va_Run p l e R s m args below meth c H locs cells slots 0 0 (F0 m pc ls (stk.map (am_tv G))) (st.map (am_tv G)) (am_QI G post a) (am_FA G))
    (kk : ∀ (r : Int) (σ' : am_M), post r σ' → wk G p l e R s m args below meth c cells slots Q A H0 nL (pc + 3) lv (.inl r :: st) σ') : wk G p l e R s m args below meth c cells slots Q A H0 nL pc lv stk σ := by
  intro H locs ls hW hS hL
  refine va_calli (hr H locs ls hW hL.1) hS (fun q _ h => C.2.2.2.2.2.2.2 q h) (fun q h => C.2.2.2.2.2.2.2 q h) (fun r u t H1 locs1 ht hvm hp hB hz hk hS1 => ?_)
  obtain ⟨x, rfl, hpx⟩ := hp
  exact kk x u hpx H1 locs1 ls (by rw [← ht]; exact hB) hS1 hL
theorem wk_ofV (C : wk_C G p s m args c cc nL own Ts A) {stk : List am_V} {a : Array Value} {post : am_M → Prop}
    (hr : ∀ (H : Heap) (locs : List Loc) (ls : Array Slot), am_wd G σ H → ls.size = nL → va_Run p l e R s m args below meth c H locs cells slots 0 0 (F0 m pc ls (stk.map (am_tv G))) (st.map (am_tv G)) (am_QV G post a) (am_FA G))
    (kk : ∀ (σ' : am_M), post σ' → wk G p l e R s m args below meth c cells slots Q A H0 nL (pc + 3) lv st σ') : wk G p l e R s m args below meth c cells slots Q A H0 nL pc lv stk σ := by
  intro H locs ls hW hS hL
  refine va_callv (hr H locs ls hW hL.1) hS (fun q _ h => C.2.2.2.2.2.2.2 q h) (fun q h => C.2.2.2.2.2.2.2 q h) (fun u t H1 locs1 ht hvm hp hB hz hk hS1 => ?_)
  exact kk u hp H1 locs1 ls (by rw [← ht]; exact hB) hS1 hL
theorem wk_ofR (C : wk_C G p s m args c cc nL own Ts A) {stk : List am_V} {a : Array Value} {post : Nat × Nat → am_M → Prop}
    (hr : ∀ (H : Heap) (locs : List Loc) (ls : Array Slot), am_wd G σ H → ls.size = nL → va_Run p l e R s m args below meth c H locs cells slots 0 0 (F0 m pc ls (stk.map (am_tv G))) (st.map (am_tv G)) (am_QR G post a) (am_FA G))
    (kk : ∀ (r : Nat × Nat) (σ' : am_M), post r σ' → wk G p l e R s m args below meth c cells slots Q A H0 nL (pc + 3) lv (.inr r :: st) σ') : wk G p l e R s m args below meth c cells slots Q A H0 nL pc lv stk σ := by
  intro H locs ls hW hS hL
  refine va_callr (hr H locs ls hW hL.1) hS (fun q _ h => C.2.2.2.2.2.2.2 q h) (fun q h => C.2.2.2.2.2.2.2 q h) (fun u ra t H1 locs1 ht hvm hp hB hz hk hS1 => ?_)
  obtain ⟨rfl, hB⟩ := hB
  exact kk u.1 u.2 hp H1 locs1 ls (by rw [← ht]; exact hB) hS1 hL
theorem wk_room {ls : Array Slot} {stk : List am_V} (h : st.length ≤ 8) : 2 * (F0 m pc ls (stk.map (am_tv G))).monitorRoom + ((st.map (am_tv G)).map fun v => v.category).sum ≤ 8 := by
  exact lv_room (by rw [am_cats]; exact h)
theorem wk_stk {av stk : List am_V} {k0 i0 : Nat} (h : stk = av.reverse ++ .inr (k0, i0) :: st) : stk.map (am_tv G) = (av.map (am_tv G)).reverse ++ Value.ref (G.2.2.1 k0 i0) :: st.map (am_tv G) := by
  subst h
  rw [List.map_append, List.map_reverse]
  rfl
section VIRT
variable {y : MethodName} {ws' : List Cond} {rm : Room} {bytes : ByteArray} {maxL n index k0 i0 ci N : Nat} {ret : Option FieldType} {Cn host : String} {T : u_T} {sl : List (Option (Nat × Nat))} {av stk : List am_V} {Qc : Array Value → State → Outcome → State → Prop}
theorem wk_runV (C : wk_C G p s m args c cc nL own Ts A) (hM : Met l y ws' rm (am_P G σ (.inr (k0, i0) :: av)) Qc 0 0 (am_FA G)) (cw : CallW R s args own Cn index y bytes maxL ret ws' rm 0 0 n)
    (hsh : G.2.2.2.2 k0 i0 = .inl (ci, sl)) (hi : i0 < G.2.2.2.1 k0) (hc : vwCl[ci]? = some (Cn, T, N)) (hn : av.length = n) (hstk : stk = av.reverse ++ .inr (k0, i0) :: st) (hst : st.length ≤ 8) (hdg : decode cc pc = .ok (.invokevirtual index, 3)) (hcs : cells ≤ R.cells ∧ slots ≤ R.slots) :
    ∀ (H : Heap) (locs : List Loc) (ls : Array Slot), am_wd G σ H → ls.size = nL → va_Run p l e R s m args below meth c H locs cells slots 0 0 (F0 m pc ls (stk.map (am_tv G))) (st.map (am_tv G)) (Qc ((.inr (k0, i0) :: av).map (am_tv G)).toArray) (am_FA G) := by
  intro H locs ls hW hL
  exact va_runV (As := av.map (am_tv G)) ⟨C.1, C.2.1, C.2.2.1, C.2.2.2.1, C.2.2.2.2.1⟩ hM cw ⟨am_blind _ _ _, va_recv C.2.2.2.2.2.1.1 (am_one hW hi (by rw [hsh]; rfl)) hc (q0 := 0) rfl, fun U hU hW9 => ⟨rfl, by rw [hU]; exact hW, am_K.warm hW9 C.2.2.2.2.2.1⟩⟩ rfl (by rw [List.length_map]; exact hn) hL (wk_stk hstk) (wk_room hst) hdg hcs
theorem wk_runN (C : wk_C G p s m args c cc nL own Ts A) (hM : Met l y ws' rm (am_P G σ (.inr (k0, i0) :: av)) Qc 0 0 (am_FA G)) (cw : va_CN R s args own index y host bytes maxL ret ws' rm 0 0 n ∧ (Cond.instanceMethod y).before args s = true ∧ (Cond.selects Cn y y).before args s = true)
    (hsh : G.2.2.2.2 k0 i0 = .inl (ci, sl)) (hi : i0 < G.2.2.2.1 k0) (hc : vwCl[ci]? = some (Cn, T, N)) (hn : av.length = n) (hstk : stk = av.reverse ++ .inr (k0, i0) :: st) (hst : st.length ≤ 8) (hdg : decode cc pc = .ok (.invokevirtual index, 3)) (hcs : cells ≤ R.cells ∧ slots ≤ R.slots) :
    ∀ (H : Heap) (locs : List Loc) (ls : Array Slot), am_wd G σ H → ls.size = nL → va_Run p l e R s m args below meth c H locs cells slots 0 0 (F0 m pc ls (stk.map (am_tv G))) (st.map (am_tv G)) (Qc ((.inr (k0, i0) :: av).map (am_tv G)).toArray) (am_FA G) := by
  intro H locs ls hW hL
  exact va_runVN (As := av.map (am_tv G)) ⟨C.1, C.2.1, C.2.2.1, C.2.2.2.1, C.2.2.2.2.1⟩ hM cw ⟨am_blind _ _ _, va_recv C.2.2.2.2.2.1.1 (am_one hW hi (by rw [hsh]; rfl)) hc (q0 := 0) rfl, fun U hU hW9 => ⟨rfl, by rw [hU]; exact hW, am_K.warm hW9 C.2.2.2.2.2.1⟩⟩ rfl (by rw [List.length_map]; exact hn) hL (wk_stk hstk) (wk_room hst) hdg hcs
theorem wk_runS (C : wk_C G p s m args c cc nL own Ts A) (hM : Met l y ws' rm (am_P G σ av) Qc 0 0 (am_FA G)) (cw : CallB R s args own index y bytes maxL ret ws' rm 0 0 n ∧ (Cond.static y).before args s = true)
    (hn : av.length = n) (hstk : stk = av.reverse ++ st) (hst : st.length ≤ 8) (hdg : decode cc pc = .ok (.invokestatic index, 3)) (hcs : cells ≤ R.cells ∧ slots ≤ R.slots) :
    ∀ (H : Heap) (locs : List Loc) (ls : Array Slot), am_wd G σ H → ls.size = nL → va_Run p l e R s m args below meth c H locs cells slots 0 0 (F0 m pc ls (stk.map (am_tv G))) (st.map (am_tv G)) (Qc (av.map (am_tv G)).toArray) (am_FA G) := by
  intro H locs ls hW hL
  exact va_runS (As := av.map (am_tv G)) ⟨C.1, C.2.1, C.2.2.1, C.2.2.2.1, C.2.2.2.2.1⟩ hM cw ⟨am_blind _ _ _, fun U hU hW9 => ⟨rfl, by rw [hU]; exact hW, am_K.warm hW9 C.2.2.2.2.2.1⟩⟩ rfl (by rw [List.length_map]; exact hn) hL (by rw [hstk, List.map_append, List.map_reverse]) (wk_room hst) hdg hcs
end VIRT
end WKE
