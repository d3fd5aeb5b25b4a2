/-! the law's world: the component's memory σ, the model's ρ, out's long v; and its calls -/
def lL (g : am_g) (cJ : ClassId) (o : Nat) (σ ρ : am_M) (v : Int64) (H : Heap) : Prop := am_wd (gC g) σ H ∧ am_wd (gR g) ρ H ∧ lO cJ o v H
def lD (g : am_g) (o n0 : Nat) : Prop := (∀ q, am_FA (gC g) q → n0 ≤ q ∧ ¬ am_FA (gR g) q ∧ q ≠ o) ∧ (∀ q, am_FA (gR g) q → n0 ≤ q ∧ q ≠ o) ∧ n0 ≤ o
def lC (g : am_g) (cJ : ClassId) (o : Nat) (p : Program) (s : State) (m : MethodId) (args : Array Value) (c : Code) : Prop :=
  CallFix p m c cL_law 7 s args wsL_law RL ∧ lZ g cJ o s s.heap ∧ am_K (gR g) s ∧ lD g o s.heap.size
def lB (s : State) : Nat → Prop := fun q => s.heap.size ≤ q
section LAW
variable {g : am_g} {cJ : ClassId} {o : Nat} {p : Program} {l : Launch} {e : Env} {R : Room} {s : State} {m : MethodId} {args : Array Value} {below : List Frame} {meth : Method} {c : Code} {cells slots : Nat} {Q : State → Prop}
variable {σ ρ : am_M} {v : Int64} {H : Heap} {locs : List Loc} {ls : Array Slot} {pc : Nat} {rest : List Value}
variable {y : MethodName} {ws' : List Cond} {rm : Room} {bytes : ByteArray} {maxL n index mc ms : Nat} {ret : Option FieldType}
theorem lD_A (hD : lD g o s.heap.size) {q : Nat} (h : lA g o q) : lB s q := by
  rcases h with h | h
  · exact (hD.1 q h).1
  · rw [h]; exact hD.2.2
theorem ll_wr (C : lC g cJ o p s m args c) {av : List Value} {hh : List (Nat × Nat × Nat × Nat)} {post : Int → Int64 → am_M → Prop} (hM : Met l y ws' rm (lP g cJ o v σ av) (lQ g cJ o post) mc ms (lA g o)) (cw9 : vx_CSW R s args RL index y bytes maxL ret hh ws' rm mc ms n) (hn : av.length = n) (hst : (rest.map fun v => v.category).sum ≤ 8)
    (hdg : decode cL_law pc = .ok (.invokestatic index, 3)) (hcs : cells + mc ≤ R.cells ∧ slots + ms ≤ R.slots) (hL : lL g cJ o σ ρ v H) (hS : va_S (lB s) s.heap H locs) (hsz : ls.size = 7)
    (kk : ∀ (k : Int) (v' : Int64) (σ' : am_M) (H1 : Heap) (locs1 : List Loc), post k v' σ' → lL g cJ o σ' ρ v' H1 → va_S (lB s) s.heap H1 locs1 → W p l e R s m args below meth c H1 locs1 (cells + mc) (slots + ms) Q (F0 m (pc + 3) ls (.int (Int32.ofInt k) :: rest))) :
    W p l e R s m args below meth c H locs cells slots Q (F0 m pc ls (av.reverse ++ rest)) := by
  obtain ⟨hfix, hZ, hKR, hD⟩ := C
  refine va_calli (A0 := lB s) (vx_runSW (As := av) (rest := rest) hfix hM cw9 ⟨lP_blind _ _ _ _ _ _, fun U hU hW9 => ⟨rfl, by rw [hU]; exact hL.1, by rw [hU]; exact hL.2.2, by rw [hU]; exact lZ.go hW9 hZ (fun a h1 h2 => hS.2.1 a h1 (Nat.not_le.mpr h1))⟩⟩ rfl hn hsz rfl (lv_room hst) hdg hcs) hS (fun q _ h => lD_A hD h) (fun q h => lD_A hD h) (fun r u t H1 locs1 ht hvm hp hB hz hk hS1 => ?_)
  obtain ⟨x, rfl, hp⟩ := hp
  rw [ht] at hB
  refine kk x u.1 u.2 H1 locs1 hp ⟨hB.1, hL.2.1.kept (fun q hq => hk q (hL.2.1.lt hq) (fun h => ?_)), hB.2⟩ hS1
  rcases h with h | h
  · exact (hD.1 q h).2.1 hq
  · exact (hD.2.1 q hq).2 h
theorem ll_oLt (hL : lL g cJ o σ ρ v H) : o < H.size := (Array.getElem?_eq_some_iff.mp hL.2.2).1
theorem ll_mdP (C : lC g cJ o p s m args c) (hL : lL g cJ o σ ρ v H) (hS : va_S (lB s) s.heap H locs) (av : List am_V) : PreV s H RX6 (g.2.2 20 0) (am_P (gR g) ρ (.inr (20, 0) :: av)) (av.map (am_tv (gR g))) :=
  ⟨am_blind _ _ _, va_recv C.2.2.1.1 (am_one hL.2.1 (k := 20) (i := 0) (show 0 < (1:Nat) by decide) rfl) (ci := 6) rfl (q0 := 0) rfl, fun U hU hW9 => ⟨rfl, by rw [hU]; exact hL.2.1, am_K.warm hW9 C.2.2.1⟩⟩
theorem ll_cpP (C : lC g cJ o p s m args c) (hL : lL g cJ o σ ρ v H) (hS : va_S (lB s) s.heap H locs) (av : List am_V) : PreV s H RX5 (g.2.2 0 0) (am_P (gC g) σ (.inr (0, 0) :: av)) (av.map (am_tv (gC g))) :=
  ⟨am_blind _ _ _, va_recv C.2.1.1.1 (am_one hL.1 (k := 0) (i := 0) (show 0 < (1:Nat) by decide) rfl) (ci := 5) rfl (q0 := 0) rfl, fun U hU hW9 => ⟨rfl, by rw [hU]; exact hL.1, am_K.warm hW9 C.2.1.1⟩⟩
theorem ll_mdL (hD : lD g o s.heap.size) {σ ρ ρ' : am_M} {H H1 : Heap} (hL : lL g cJ o σ ρ v H) (hB : am_wd (gR g) ρ' H1) (hk : ∀ q : Nat, q < H.size → ¬ am_FA (gR g) q → H1[q]? = H[q]?) : lL g cJ o σ ρ' v H1 :=
  ⟨hL.1.kept (fun q hq => hk q (hL.1.lt hq) (hD.1 q hq).2.1), hB, (hk o (ll_oLt hL) (fun h => (hD.2.1 o h).2 rfl)).trans hL.2.2⟩
theorem ll_cpL (hD : lD g o s.heap.size) {σ ρ σ' : am_M} {H H1 : Heap} (hL : lL g cJ o σ ρ v H) (hB : am_wd (gC g) σ' H1) (hk : ∀ q : Nat, q < H.size → ¬ am_FA (gC g) q → H1[q]? = H[q]?) : lL g cJ o σ' ρ v H1 :=
  ⟨hB, hL.2.1.kept (fun q hq => hk q (hL.2.1.lt hq) (fun h => (hD.1 q h).2.1 hq)), (hk o (ll_oLt hL) (fun h => (hD.1 o h).2.2 rfl)).trans hL.2.2⟩
/-- the model, asked for an int -/
theorem ll_md (C : lC g cJ o p s m args c) {av : List am_V} {post : Int → am_M → Prop} (hM : Met l y ws' rm (am_P (gR g) ρ (.inr (20, 0) :: av)) (am_QI (gR g) post) 0 0 (am_FA (gR g))) (cw9 : CallW R s args RL RX6 index y bytes maxL ret ws' rm 0 0 n) (hn : av.length = n) (hst : (rest.map fun v => v.category).sum ≤ 8)
    (hdg : decode cL_law pc = .ok (.invokevirtual index, 3)) (hcs : cells ≤ R.cells ∧ slots ≤ R.slots) (hL : lL g cJ o σ ρ v H) (hS : va_S (lB s) s.heap H locs) (hsz : ls.size = 7)
    (kk : ∀ (x : Int) (ρ' : am_M) (H1 : Heap) (locs1 : List Loc), post x ρ' → lL g cJ o σ ρ' v H1 → va_S (lB s) s.heap H1 locs1 → W p l e R s m args below meth c H1 locs1 cells slots Q (F0 m (pc + 3) ls (.int (Int32.ofInt x) :: rest))) :
    W p l e R s m args below meth c H locs cells slots Q (F0 m pc ls ((av.map (am_tv (gR g))).reverse ++ .ref (g.2.2 20 0) :: rest)) := by
  have hD := C.2.2.2
  refine va_calli (A0 := lB s) (va_runV (As := av.map (am_tv (gR g))) (rest := rest) C.1 hM cw9 (ll_mdP C hL hS av) rfl (by rw [List.length_map]; exact hn) hsz rfl (lv_room hst) hdg hcs) hS (fun q _ h => (hD.2.1 q h).1) (fun q h => (hD.2.1 q h).1) (fun r u t H1 locs1 ht hvm hp hB hz hk hS1 => ?_)
  obtain ⟨x, rfl, hp⟩ := hp
  rw [ht] at hB
  exact kk x u H1 locs1 hp (ll_mdL hD hL hB hk) hS1
/-- the model, told -/
theorem ll_mv (C : lC g cJ o p s m args c) {av : List am_V} {post : am_M → Prop} (hM : Met l y ws' rm (am_P (gR g) ρ (.inr (20, 0) :: av)) (am_QV (gR g) post) 0 0 (am_FA (gR g))) (cw9 : CallW R s args RL RX6 index y bytes maxL ret ws' rm 0 0 n) (hn : av.length = n) (hst : (rest.map fun v => v.category).sum ≤ 8)
    (hdg : decode cL_law pc = .ok (.invokevirtual index, 3)) (hcs : cells ≤ R.cells ∧ slots ≤ R.slots) (hL : lL g cJ o σ ρ v H) (hS : va_S (lB s) s.heap H locs) (hsz : ls.size = 7)
    (kk : ∀ (ρ' : am_M) (H1 : Heap) (locs1 : List Loc), post ρ' → lL g cJ o σ ρ' v H1 → va_S (lB s) s.heap H1 locs1 → W p l e R s m args below meth c H1 locs1 cells slots Q (F0 m (pc + 3) ls rest)) :
    W p l e R s m args below meth c H locs cells slots Q (F0 m pc ls ((av.map (am_tv (gR g))).reverse ++ .ref (g.2.2 20 0) :: rest)) := by
  have hD := C.2.2.2
  refine va_callv (A0 := lB s) (va_runV (As := av.map (am_tv (gR g))) (rest := rest) C.1 hM cw9 (ll_mdP C hL hS av) rfl (by rw [List.length_map]; exact hn) hsz rfl (lv_room hst) hdg hcs) hS (fun q _ h => (hD.2.1 q h).1) (fun q h => (hD.2.1 q h).1) (fun u t H1 locs1 ht hvm hp hB hz hk hS1 => ?_)
  rw [ht] at hB
  exact kk u H1 locs1 hp (ll_mdL hD hL hB hk) hS1
/-- the component, asked for an int -/
theorem ll_cp (C : lC g cJ o p s m args c) {av : List am_V} {post : Int → am_M → Prop} (hM : Met l y ws' rm (am_P (gC g) σ (.inr (0, 0) :: av)) (am_QI (gC g) post) 0 0 (am_FA (gC g))) (cw9 : CallW R s args RL RX5 index y bytes maxL ret ws' rm 0 0 n) (hn : av.length = n) (hst : (rest.map fun v => v.category).sum ≤ 8)
    (hdg : decode cL_law pc = .ok (.invokevirtual index, 3)) (hcs : cells ≤ R.cells ∧ slots ≤ R.slots) (hL : lL g cJ o σ ρ v H) (hS : va_S (lB s) s.heap H locs) (hsz : ls.size = 7)
    (kk : ∀ (x : Int) (σ' : am_M) (H1 : Heap) (locs1 : List Loc), post x σ' → lL g cJ o σ' ρ v H1 → va_S (lB s) s.heap H1 locs1 → W p l e R s m args below meth c H1 locs1 cells slots Q (F0 m (pc + 3) ls (.int (Int32.ofInt x) :: rest))) :
    W p l e R s m args below meth c H locs cells slots Q (F0 m pc ls ((av.map (am_tv (gC g))).reverse ++ .ref (g.2.2 0 0) :: rest)) := by
  have hD := C.2.2.2
  refine va_calli (A0 := lB s) (va_runV (As := av.map (am_tv (gC g))) (rest := rest) C.1 hM cw9 (ll_cpP C hL hS av) rfl (by rw [List.length_map]; exact hn) hsz rfl (lv_room hst) hdg hcs) hS (fun q _ h => (hD.1 q h).1) (fun q h => (hD.1 q h).1) (fun r u t H1 locs1 ht hvm hp hB hz hk hS1 => ?_)
  obtain ⟨x, rfl, hp⟩ := hp
  rw [ht] at hB
  exact kk x u H1 locs1 hp (ll_cpL hD hL hB hk) hS1
/-- out's number -/
theorem ll_ld (C : lC g cJ o p s m args c) (hL : lL g cJ o σ ρ v H) (hdg : decode cL_law pc = .ok (.laload, 1)) (kk : W p l e R s m args below meth c H locs cells slots Q (F0 m (pc + 1) ls (.long v :: rest))) : W p l e R s m args below meth c H locs cells slots Q (F0 m pc ls (.int (Int32.ofInt 0) :: .ref o :: rest)) :=
  W.lald (v := .long v) C.1.1 C.1.2.1 hL.2.2 (C.2.1.2.2.2.1 1 (fun _ => .long v)) (fun q => by cases q) (by show ¬ (_ ∨ (arrV _ _ _).slots.size ≤ _); rw [arrV_size]; decide) (by show (arrV _ _ _).slots[_]? = _; rw [arrV_read _ _ (by decide)]) rfl rfl hdg kk
end LAW
/-! the one state behind both -/
def lI (S : ab_S) (σ ρ : am_M) : Prop := ab_C S σ ∧ ab_R S ρ ∧ ab_I S (48 * S 19 3) ∧ ab_J S ∧ 0 ≤ S 19 3 ∧ S 19 3 ≤ 100000
/-- a call that changed nothing but what was thrown -/
theorem lI_th {S : ab_S} {σ ρ ρ' : am_M} {x : Int} (h : lI S σ ρ) (hR : ab_R (ab_u S 19 5 x) ρ') : lI (ab_u S 19 5 x) σ ρ' := by
  have e : ab_u S 19 5 x 19 3 = S 19 3 := by simp [ab_u]
  refine ⟨C_th h.1 x, hR, ?_, J_th h.2.2.2.1 x, ?_, ?_⟩
  · rw [e]; exact I_th h.2.2.1 x
  · rw [e]; exact h.2.2.2.2.1
  · rw [e]; exact h.2.2.2.2.2
