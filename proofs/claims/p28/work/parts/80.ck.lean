/-! the world under construction: heap size z, memory σ; a cell is there if its address is below z; a reference's place is null while σ is 0 there -/
def ce_sl (G : am_G) (g : Nat → Int) (j : Nat) : Option (Nat × Nat) → Value
  | none => .int (Int32.ofInt (g j))
  | some q => if g j = 0 then .null else .ref (G.2.2.1 q.1 q.2)
def ce_sv (G : am_G) (g : Nat → Int) : Nat → List (Option (Nat × Nat)) → List Value
  | _, [] => []
  | j, o :: r => ce_sl G g j o :: ce_sv G g (j + 1) r
theorem ce_get (G : am_G) (g : Nat → Int) : ∀ (sl : List (Option (Nat × Nat))) (j k : Nat), (ce_sv G g j sl)[k]? = sl[k]?.map (ce_sl G g (j + k))
  | [], j, k => by simp [ce_sv]
  | o :: r, j, 0 => by simp [ce_sv]
  | o :: r, j, k + 1 => by simp only [ce_sv, List.getElem?_cons_succ]; rw [ce_get G g r (j + 1) k, show j + 1 + k = j + (k + 1) by omega]
theorem ce_len (G : am_G) (g : Nat → Int) : ∀ (sl : List (Option (Nat × Nat))) (j : Nat), (ce_sv G g j sl).length = sl.length
  | [], j => rfl
  | o :: r, j => by simp [ce_sv, ce_len G g r]
theorem ce_set (G : am_G) (g : Nat → Int) (x : Int) (sl : List (Option (Nat × Nat))) (k : Nat) (o : Option (Nat × Nat)) (h : sl[k]? = some o) : (ce_sv G g 0 sl).set k (ce_sl G (am_u1 g k x) k o) = ce_sv G (am_u1 g k x) 0 sl := by
  apply List.ext_getElem?
  intro n
  have hk : k < sl.length := (List.getElem?_eq_some_iff.mp h).1
  rw [ce_get]
  by_cases hn : n = k
  · subst hn
    rw [List.getElem?_set_self (by rw [ce_len]; exact hk), h, Nat.zero_add]
    rfl
  · rw [List.getElem?_set_ne (Ne.symm hn), ce_get]
    cases hs : sl[n]? with
    | none => rfl
    | some o => cases o <;> simp [ce_sl, am_u1, hn]
def ce (G : am_G) (sh : am_Sh) (g : Nat → Int) : va_E := match sh with
  | .inl q => .inr (q.1, ce_sv G g 0 q.2)
  | .inr (.inl q) => .inl (G.2.1 q.1, q.2, .inl (fun j => Int32.ofInt (g j)))
  | .inr (.inr q) => .inl (G.2.1 q.1, q.2.1, .inr (.inr (.inr (.inr (fun j => if g j = 0 then none else some (G.2.2.1 (q.2.2 j).1 (q.2.2 j).2))))))
def cw (G : am_G) (σ : Nat × am_M) (H : Heap) : Prop := H.size = σ.1 ∧ ∀ k i, i < G.2.2.2.1 k → (G.2.2.1 k i < σ.1 → va_at G.1 vwCl (G.2.2.1 k i, ce G (G.2.2.2.2 k i) (σ.2 k i)) H) ∧ (σ.1 ≤ G.2.2.1 k i → ∀ j, σ.2 k i j = 0)
def am_AO (U : State) : Prop := va_AO RX0 U ∧ va_AO RX1 U ∧ va_AO RX2 U ∧ va_AO RX3 U ∧ va_AO RX4 U
theorem am_AO.moved {u U : State} (hvm : u.vm.Alike U.vm) (h : am_AO u) : am_AO U := ⟨h.1.moved hvm, h.2.1.moved hvm, h.2.2.1.moved hvm, h.2.2.2.1.moved hvm, h.2.2.2.2.moved hvm⟩
theorem cw.put {G : am_G} (hI : am_inj G) {σ : Nat × am_M} {H H1 : Heap} (h : cw G σ H) {k i j : Nat} {x : Int} (hi : i < G.2.2.2.1 k) (hz : G.2.2.1 k i < σ.1)
    (he : va_at G.1 vwCl (G.2.2.1 k i, ce G (G.2.2.2.2 k i) (am_u1 (σ.2 k i) j x)) H1) (z : H1.size = H.size) (oq : ∀ q : Nat, q ≠ G.2.2.1 k i → H1[q]? = H[q]?) : cw G (σ.1, am_up σ.2 k i j x) H1 := by
  refine ⟨by rw [z]; exact h.1, fun k' i' hi' => ?_⟩
  show (G.2.2.1 k' i' < σ.1 → va_at G.1 vwCl (G.2.2.1 k' i', ce G (G.2.2.2.2 k' i') (am_up σ.2 k i j x k' i')) H1) ∧ (σ.1 ≤ G.2.2.1 k' i' → ∀ j', am_up σ.2 k i j x k' i' j' = 0)
  by_cases hq : k' = k ∧ i' = i
  · obtain ⟨rfl, rfl⟩ := hq
    rw [am_up_same]
    exact ⟨fun _ => he, fun hz2 => absurd hz2 (by omega)⟩
  · rw [am_up_ne _ _ hq]
    exact ⟨fun hz2 => ((h.2 k' i' hi').1 hz2).kept (oq _ (fun e => hq (hI _ _ _ _ hi' hi e))), (h.2 k' i' hi').2⟩
theorem cw.new {G : am_G} (hI : am_inj G) {σ : Nat × am_M} {H H1 : Heap} (h : cw G σ H) {k i : Nat} (hi : i < G.2.2.2.1 k) (hz : G.2.2.1 k i = σ.1)
    (he : va_at G.1 vwCl (G.2.2.1 k i, ce G (G.2.2.2.2 k i) (fun _ => 0)) H1) (z : H1.size = H.size + 1) (oq : ∀ q : Nat, q < H.size → H1[q]? = H[q]?) : cw G (σ.1 + 1, σ.2) H1 := by
  refine ⟨by rw [z, h.1], fun k' i' hi' => ⟨fun hz2 => ?_, fun hz2 => (h.2 k' i' hi').2 (by show σ.1 ≤ _; have hz3 : σ.1 + 1 ≤ G.2.2.1 k' i' := hz2; omega)⟩⟩
  have hz3 : G.2.2.1 k' i' < σ.1 + 1 := hz2
  by_cases hq : G.2.2.1 k' i' < σ.1
  · exact ((h.2 k' i' hi').1 hq).kept (oq _ (by rw [h.1]; exact hq))
  · obtain ⟨rfl, rfl⟩ := hI _ _ _ _ hi' hi (by omega)
    have h0 : σ.2 k' i' = fun _ => 0 := funext ((h.2 k' i' hi').2 (by omega))
    show va_at G.1 vwCl (_, ce G _ (σ.2 k' i')) H1
    rw [h0]
    exact he
theorem cw.one {G : am_G} {σ : Nat × am_M} {H : Heap} (h : cw G σ H) {k i : Nat} (hi : i < G.2.2.2.1 k) (hz : G.2.2.1 k i < σ.1) {E : va_E} (hE : ce G (G.2.2.2.2 k i) (σ.2 k i) = E) : va_P G.1 vwCl [(G.2.2.1 k i, E)] H := by
  intro n q hq
  match n, hq with
  | 0, hq => cases hq; rw [← hE]; exact (h.2 k i hi).1 hz
theorem arrV_ext (cI : ClassId) (N : Nat) {f f' : Nat → Value} (h : ∀ j, j < N → f j = f' j) : arrV cI N f = arrV cI N f' := by
  have e : (Array.ofFn (n := N) fun j => f j.val) = Array.ofFn (n := N) fun j => f' j.val := by
    congr 1
    funext j
    exact h j.val j.isLt
  show ({ cls := cI, slots := (Array.ofFn (n := N) fun j => f j.val), vm := .none } : Cell) = { cls := cI, slots := (Array.ofFn (n := N) fun j => f' j.val), vm := .none }
  rw [e]
/-- a world whose references are all set is a world -/
theorem cw.full {G : am_G} {σ : Nat × am_M} {H : Heap} (h : cw G σ H) (hz : ∀ k i, i < G.2.2.2.1 k → G.2.2.1 k i < σ.1)
    (hs : ∀ k i, i < G.2.2.2.1 k → match G.2.2.2.2 k i with
      | .inl q => ∀ j r, q.2[j]? = some (some r) → σ.2 k i j ≠ 0
      | .inr (.inl _) => True
      | .inr (.inr q) => ∀ j, j < q.2.1 → σ.2 k i j ≠ 0) : am_wd G σ.2 H := by
  intro k i hi
  have h1 := (h.2 k i hi).1 (hz k i hi)
  have h2 := hs k i hi
  generalize G.2.2.2.2 k i = sh at h1 h2
  match sh, h1, h2 with
  | .inl q, h1, h2 =>
    have e : ce_sv G (σ.2 k i) 0 q.2 = (am_sv (σ.2 k i) 0 q.2).map (am_tv G) := by
      apply List.ext_getElem?
      intro n
      rw [ce_get, List.getElem?_map, am_sv_get, Nat.zero_add]
      cases hn : q.2[n]? with
      | none => rfl
      | some o => cases o with
        | none => rfl
        | some r =>
          show some (ce_sl G (σ.2 k i) n (some r)) = some (Value.ref (G.2.2.1 r.1 r.2))
          rw [ce_sl, if_neg (h2 n r hn)]
    show va_at G.1 vwCl (_, .inr (q.1, (am_sv (σ.2 k i) 0 q.2).map (am_tv G))) H
    rw [← e]
    exact h1
  | .inr (.inl q), h1, h2 => exact h1
  | .inr (.inr q), h1, h2 =>
    show H[_]? = some (vp_cell _ _)
    have h3 : H[G.2.2.1 k i]? = some (vp_cell _ _) := h1
    rw [h3, vp_cell_q, vp_cell_q, arrV_ext _ _ (fun j hj => ?_)]
    rw [if_neg (h2 j hj)]
def ck (G : am_G) (p : Program) (l : Launch) (e : Env) (R : Room) (s : State) (m : MethodId) (args : Array Value) (below : List Frame) (meth : Method) (c : Code) (cells slots : Nat) (Q : State → Prop) (A : Nat → Prop) (H0 : Heap) (nL pc : Nat) (lv : List (Option am_V)) (st : List am_V) (σ : Nat × am_M) : Prop :=
  ∀ (H : Heap) (locs : List Loc) (ls : Array Slot), cw G σ H → va_S A H0 H locs → lv_has ls nL (am_ll G 0 lv) → W p l e R s m args below meth c H locs cells slots Q (F0 m pc ls (st.map (am_tv G)))
def cP (G : am_G) (σ : Nat × am_M) (av : List am_V) : Array Value → State → Prop := va_Pc (av.map (am_tv G)) (fun U => cw G σ U.heap ∧ am_K G U ∧ am_AO U)
def cQV (G : am_G) (post : Nat × am_M → Prop) : Array Value → State → Outcome → State → Prop := va_Qv (S := Nat × am_M) post (fun u t => cw G u t.heap) (am_FA G)
def cQR (G : am_G) (post : Nat × Nat → Nat × am_M → Prop) : Array Value → State → Outcome → State → Prop := va_Qr (S := (Nat × Nat) × (Nat × am_M)) (fun u => post u.1 u.2) (fun u a t => a = G.2.2.1 u.1.1 u.1.2 ∧ cw G u.2 t.heap) (am_FA G)
theorem cP_blind (G : am_G) (σ : Nat × am_M) (av : List am_V) : FrameBlind (cP G σ av) := fun a U g mk h => ⟨h.1, h.2.1, am_K.same (u := U) (U := U.calling g mk a) rfl h.2.2.1, h.2.2.2.moved (u := U) (U := U.calling g mk a) (Vm.Alike.refl _)⟩
section CK
variable {G : am_G} {p : Program} {l : Launch} {e : Env} {R : Room} {s : State} {m : MethodId} {args : Array Value} {below : List Frame} {meth : Method} {c : Code} {cells slots : Nat} {Q : State → Prop}
variable {A : Nat → Prop} {H0 : Heap} {nL pc : Nat} {lv : List (Option am_V)} {st : List am_V} {σ : Nat × am_M} {cc : ByteArray} {own : String} {Ts : List Cond}
theorem ck_iconst (C : wk_C G p s m args c cc nL own Ts A) {n : Int}   (hdg : decode cc pc = .ok (.iconst n, 1)) (k   : ck G p l e R s m args below meth c cells slots Q A H0 nL (pc + 1) lv (.inl n :: st) σ)   : ck G p l e R s m args below meth c cells slots Q A H0 nL pc lv (st) σ := by
  intro H locs ls hW hS hL
  exact lv_iconst C.1 C.2.1 hdg rfl (k H locs ls hW hS hL)
theorem ck_bipush (C : wk_C G p s m args c cc nL own Ts A) {n : Int}  (hv : (Int8.ofInt n).toInt32 = Int32.ofInt n) (hdg : decode cc pc = .ok (.bipush n, 2)) (k   : ck G p l e R s m args below meth c cells slots Q A H0 nL (pc + 2) lv (.inl n :: st) σ)   : ck G p l e R s m args below meth c cells slots Q A H0 nL pc lv (st) σ := by
  intro H locs ls hW hS hL
  exact lv_bipush C.1 C.2.1 hdg hv (k H locs ls hW hS hL)
theorem ck_sipush (C : wk_C G p s m args c cc nL own Ts A) {n : Int}  (hv : (Int16.ofInt n).toInt32 = Int32.ofInt n) (hdg : decode cc pc = .ok (.sipush n, 3)) (k   : ck G p l e R s m args below meth c cells slots Q A H0 nL (pc + 3) lv (.inl n :: st) σ)   : ck G p l e R s m args below meth c cells slots Q A H0 nL pc lv (st) σ := by
  intro H locs ls hW hS hL
  exact lv_sipush C.1 C.2.1 hdg hv (k H locs ls hW hS hL)
theorem ck_iload_n (C : wk_C G p s m args c cc nL own Ts A) {j : Fin 4} {x : Int}  (hl : lv[(j : Nat)]? = some (some (.inl x))) (hdg : decode cc pc = .ok (.iload_n j, 1)) (k   : ck G p l e R s m args below meth c cells slots Q A H0 nL (pc + 1) lv (.inl x :: st) σ)   : ck G p l e R s m args below meth c cells slots Q A H0 nL pc lv (st) σ := by
  intro H locs ls hW hS hL
  exact lv_iload_n C.1 C.2.1 hdg rfl (am_lget hL hl) (k H locs ls hW hS hL)
theorem ck_iload (C : wk_C G p s m args c cc nL own Ts A) {j : Nat} {x : Int}  (hl : lv[j]? = some (some (.inl x))) (hdg : decode cc pc = .ok (.iload j, 2)) (k   : ck G p l e R s m args below meth c cells slots Q A H0 nL (pc + 2) lv (.inl x :: st) σ)   : ck G p l e R s m args below meth c cells slots Q A H0 nL pc lv (st) σ := by
  intro H locs ls hW hS hL
  exact lv_iload C.1 C.2.1 hdg (am_lget hL hl) (k H locs ls hW hS hL)
theorem ck_aload_n (C : wk_C G p s m args c cc nL own Ts A) {j : Fin 4} {x : Nat × Nat}  (hl : lv[(j : Nat)]? = some (some (.inr x))) (hdg : decode cc pc = .ok (.aload_n j, 1)) (k   : ck G p l e R s m args below meth c cells slots Q A H0 nL (pc + 1) lv (.inr x :: st) σ)   : ck G p l e R s m args below meth c cells slots Q A H0 nL pc lv (st) σ := by
  intro H locs ls hW hS hL
  exact lv_aload_n C.1 C.2.1 hdg rfl (am_lget hL hl) (k H locs ls hW hS hL)
theorem ck_aload (C : wk_C G p s m args c cc nL own Ts A) {j : Nat} {x : Nat × Nat}  (hl : lv[j]? = some (some (.inr x))) (hdg : decode cc pc = .ok (.aload j, 2)) (k   : ck G p l e R s m args below meth c cells slots Q A H0 nL (pc + 2) lv (.inr x :: st) σ)   : ck G p l e R s m args below meth c cells slots Q A H0 nL pc lv (st) σ := by
  intro H locs ls hW hS hL
  exact lv_aload C.1 C.2.1 hdg (am_lget hL hl) (k H locs ls hW hS hL)
theorem ck_istore_n (C : wk_C G p s m args c cc nL own Ts A) {j : Fin 4} {x : Int} (hn : (j : Nat) < nL) (hi : (j : Nat) < lv.length) (hdg : decode cc pc = .ok (.istore_n j, 1)) (k   : ck G p l e R s m args below meth c cells slots Q A H0 nL (pc + 1) (lv.set (j : Nat) (some (.inl x))) st σ)   : ck G p l e R s m args below meth c cells slots Q A H0 nL pc lv (.inl x :: st) σ := by
  intro H locs ls hW hS hL
  exact lv_istore_n C.1 C.2.1 hdg rfl hL hn rfl (fun ls2 h2 => k H locs ls2 hW hS (am_lset hi h2))
theorem ck_istore (C : wk_C G p s m args c cc nL own Ts A) {j : Nat} {x : Int} (hn : j < nL) (hi : j < lv.length) (hdg : decode cc pc = .ok (.istore j, 2)) (k   : ck G p l e R s m args below meth c cells slots Q A H0 nL (pc + 2) (lv.set j (some (.inl x))) st σ)   : ck G p l e R s m args below meth c cells slots Q A H0 nL pc lv (.inl x :: st) σ := by
  intro H locs ls hW hS hL
  exact lv_istore C.1 C.2.1 hdg hL hn rfl (fun ls2 h2 => k H locs ls2 hW hS (am_lset hi h2))
theorem ck_astore_n (C : wk_C G p s m args c cc nL own Ts A) {j : Fin 4} {x : Nat × Nat} (hn : (j : Nat) < nL) (hi : (j : Nat) < lv.length) (hdg : decode cc pc = .ok (.astore_n j, 1)) (k   : ck G p l e R s m args below meth c cells slots Q A H0 nL (pc + 1) (lv.set (j : Nat) (some (.inr x))) st σ)   : ck G p l e R s m args below meth c cells slots Q A H0 nL pc lv (.inr x :: st) σ := by
  intro H locs ls hW hS hL
  exact lv_astore_n C.1 C.2.1 hdg rfl hL hn rfl (fun ls2 h2 => k H locs ls2 hW hS (am_lset hi h2))
theorem ck_astore (C : wk_C G p s m args c cc nL own Ts A) {j : Nat} {x : Nat × Nat} (hn : j < nL) (hi : j < lv.length) (hdg : decode cc pc = .ok (.astore j, 2)) (k   : ck G p l e R s m args below meth c cells slots Q A H0 nL (pc + 2) (lv.set j (some (.inr x))) st σ)   : ck G p l e R s m args below meth c cells slots Q A H0 nL pc lv (.inr x :: st) σ := by
  intro H locs ls hW hS hL
  exact lv_astore C.1 C.2.1 hdg hL hn rfl (fun ls2 h2 => k H locs ls2 hW hS (am_lset hi h2))
theorem ck_iinc (C : wk_C G p s m args c cc nL own Ts A) {j : Nat} {n x : Int} (hl : lv[j]? = some (some (.inl x))) (hn : j < nL) (hdg : decode cc pc = .ok (.iinc j n, 3)) (k   : ck G p l e R s m args below meth c cells slots Q A H0 nL (pc + 3) (lv.set j (some (.inl (x + n)))) st σ)   : ck G p l e R s m args below meth c cells slots Q A H0 nL pc lv st σ := by
  intro H locs ls hW hS hL
  have hm := (am_ll_mem G lv 0 j (am_tv G (.inl x))).mpr ⟨_, Nat.zero_le _, hl, rfl⟩
  obtain ⟨q, hq⟩ := List.getElem?_of_mem hm
  have hi : j < lv.length := (List.getElem?_eq_some_iff.mp hl).1
  exact lv_iinc (v := Int32.ofInt (x + n)) C.1 C.2.1 hdg hL hq (by rw [Int32.ofInt_add]) hn rfl (fun ls2 h2 => k H locs ls2 hW hS (am_lset (v := .inl (x + n)) hi h2))
theorem ck_iadd (C : wk_C G p s m args c cc nL own Ts A) {x y : Int} (hdg : decode cc pc = .ok (.iadd, 1)) (k   : ck G p l e R s m args below meth c cells slots Q A H0 nL (pc + 1) lv (.inl (x + y) :: st) σ)   : ck G p l e R s m args below meth c cells slots Q A H0 nL pc lv (.inl y :: .inl x :: st) σ := by
  intro H locs ls hW hS hL
  refine lv_iadd C.1 C.2.1 hdg ?_
  rw [← Int32.ofInt_add]
  exact k H locs ls hW hS hL
theorem ck_imul (C : wk_C G p s m args c cc nL own Ts A) {x y : Int} (hdg : decode cc pc = .ok (.imul, 1)) (k   : ck G p l e R s m args below meth c cells slots Q A H0 nL (pc + 1) lv (.inl (x * y) :: st) σ)   : ck G p l e R s m args below meth c cells slots Q A H0 nL pc lv (.inl y :: .inl x :: st) σ := by
  intro H locs ls hW hS hL
  refine lv_imul C.1 C.2.1 hdg ?_
  rw [← Int32.ofInt_mul]
  exact k H locs ls hW hS hL
theorem ck_dup (C : wk_C G p s m args c cc nL own Ts A) {v : am_V} (hdg : decode cc pc = .ok (.dup, 1)) (k   : ck G p l e R s m args below meth c cells slots Q A H0 nL (pc + 1) lv (v :: v :: st) σ)   : ck G p l e R s m args below meth c cells slots Q A H0 nL pc lv (v :: st) σ := by
  intro H locs ls hW hS hL
  exact lv_dup C.1 C.2.1 hdg (am_cat G v) (k H locs ls hW hS hL)
theorem ck_goto (C : wk_C G p s m args c cc nL own Ts A) {off : Int} (tgt : Nat) (ht : (pc : Int) + off = (tgt : Int)) (hdg : decode cc pc = .ok (.goto off, 3)) (k   : ck G p l e R s m args below meth c cells slots Q A H0 nL tgt lv st σ)   : ck G p l e R s m args below meth c cells slots Q A H0 nL pc lv st σ := by
  intro H locs ls hW hS hL
  exact lv_goto C.1 C.2.1 hdg ht (k H locs ls hW hS hL)
theorem ck_icmp_ge (C : wk_C G p s m args c cc nL own Ts A) {x y : Int} {off : Int} (tgt : Nat) (hx : -2147483648 ≤ x ∧ x < 2147483648) (hy : -2147483648 ≤ y ∧ y < 2147483648) (ht : (pc : Int) + off = (tgt : Int)) (hdg : decode cc pc = .ok (.if_icmp .ge off, 3)) (k1 : y ≤ x → ck G p l e R s m args below meth c cells slots Q A H0 nL tgt lv st σ) (k2 : x < y → ck G p l e R s m args below meth c cells slots Q A H0 nL (pc + 3) lv st σ)   : ck G p l e R s m args below meth c cells slots Q A H0 nL pc lv (.inl y :: .inl x :: st) σ := by
  intro H locs ls hW hS hL
  refine lv_icmp_ge C.1 C.2.1 hdg ht (fun h => ?_) (fun h => ?_)
  · exact k1 (by simp only [am_eq hx hy, am_lt hx hy, am_le hx hy, am_lt hy hx, am_le hy hx] at h; omega) H locs ls hW hS hL
  · exact k2 (by simp only [am_eq hx hy, am_lt hx hy, am_le hx hy, am_lt hy hx, am_le hy hx] at h; omega) H locs ls hW hS hL
theorem ck_of {cells' slots' : Nat} {σ' : Nat × am_M} (hc : cells = cells') (hs : slots = slots') (hz : σ.1 = σ'.1) (hm : σ.2 = σ'.2) (k : ck G p l e R s m args below meth c cells' slots' Q A H0 nL pc lv st σ') : ck G p l e R s m args below meth c cells slots Q A H0 nL pc lv st σ := by
  obtain ⟨z, x⟩ := σ
  obtain ⟨z', x'⟩ := σ'
  subst hc hs
  cases hz
  cases hm
  exact k
theorem ck_obj (C : wk_C G p s m args c cc nL own Ts A) {v : Nat × Nat} {idx : Nat} (h1 : Cond.methodLink own idx objectInit ∈ Ts) (h2 : Cond.instanceMethod objectInit ∈ Ts) (h3 : Cond.code objectInit ⟨#[0xb1]⟩ 1 none ∈ Ts) (hf : 1 ≤ R.frames) (hl : 20 ≤ R.locals) (hst : st.length ≤ 8) (hdg : decode cc pc = .ok (.invokespecial idx, 3))
    (kk : ck G p l e R s m args below meth c cells slots Q A H0 nL (pc + 3) lv st σ) : ck G p l e R s m args below meth c cells slots Q A H0 nL pc lv (.inr v :: st) σ := by
  intro H locs ls hW hS hL
  refine W.objInit C.1 C.2.1 C.2.2.2.1 (C.2.2.2.2.1 _ h1) (C.2.2.2.2.1 _ h2) (C.2.2.2.2.1 _ h3) rfl (hL.1.trans C.2.2.1.symm) rfl hdg hf ?_ (kk H locs ls hW hS hL)
  exact Nat.le_trans (Nat.add_le_add_right (wk_room (G := G) (m := m) (pc := pc) (ls := ls) (stk := .inr v :: st) (st := st) hst) 12) hl
theorem ck_new (C : wk_C G p s m args c cc nL own Ts A) {ci i : Nat} (k : Nat) {sl : List (Option (Nat × Nat))} {Cn : String} {T : u_T} {N index : Nat} (sk : List Bool) (hsh : G.2.2.2.2 k i = .inl (ci, sl)) (hi : i < G.2.2.2.1 k) (ha : G.2.2.1 k i = σ.1) (hc : vwCl[ci]? = some (Cn, T, N)) (hin : ∀ w ∈ u_ws Cn T N, w ∈ Ts) (ty0 : Nat → FieldType) (hty : ∀ k, k < N → parseFieldDescriptor (T k).2.2.1 = some (ty0 k))
    (hcl : Cond.classLink own index Cn ∈ Ts) (hinst : Cond.instantiable Cn N ∈ Ts) (hini : Cond.initialized Cn ∈ Ts) (hsk : sl.map Option.isSome = sk) (hdv : ∀ j, j < N → (sk[j]?).map (fun b => if b then Value.null else .int 0) = some (defaultValue (ty0 j))) (hcells : cells + 1 ≤ R.cells) (hslots : slots + N ≤ R.slots) (hdg : decode cc pc = .ok (.new index, 3))
    (kk : ck G p l e R s m args below meth c (cells + 1) (slots + N) Q A H0 nL (pc + 3) lv (.inr (k, i) :: st) (σ.1 + 1, σ.2)) : ck G p l e R s m args below meth c cells slots Q A H0 nL pc lv st σ := by
  intro H locs ls hW hS hL
  have hKn := C.2.2.2.2.2.1.1.1 ci _ hc
  have hts := C.2.2.2.2.1
  refine W.newcK C.1 C.2.1 C.2.2.2.1 (hts _ hcl) (hts _ hinst) (hts _ hini) rfl hdg hcells hslots hKn.2.1 hW.1 fun H1 kC hkC e1 z1 o1 => ?_
  rw [← ha] at e1
  have hat : va_at G.1 vwCl (G.2.2.1 k i, ce G (G.2.2.2.2 k i) (fun _ => 0)) H1 := by
    rw [hsh]
    refine ⟨_, hc, (u_born ty0 hts hin hKn hkC e1 hty).to (fun j hj => ?_)⟩
    have h5 := hdv j hj
    show defaultValue (ty0 j) = (ce_sv G (fun _ => 0) 0 sl).getD j .null
    rw [List.getD_eq_getElem?_getD, ce_get, Nat.zero_add]
    rw [← hsk, List.getElem?_map] at h5
    cases hx : sl[j]? with
    | none => rw [hx] at h5; cases h5
    | some o =>
      rw [hx] at h5
      cases o with
      | none => exact (Option.some.inj h5).symm
      | some r => exact (Option.some.inj h5).symm
  have hW1 := hW.new C.2.2.2.2.2.2.1 hi ha hat (by rw [z1, hW.1]) (fun q hq => o1 q (by rw [← hW.1]; exact hq))
  have := kk H1 locs ls hW1 ⟨Nat.le_trans hS.1 (by rw [z1, hW.1]; exact Nat.le_succ _), fun x h1 h2 => (o1 x (by rw [← hW.1]; exact Nat.lt_of_lt_of_le h1 hS.1)).trans (hS.2.1 x h1 h2), hS.2.2⟩ hL
  rw [← ha]
  exact this
theorem ck_newa (C : wk_C G p s m args c cc nL own Ts A) {t n i : Nat} (k : Nat) {x : Int} {atype : ArrayType} {ty : FieldType} (hty : newarray.typeOf atype = ty) (hsh : G.2.2.2.2 k i = .inr (.inl (t, n))) (ht : (am_tyl G.2.1)[t]? = some (G.2.1 t, ty)) (hi : i < G.2.2.2.1 k) (ha : G.2.2.1 k i = σ.1) (hx : x = (n : Int)) (hn : n < 10000) (hcb : componentBytes ty ≤ 8) (hdef : defaultValue ty = .int 0) (hpr : ∀ D, ty ≠ .object D) (harr : Cond.arrayClass ty ∈ Ts) (hcells : cells + 1 ≤ R.cells) (hslots : slots + n ≤ R.slots) (hdg : decode cc pc = .ok (.newarray atype, 2))
    (kk : ck G p l e R s m args below meth c (cells + 1) (slots + n) Q A H0 nL (pc + 2) lv (.inr (k, i) :: st) (σ.1 + 1, σ.2)) : ck G p l e R s m args below meth c cells slots Q A H0 nL pc lv (.inl x :: st) σ := by
  intro H locs ls hW hS hL
  subst hx
  subst hty
  have hts := C.2.2.2.2.1
  refine va_newaK (N := n) C.1 C.2.1 (hts _ harr) rfl hdg rfl ?_ (by rw [am_cl (by omega) (by omega), Int.toNat_natCast]) ?_ hcells hslots hW.1 fun H1 cA e1 z1 o1 hAr hNm => ?_
  · rw [am_0, am_lt ⟨by omega, by omega⟩ ⟨by omega, by omega⟩]; omega
  · exact Nat.le_trans (Nat.mul_le_mul (Nat.le_of_lt hn) hcb) (by decide)
  have hcA : G.2.1 t = cA := by
    have h2 := (C.2.2.2.2.2.1.1.2 t _ ht).2
    generalize newarray.typeOf atype = ty at h2 hNm hpr
    cases ty <;> first | exact absurd rfl (hpr _) | exact Option.some.inj (h2.symm.trans hNm)
  rw [← ha] at e1
  have hat : va_at G.1 vwCl (G.2.2.1 k i, ce G (G.2.2.2.2 k i) (fun _ => 0)) H1 := by
    rw [hsh]
    show H1[_]? = some (vp_cell (G.2.1 t) (n, .inl (fun _ => Int32.ofInt 0)))
    rw [e1, vp_cell_i, hcA, hdef]
    rfl
  have hW1 := hW.new C.2.2.2.2.2.2.1 hi ha hat (by rw [z1, hW.1]) (fun q hq => o1 q (by rw [← hW.1]; exact hq))
  have := kk H1 locs ls hW1 ⟨Nat.le_trans hS.1 (by rw [z1, hW.1]; exact Nat.le_succ _), fun x h1 h2 => (o1 x (by rw [← hW.1]; exact Nat.lt_of_lt_of_le h1 hS.1)).trans (hS.2.1 x h1 h2), hS.2.2⟩ hL
  rw [← ha]
  exact this
theorem ck_anew (C : wk_C G p s m args c cc nL own Ts A) {t n i index : Nat} (k : Nat) {x : Int} {C2 : String} {rf : Nat → Nat × Nat} (hao : va_AO C2 s) (hsh : G.2.2.2.2 k i = .inr (.inr (t, n, rf))) (ht : (am_tyl G.2.1)[t]? = some (G.2.1 t, .object C2)) (hi : i < G.2.2.2.1 k) (ha : G.2.2.1 k i = σ.1) (hx : x = (n : Int)) (hn : n < 10000) (hcl : Cond.classLink own index C2 ∈ Ts) (hcells : cells + 1 ≤ R.cells) (hslots : slots + n ≤ R.slots) (hdg : decode cc pc = .ok (.anewarray index, 3))
    (kk : ck G p l e R s m args below meth c (cells + 1) (slots + n) Q A H0 nL (pc + 3) lv (.inr (k, i) :: st) (σ.1 + 1, σ.2)) : ck G p l e R s m args below meth c cells slots Q A H0 nL pc lv (.inl x :: st) σ := by
  intro H locs ls hW hS hL
  subst hx
  have hts := C.2.2.2.2.1
  have hN : (Int32.ofInt (n : Int)).toNatClampNeg = n := by rw [am_cl (by omega) (by omega), Int.toNat_natCast]
  refine W.anew C.1 C.2.1 C.2.2.2.1 (hts _ hcl) (va_AO.use hao) rfl hdg rfl ?_ (by rw [hN]; omega) hcells (by rw [hN]; exact hslots) fun cA kA comp f1 f2 f3 f4 => ?_
  · rw [am_0, am_lt ⟨by omega, by omega⟩ ⟨by omega, by omega⟩]; omega
  rw [hN]
  generalize hH1 : H.push ({ cls := cA, slots := Array.replicate n .null, vm := .none } : Cell) = H1
  have z1 : H1.size = H.size + 1 := by rw [← hH1, Array.size_push]
  have e1 : H1[H.size]? = some (arrV cA n (fun _ => .null)) := by rw [← hH1, Array.getElem?_push_size, ← arrV_new]
  have o1 : ∀ q : Nat, q < H.size → H1[q]? = H[q]? := fun q hq => by rw [← hH1, Array.getElem?_push, if_neg (Nat.ne_of_lt hq)]
  have hcA : G.2.1 t = cA := by
    obtain ⟨_, _, _, _, _, h2⟩ := (C.2.2.2.2.2.1.1.2 t _ ht).2
    exact Option.some.inj (h2.symm.trans f1)
  rw [hW.1, ← ha] at e1
  have hat : va_at G.1 vwCl (G.2.2.1 k i, ce G (G.2.2.2.2 k i) (fun _ => 0)) H1 := by
    rw [hsh]
    show H1[_]? = some (vp_cell (G.2.1 t) (n, .inr (.inr (.inr (.inr (fun j => if (0 : Int) = 0 then none else some (G.2.2.1 (rf j).1 (rf j).2)))))))
    rw [e1, vp_cell_q, hcA]
    rfl
  have hW1 := hW.new C.2.2.2.2.2.2.1 hi ha hat z1 o1
  have := kk H1 locs ls hW1 ⟨Nat.le_trans hS.1 (by rw [z1]; exact Nat.le_succ _), fun x h1 h2 => (o1 x (Nat.lt_of_lt_of_le h1 hS.1)).trans (hS.2.1 x h1 h2), hS.2.2⟩ hL
  rw [hW.1, ← ha]
  exact this
theorem ck_getr (C : wk_C G p s m args c cc nL own Ts A) {k i ci j : Nat} {sl : List (Option (Nat × Nat))} {Cn : String} {T : u_T} {N index : Nat} {q : Nat × Nat} (hsh : G.2.2.2.2 k i = .inl (ci, sl)) (hi : i < G.2.2.2.1 k) (hz : G.2.2.1 k i < σ.1) (hnz : σ.2 k i j ≠ 0) (hc : vwCl[ci]? = some (Cn, T, N)) (hin : ∀ w ∈ u_ws Cn T N, w ∈ Ts) (hj : j < N) (hlink : (Cond.fieldLink own index (T j).1 (T j).2.1 (T j).2.2.1) ∈ Ts) (hsl : sl[j]? = some (some q)) (hdg : decode cc pc = .ok (.getfield index, 3)) (kk : ck G p l e R s m args below meth c cells slots Q A H0 nL (pc + 3) lv (.inr q :: st) σ) : ck G p l e R s m args below meth c cells slots Q A H0 nL pc lv (.inr (k, i) :: st) σ := by
  intro H locs ls hW hS hL
  refine va_get (D := G.1) (cl := vwCl) (ws := [(G.2.2.1 k i, .inr (ci, ce_sv G (σ.2 k i) 0 sl))]) (ci := ci) (C := Cn) (T := T) (N := N) (v := am_tv G (.inr q)) C.1 C.2.1 C.2.2.2.2.1 hin C.2.2.2.1 C.2.2.2.2.2.1.1 (hW.one hi hz (by rw [hsh]; rfl)) 0 rfl hc j hj (C.2.2.2.2.1 _ hlink) (fun _ h => h) ?_ hdg (kk H locs ls hW hS hL)
  rw [ce_get, hsl, Nat.zero_add]
  show some (ce_sl G (σ.2 k i) j (some q)) = _
  rw [ce_sl, if_neg hnz]
  rfl
theorem ck_getrN (C : wk_C G p s m args c cc nL own Ts A) {k i ci j : Nat} {sl : List (Option (Nat × Nat))} {Cn : String} {T : u_T} {N index : Nat} {host : String} {q : Nat × Nat} (hsh : G.2.2.2.2 k i = .inl (ci, sl)) (hi : i < G.2.2.2.1 k) (hz : G.2.2.1 k i < σ.1) (hnz : σ.2 k i j ≠ 0) (hc : vwCl[ci]? = some (Cn, T, N)) (hin : ∀ w ∈ u_ws Cn T N, w ∈ Ts) (hj : j < N) (hlink : (Cond.fieldLinkNest own index (T j).1 (T j).2.1 (T j).2.2.1 host) ∈ am_nest) (hsl : sl[j]? = some (some q)) (hdg : decode cc pc = .ok (.getfield index, 3)) (kk : ck G p l e R s m args below meth c cells slots Q A H0 nL (pc + 3) lv (.inr q :: st) σ) : ck G p l e R s m args below meth c cells slots Q A H0 nL pc lv (.inr (k, i) :: st) σ := by
  intro H locs ls hW hS hL
  refine va_getN (D := G.1) (cl := vwCl) (ws := [(G.2.2.1 k i, .inr (ci, ce_sv G (σ.2 k i) 0 sl))]) (ci := ci) (C := Cn) (T := T) (N := N) (v := am_tv G (.inr q)) C.1 C.2.1 C.2.2.2.2.1 hin C.2.2.2.1 C.2.2.2.2.2.1.1 (hW.one hi hz (by rw [hsh]; rfl)) 0 rfl hc j hj (va_Nw.use rfl (C.2.2.2.2.2.1.2 _ hlink)) (fun _ h => h) ?_ hdg (kk H locs ls hW hS hL)
  rw [ce_get, hsl, Nat.zero_add]
  show some (ce_sl G (σ.2 k i) j (some q)) = _
  rw [ce_sl, if_neg hnz]
  rfl
theorem ck_putR (C : wk_C G p s m args c cc nL own Ts A) (hnm2 : meth.name = "<init>") {k i ci j : Nat} {sl : List (Option (Nat × Nat))} {Cn : String} {T : u_T} {N index : Nat} {q : Nat × Nat} (hsh : G.2.2.2.2 k i = .inl (ci, sl)) (hi : i < G.2.2.2.1 k) (hz : G.2.2.1 k i < σ.1) (hc : vwCl[ci]? = some (Cn, T, N)) (hin : ∀ w ∈ u_ws Cn T N, w ∈ Ts) (ty0 : Nat → FieldType) (hty : ∀ k, k < N → parseFieldDescriptor (T k).2.2.1 = some (ty0 k)) (hnm : ∀ a, a < N → ∀ b, b < N → a ≠ b → (T a).2.1 ≠ (T b).2.1) (hj : j < N) (hlink : (Cond.fieldLink own index (T j).1 (T j).2.1 (T j).2.2.1) ∈ Ts) (hsl : sl[j]? = some (some q)) (hfin : (T j).2.2.2 = true) (hdecl : (T j).1 = own) (hn : ∀ a : Nat, narrow (ty0 j) (.ref a) = .ref a) (hfit : ∀ a : Nat, fits (ty0 j) (.ref a) = true) (hdg : decode cc pc = .ok (.putfield index, 3)) (kk : ck G p l e R s m args below meth c cells slots Q A H0 nL (pc + 3) lv st (σ.1, am_up σ.2 k i j 1)) : ck G p l e R s m args below meth c cells slots Q A H0 nL pc lv (.inr q :: .inr (k, i) :: st) σ := by
  intro H locs ls hW hS hL
  have hK := C.2.2.2.2.2.1.1
  have hts := C.2.2.2.2.1
  have hap := va_apart (own := own) (D := G.1) (cl := vwCl) (tys := am_tyl G.2.1) hts hin ty0 hty hnm hK hc
  have hat := (hW.2 k i hi).1 hz
  have hcell : ce G (G.2.2.2.2 k i) (σ.2 k i) = .inr (ci, ce_sv G (σ.2 k i) 0 sl) := by rw [hsh]; rfl
  rw [hcell] at hat
  obtain ⟨r, h1, cell, q1, q2, q3, q4⟩ := hat
  have hr : r = (Cn, T, N) := Option.some.inj (h1.symm.trans hc)
  subst hr
  obtain ⟨hSl, hfc, kC, hkC, hkind⟩ := hK.1 ci _ hc
  obtain ⟨cf, kf, fi, f, hi2, hsl2⟩ := hSl j hj
  have hlay := hts _ (hin _ (u_in_lay hj))
  unfold u_lay at hlay
  rw [if_pos hfin] at hlay
  have hst := (u_facts hfc hkC (u_lays hts hin hj) hi2).1
  have hcf : m.cls = cf := by
    obtain ⟨_, _, c', _, _, _, -, -, hf', -, -, -, hown2, -⟩ := Cond.laysFinal_spec hlay
    have e1 : c' = cf := by have := hi2.symm.trans hf'; simp at this; exact this.1.symm
    rw [hdecl] at hown2
    rw [← e1]; exact Option.some.inj (C.2.2.2.1.symm.trans hown2)
  have h6 := u_fits (v := .ref (G.2.2.1 q.1 q.2)) hfc hkC hkind (Or.inr hlay) hi2 (hty j hj) (hn _) (hfit _)
  refine W.putFinK C.1 C.2.1 C.2.2.2.1 (hts _ hlink) hi2 hst hcf hnm2 (by rw [q2]; exact h6) q1 q3 (by rw [hsl2]; exact k2_hasslot (q4 j hj)) rfl rfl hdg fun H' e1 e2 e3 => ?_
  rw [hsl2] at e1 ⊢
  have hl : j < (ce_sv G (σ.2 k i) 0 sl).length := by
    rw [ce_len]; exact (List.getElem?_eq_some_iff.mp hsl).1
  refine kk H' _ ls (hW.put C.2.2.2.2.2.2.1 hi hz ?_ e2 e3) (hS.put e2 e3 (C.2.2.2.2.2.2.2 _ ⟨k, i, hi, rfl⟩)) hL
  rw [hsh]
  show va_at G.1 vwCl (_, .inr (ci, ce_sv G (am_u1 (σ.2 k i) j 1) 0 sl)) H'
  rw [← ce_set _ _ _ _ _ _ hsl]
  have hv : ce_sl G (am_u1 (σ.2 k i) j 1) j (some q) = .ref (G.2.2.1 q.1 q.2) := by
    rw [ce_sl, if_neg (by simp [am_u1])]
  rw [hv]
  exact ⟨_, hc, t_OB.to (V := updV (vp_V (ce_sv G (σ.2 k i) 0 sl)) j (.ref (G.2.2.1 q.1 q.2))) ⟨_, e1, q2, q3, t_set q4 hap hj _⟩ (fun jj _ => vp_updV_set hl _ jj)⟩
theorem ck_put (C : wk_C G p s m args c cc nL own Ts A) {k i ci j : Nat} {x : Int} {sl : List (Option (Nat × Nat))} {Cn : String} {T : u_T} {N index : Nat} (hsh : G.2.2.2.2 k i = .inl (ci, sl)) (hi : i < G.2.2.2.1 k) (hz : G.2.2.1 k i < σ.1) (hc : vwCl[ci]? = some (Cn, T, N)) (hin : ∀ w ∈ u_ws Cn T N, w ∈ Ts) (ty0 : Nat → FieldType) (hty : ∀ k, k < N → parseFieldDescriptor (T k).2.2.1 = some (ty0 k)) (hnm : ∀ a, a < N → ∀ b, b < N → a ≠ b → (T a).2.1 ≠ (T b).2.1) (hj : j < N) (hlink : (Cond.fieldLink own index (T j).1 (T j).2.1 (T j).2.2.1) ∈ Ts) (hsl : sl[j]? = some none) (hfin : (T j).2.2.2 = false) (hd : parseFieldDescriptor (T j).2.2.1 = some .int) (hdg : decode cc pc = .ok (.putfield index, 3)) (kk : ck G p l e R s m args below meth c cells slots Q A H0 nL (pc + 3) lv st (σ.1, am_up σ.2 k i j x)) : ck G p l e R s m args below meth c cells slots Q A H0 nL pc lv (.inl x :: .inr (k, i) :: st) σ := by
  intro H locs ls hW hS hL
  have hK := C.2.2.2.2.2.1.1
  have hts := C.2.2.2.2.1
  have hap := va_apart (own := own) (D := G.1) (cl := vwCl) (tys := am_tyl G.2.1) hts hin ty0 hty hnm hK hc
  have hat := (hW.2 k i hi).1 hz
  have hcell : ce G (G.2.2.2.2 k i) (σ.2 k i) = .inr (ci, ce_sv G (σ.2 k i) 0 sl) := by rw [hsh]; rfl
  rw [hcell] at hat
  obtain ⟨r, h1, cell, q1, q2, q3, q4⟩ := hat
  have hr : r = (Cn, T, N) := Option.some.inj (h1.symm.trans hc)
  subst hr
  obtain ⟨hSl, hfc, kC, hkC, hkind⟩ := hK.1 ci _ hc
  obtain ⟨cf, kf, fi, f, hi2, hsl2⟩ := hSl j hj
  have hlay := hts _ (hin _ (u_in_lay hj))
  unfold u_lay at hlay
  rw [if_neg (by rw [hfin]; decide)] at hlay
  have hst := (u_facts hfc hkC (u_lays hts hin hj) hi2).1
  have h6 := u_store (v := .int (Int32.ofInt x)) hfc hkC hkind hlay hi2 hd rfl rfl
  refine W.putK C.1 C.2.1 (f := f) ⟨C.2.2.2.1, (C.2.2.2.2.1 _ hlink), ⟨_, _, _, hi2⟩, hst⟩ (by rw [q2]; exact h6) q1 q3 (by rw [hsl2]; exact k2_hasslot (q4 j hj)) rfl rfl hdg fun H' e1 e2 e3 => ?_
  rw [hsl2] at e1 ⊢
  have hl : j < (ce_sv G (σ.2 k i) 0 sl).length := by
    rw [ce_len]; exact (List.getElem?_eq_some_iff.mp hsl).1
  refine kk H' _ ls (hW.put C.2.2.2.2.2.2.1 hi hz ?_ e2 e3) (hS.put e2 e3 (C.2.2.2.2.2.2.2 _ ⟨k, i, hi, rfl⟩)) hL
  rw [hsh]
  show va_at G.1 vwCl (_, .inr (ci, ce_sv G (am_u1 (σ.2 k i) j x) 0 sl)) H'
  rw [← ce_set _ _ _ _ _ _ hsl]
  have hv : ce_sl G (am_u1 (σ.2 k i) j x) j none = .int (Int32.ofInt x) := by
    rw [ce_sl, am_u1, if_pos rfl]
  rw [hv]
  exact ⟨_, hc, t_OB.to (V := updV (vp_V (ce_sv G (σ.2 k i) 0 sl)) j (.int (Int32.ofInt x))) ⟨_, e1, q2, q3, t_set q4 hap hj _⟩ (fun jj _ => vp_updV_set hl _ jj)⟩
theorem ck_aald (C : wk_C G p s m args c cc nL own Ts A) {k i n t : Nat} {C2 : String} {rf : Nat → Nat × Nat} {a : Int} (hsh : G.2.2.2.2 k i = .inr (.inr (t, n, rf))) (ht : (am_tyl G.2.1)[t]? = some (G.2.1 t, .object C2)) (hi : i < G.2.2.2.1 k) (hz : G.2.2.1 k i < σ.1) (hn : n < 2147483648) (j : Nat) (hnz : σ.2 k i j ≠ 0) (ha : a = (j : Int)) (hj : j < n) (hdg : decode cc pc = .ok (.aaload, 1)) (kk : ck G p l e R s m args below meth c cells slots Q A H0 nL (pc + 1) lv (.inr (rf j) :: st) σ) : ck G p l e R s m args below meth c cells slots Q A H0 nL pc lv (.inl a :: .inr (k, i) :: st) σ := by
  intro H locs ls hW hS hL
  subst ha
  refine va_aldq (D := G.1) (cl := vwCl) (tys := am_tyl G.2.1) C.1 C.2.1 C.2.2.2.2.2.1.1 (hW.one hi hz (E := .inl (G.2.1 t, n, .inr (.inr (.inr (.inr (fun j => if σ.2 k i j = 0 then none else some (G.2.2.1 (rf j).1 (rf j).2))))))) (by rw [hsh]; rfl)) 0 t rfl ht (am_in (by omega) (by omega) hn) hdg ?_
  rw [am_cl (by omega) (by omega), Int.toNat_natCast, if_neg hnz]
  exact kk H locs ls hW hS hL
theorem ck_alenR (C : wk_C G p s m args c cc nL own Ts A) {k i n t : Nat} {rf : Nat → Nat × Nat} {ty : FieldType} (hsh : G.2.2.2.2 k i = .inr (.inr (t, n, rf))) (ht : (am_tyl G.2.1)[t]? = some (G.2.1 t, ty)) (hi : i < G.2.2.2.1 k) (hz : G.2.2.1 k i < σ.1) (hdg : decode cc pc = .ok (.arraylength, 1)) (kk : ck G p l e R s m args below meth c cells slots Q A H0 nL (pc + 1) lv (.inl (n : Int) :: st) σ) : ck G p l e R s m args below meth c cells slots Q A H0 nL pc lv (.inr (k, i) :: st) σ := by
  intro H locs ls hW hS hL
  exact va_alen (D := G.1) (cl := vwCl) (tys := am_tyl G.2.1) C.1 C.2.1 C.2.2.2.2.2.1.1 (hW.one hi hz (E := .inl (G.2.1 t, n, .inr (.inr (.inr (.inr (fun j => if σ.2 k i j = 0 then none else some (G.2.2.1 (rf j).1 (rf j).2))))))) (by rw [hsh]; rfl)) 0 t rfl ht (v := Int32.ofInt (n : Int)) rfl hdg (kk H locs ls hW hS hL)
theorem ck_aast (C : wk_C G p s m args c cc nL own Ts A) {k i n t k2 i2 ci : Nat} {r : vw_C} {sl : List (Option (Nat × Nat))} {rf : Nat → Nat × Nat} {a : Int} (hsh : G.2.2.2.2 k i = .inr (.inr (t, n, rf))) (ht : (am_tyl G.2.1)[t]? = some (G.2.1 t, .object r.1)) (hi : i < G.2.2.2.1 k) (hz : G.2.2.1 k i < σ.1) (hn : n < 2147483648) (j : Nat) (ha : a = (j : Int)) (hj : j < n) (hrf : rf j = (k2, i2)) (hsh2 : G.2.2.2.2 k2 i2 = .inl (ci, sl)) (hc : vwCl[ci]? = some r) (hi2 : i2 < G.2.2.2.1 k2) (hz2 : G.2.2.1 k2 i2 < σ.1) (hdg : decode cc pc = .ok (.aastore, 1)) (kk : ck G p l e R s m args below meth c cells slots Q A H0 nL (pc + 1) lv st (σ.1, am_up σ.2 k i j 1)) : ck G p l e R s m args below meth c cells slots Q A H0 nL pc lv (.inr (k2, i2) :: .inl a :: .inr (k, i) :: st) σ := by
  intro H locs ls hW hS hL
  subst ha
  have hK := C.2.2.2.2.2.1.1
  have hat := (hW.2 k i hi).1 hz
  rw [hsh] at hat
  have hcell : H[G.2.2.1 k i]? = some (vp_cell (G.2.1 t) (n, .inr (.inr (.inr (.inr (fun j => if σ.2 k i j = 0 then none else some (G.2.2.1 (rf j).1 (rf j).2))))))) := hat
  have hat2 := (hW.2 k2 i2 hi2).1 hz2
  rw [hsh2] at hat2
  obtain ⟨r', hr', cellV, g1, g2, g3, -⟩ := hat2
  have hcls := (hK.1 ci r hc).2
  obtain ⟨kA, comp, e1, e2, e3, -⟩ := (hK.2 t _ ht).2
  have hcomp : comp = G.1.1 ci := Option.some.inj (e3.symm.trans hcls.1)
  subst hcomp
  obtain ⟨kC, hkC, -⟩ := hcls.2
  have hN : (Int32.ofInt (j : Int)).toNatClampNeg = j := by rw [am_cl (by omega) (by omega), Int.toNat_natCast]
  refine W.aast C.1 C.2.1 hcell (fun q h => by cases h) (fun h => by cases h) e1 e2 rfl hkC ⟨?_, ?_⟩ g1 (fun q h => by rw [g3] at h; cases h) (by rw [g2]; exact hkC) (by rw [g2]; exact va_assign hcls) rfl rfl hdg fun H1 f1 z oq => ?_
  · rw [am_0, am_lt ⟨by omega, by omega⟩ ⟨by omega, by omega⟩]; omega
  · rw [hN]; show _ < (arrV _ _ _).slots.size; rw [arrV_size]; exact hj
  refine kk H1 _ ls (hW.put C.2.2.2.2.2.2.1 hi hz ?_ z oq) (hS.put z oq (C.2.2.2.2.2.2.2 _ ⟨k, i, hi, rfl⟩)) hL
  rw [hsh]
  show H1[_]? = some (vp_cell (G.2.1 t) (n, .inr (.inr (.inr (.inr (fun j' => if am_u1 (σ.2 k i) j 1 j' = 0 then none else some (G.2.2.1 (rf j').1 (rf j').2)))))))
  rw [f1, hN, vp_cell_q, vp_cell_q, arrV_store]
  congr 2
  funext q
  by_cases hq : q = j
  · subst hq
    simp [updV, am_u1, va_rf, hrf]
  · simp [updV, am_u1, hq]
theorem ck_vret (C : wk_C G p s m args c cc nL own Ts (am_FA G)) (hr : meth.sig.returnType = none) (hlk : meth.locks = false) {post : Nat × am_M → Prop} {mc ms : Nat} (hmc : cells = mc) (hms : slots = ms) (hdg : decode cc pc = .ok (.return_, 1)) (hp : post σ) : ck G p l e R s m args below meth c cells slots (MQ below (cQV G post) args s mc ms (am_FA G)) (am_FA G) s.heap nL pc lv [] σ := by
  intro H locs ls hW hS hL
  subst hmc hms
  exact W.vret C.1 C.2.1 hr (fun t ht _ => ⟨⟨σ, rfl, hp, by show cw G σ t.heap; rw [ht]; exact hW⟩, hS.F ht⟩) (fun q hq => hS.2.2 q hq) hdg hlk
theorem ck_aret (C : wk_C G p s m args c cc nL own Ts (am_FA G)) {rn : String} (hr : meth.sig.returnType = some (.object rn)) (hlk : meth.locks = false) {post : Nat × Nat → Nat × am_M → Prop} {x : Nat × Nat} (hdg : decode cc pc = .ok (.areturn, 1)) (hp : post x σ) : ck G p l e R s m args below meth c 0 0 (MQ below (cQR G post) args s 0 0 (am_FA G)) (am_FA G) s.heap nL pc lv [.inr x] σ := by
  intro H locs ls hW hS hL
  exact W.aret C.1 C.2.1 hr (Or.inl ⟨_, rfl⟩) (Or.inr ⟨_, rfl⟩) (fun t ht _ => ⟨⟨(x, σ), _, rfl, hp, rfl, by show cw G σ t.heap; rw [ht]; exact hW⟩, hS.F ht⟩) (fun q hq => hS.2.2 q hq) hdg hlk
theorem ck_ofV (C : wk_C G p s m args c cc nL own Ts A) {stk : List am_V} {a : Array Value} {post : Nat × am_M → Prop} {mc ms : Nat}
    (hr : ∀ (H : Heap) (locs : List Loc) (ls : Array Slot), cw G σ H → ls.size = nL → va_Run p l e R s m args below meth c H locs cells slots mc ms (F0 m pc ls (stk.map (am_tv G))) (st.map (am_tv G)) (cQV G post a) (am_FA G))
    (kk : ∀ (σ' : Nat × am_M), post σ' → ck G p l e R s m args below meth c (cells + mc) (slots + ms) Q A H0 nL (pc + 3) lv st σ') : ck G p l e R s m args below meth c cells slots Q A H0 nL pc lv stk σ := by
  intro H locs ls hW hS hL
  refine va_callv (hr H locs ls hW hL.1) hS (fun q _ h => C.2.2.2.2.2.2.2 q h) (fun q h => C.2.2.2.2.2.2.2 q h) (fun u t H1 locs1 ht hvm hp hB hz hk hS1 => ?_)
  exact kk u hp H1 locs1 ls (by rw [← ht]; exact hB) hS1 hL
theorem ck_ofR (C : wk_C G p s m args c cc nL own Ts A) {stk : List am_V} {a : Array Value} {post : Nat × Nat → Nat × am_M → Prop}
    (hr : ∀ (H : Heap) (locs : List Loc) (ls : Array Slot), cw G σ H → ls.size = nL → va_Run p l e R s m args below meth c H locs cells slots 0 0 (F0 m pc ls (stk.map (am_tv G))) (st.map (am_tv G)) (cQR G post a) (am_FA G))
    (kk : ∀ (r : Nat × Nat) (σ' : Nat × am_M), post r σ' → ck G p l e R s m args below meth c cells slots Q A H0 nL (pc + 3) lv (.inr r :: st) σ') : ck G p l e R s m args below meth c cells slots Q A H0 nL pc lv stk σ := by
  intro H locs ls hW hS hL
  refine va_callr (hr H locs ls hW hL.1) hS (fun q _ h => C.2.2.2.2.2.2.2 q h) (fun q h => C.2.2.2.2.2.2.2 q h) (fun u ra t H1 locs1 ht hvm hp hB hz hk hS1 => ?_)
  obtain ⟨rfl, hB⟩ := hB
  exact kk u.1 u.2 hp H1 locs1 ls (by rw [← ht]; exact hB) hS1 hL
section CKV
variable {y : MethodName} {ws' : List Cond} {rm : Room} {bytes : ByteArray} {maxL n index k0 i0 ci N mc ms : Nat} {ret : Option FieldType} {Cn host : String} {T : u_T} {sl : List (Option (Nat × Nat))} {av stk : List am_V} {Qc : Array Value → State → Outcome → State → Prop}
theorem ck_runIN (C : wk_C G p s m args c cc nL own Ts A) (hao : am_AO s) (hM : Met l y ws' rm (cP G σ (.inr (k0, i0) :: av)) Qc mc ms (am_FA G)) (cw9 : va_CN R s args own index y host bytes maxL none ws' rm mc ms n ∧ y.name = "<init>" ∧ (Cond.instanceMethod y).before args s = true)
    (hn : av.length = n) (hstk : stk = av.reverse ++ .inr (k0, i0) :: st) (hst : st.length ≤ 8) (hdg : decode cc pc = .ok (.invokespecial index, 3)) (hcs : cells + mc ≤ R.cells ∧ slots + ms ≤ R.slots) :
    ∀ (H : Heap) (locs : List Loc) (ls : Array Slot), cw G σ H → ls.size = nL → va_Run p l e R s m args below meth c H locs cells slots mc ms (F0 m pc ls (stk.map (am_tv G))) (st.map (am_tv G)) (Qc ((.inr (k0, i0) :: av).map (am_tv G)).toArray) (am_FA G) := by
  intro H locs ls hW hL
  exact va_runIN (As := av.map (am_tv G)) ⟨C.1, C.2.1, C.2.2.1, C.2.2.2.1, C.2.2.2.2.1⟩ hM cw9 ⟨cP_blind _ _ _, fun U hU hW9 => ⟨rfl, by rw [hU]; exact hW, am_K.warm hW9 C.2.2.2.2.2.1, hao.moved hW9.alike⟩⟩ rfl (by rw [List.length_map]; exact hn) hL (wk_stk hstk) (wk_room hst) hdg hcs
theorem ck_runV (C : wk_C G p s m args c cc nL own Ts A) (hao : am_AO s) (hM : Met l y ws' rm (cP G σ (.inr (k0, i0) :: av)) Qc mc ms (am_FA G)) (cw9 : CallW R s args own Cn index y bytes maxL ret ws' rm mc ms n)
    (hsh : G.2.2.2.2 k0 i0 = .inl (ci, sl)) (hi : i0 < G.2.2.2.1 k0) (hz : G.2.2.1 k0 i0 < σ.1) (hc : vwCl[ci]? = some (Cn, T, N)) (hn : av.length = n) (hstk : stk = av.reverse ++ .inr (k0, i0) :: st) (hst : st.length ≤ 8) (hdg : decode cc pc = .ok (.invokevirtual index, 3)) (hcs : cells + mc ≤ R.cells ∧ slots + ms ≤ R.slots) :
    ∀ (H : Heap) (locs : List Loc) (ls : Array Slot), cw G σ H → ls.size = nL → va_Run p l e R s m args below meth c H locs cells slots mc ms (F0 m pc ls (stk.map (am_tv G))) (st.map (am_tv G)) (Qc ((.inr (k0, i0) :: av).map (am_tv G)).toArray) (am_FA G) := by
  intro H locs ls hW hL
  exact va_runV (As := av.map (am_tv G)) ⟨C.1, C.2.1, C.2.2.1, C.2.2.2.1, C.2.2.2.2.1⟩ hM cw9 ⟨cP_blind _ _ _, va_recv C.2.2.2.2.2.1.1 (hW.one hi hz (by rw [hsh]; rfl)) hc (q0 := 0) rfl, fun U hU hW9 => ⟨rfl, by rw [hU]; exact hW, am_K.warm hW9 C.2.2.2.2.2.1, hao.moved hW9.alike⟩⟩ rfl (by rw [List.length_map]; exact hn) hL (wk_stk hstk) (wk_room hst) hdg hcs
end CKV
/-- the last call of a constructor: on a full world, of a contract of the finished world -/
theorem ck_fin (C : wk_C G p s m args c cc nL own Ts (am_FA G)) (hr : meth.sig.returnType = none) (hlk : meth.locks = false) {stk : List am_V} {a : Array Value} {post post2 : am_M → Prop} {mc ms : Nat} (hmc : cells = mc) (hms : slots = ms) (hfull : ∀ H, cw G σ H → am_wd G σ.2 H)
    (hrun : ∀ (H : Heap) (locs : List Loc) (ls : Array Slot), am_wd G σ.2 H → ls.size = nL → va_Run p l e R s m args below meth c H locs cells slots 0 0 (F0 m pc ls (stk.map (am_tv G))) (([] : List am_V).map (am_tv G)) (am_QV G post a) (am_FA G))
    (hdg : decode cc (pc + 3) = .ok (.return_, 1)) (hp : ∀ σ', post σ' → post2 σ') : ck G p l e R s m args below meth c cells slots (MQ below (am_QV G post2) args s mc ms (am_FA G)) (am_FA G) s.heap nL pc lv stk σ := by
  intro H locs ls hW hS hL
  subst hmc hms
  refine va_callv (hrun H locs ls (hfull H hW) hL.1) hS (fun q _ h => h) (fun q h => h) (fun u t H1 locs1 ht hvm hpu hB hz hk hS1 => ?_)
  exact W.vret C.1 C.2.1 hr (fun t2 ht2 _ => ⟨⟨u, rfl, hp u hpu, by show am_wd G u t2.heap; rw [ht2, ← ht]; exact hB⟩, hS1.F ht2⟩) (fun q hq => hS1.2.2 q hq) hdg hlk
end CK
theorem ck_start {G : am_G} {l : Launch} {y : MethodName} {ws ws' : List Cond} {rm : Room} {Qc : Array Value → State → Outcome → State → Prop} {cc : ByteArray} {nL : Nat} {ret : Option FieldType} {own : String} {av : List am_V} {σ : Nat × am_M} {mc ms : Nat}
    (hy : plainName y.cls = true) (hw : ws = Cond.code y cc nL ret :: ws') (hI : am_inj G) (hcls : y.cls = own) (hlen : av.length ≤ nL)
    (body : ∀ p e s m below meth c, wk_C G p s m (av.map (am_tv G)).toArray c cc nL own ws (am_FA G) → am_AO s → meth.name = y.name → meth.sig.returnType = ret → meth.locks = false →
      ck G p l e (headSpec ws rm).room s m (av.map (am_tv G)).toArray below meth c 0 0 (MQ below Qc (av.map (am_tv G)).toArray s mc ms (am_FA G)) (am_FA G) s.heap nL 0 (av.map some ++ List.replicate (nL - av.length) none) [] σ) :
    Met l y ws rm (cP G σ av) Qc mc ms (am_FA G) := by
  refine Met.ofW (cc := cc) (maxL := nL) (ret := ret) hy hw ?_
  intro p e s m args below meth c s₁ B hml hv
  obtain ⟨rfl, hW, hK, hao⟩ := hv
  have hts := atoms_spec (ws := ws) B.pre
  have hown : s.vm.findClass own = some m.cls := hcls ▸ findClass_of_methodNamed B.named
  rw [lg_entry_eq]
  have hl := lv_entry (av.map (am_tv G)) (n := nL) (by rw [am_lgsl]; exact hlen)
  rw [am_lv_args G (nL - av.length) av 0] at hl
  exact body p e s m below meth c ⟨B.exec, B.bytes, hml, hown, hts, hK, hI, fun _ h => h⟩ hao (name_of_methodNamed B.named B.method).1 B.returns B.notSynchronized s.heap [] _ hW va_S.rf hl
/-! what is set -/
theorem up_nz {S : Nat → Nat → Nat → Prop} {σ : am_M} (hs : ∀ k x j, S k x j → σ k x j ≠ 0) (K I J : Nat) : ∀ k x j, (S k x j ∨ (k = K ∧ x = I ∧ j = J)) → am_up σ K I J 1 k x j ≠ 0 := by
  intro k x j hq
  rw [am_up_app]
  split
  · decide
  · rename_i hn
    rcases hq with hq | hq
    · exact hs k x j hq
    · exact absurd hq hn
theorem ca_lt {a b d : Nat} (h : a = b) (h2 : b < d) : a < d := h ▸ h2
def lk_A (g : am_g) (L a : Nat) : Prop := g.2.2 11 L = a ∧ g.2.2 12 L = a + 1 ∧ g.2.2 13 L = a + 2 ∧ ∀ j, j < 4 → g.2.2 14 (4 * L + j) = a + 3 + j
def nd_A (g : am_g) (n a : Nat) : Prop := g.2.2 15 n = a ∧ g.2.2 16 n = a + 1 ∧ g.2.2 17 n = a + 2 ∧ g.2.2 18 n = a + 3
