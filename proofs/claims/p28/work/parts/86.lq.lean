/-! the law's cells: the component's, the array f (kind 60) and the array m (kind 61) -/
def ll_n (k : Nat) : Nat := if k = 60 ∨ k = 61 then 1 else lc_n k
def ll_s (k i : Nat) : am_Sh := if k = 60 then .inr (.inl (0, 24)) else if k = 61 then .inr (.inl (0, 4)) else lc_s k i
def gL (g : am_g) : am_G := (g.1, g.2.1, g.2.2, ll_n, ll_s)
theorem ll_lt {k i : Nat} (h : i < lc_n k) : k < 19 := by
  by_cases q : k < 19
  · exact q
  · exfalso
    obtain ⟨j, rfl⟩ : ∃ j, k = j + 19 := ⟨k - 19, by omega⟩
    exact Nat.not_lt_zero i h
theorem ll_C {k i : Nat} (h : i < lc_n k) : ll_n k = lc_n k ∧ ll_s k i = lc_s k i := by
  have := ll_lt h
  unfold ll_n ll_s
  rw [if_neg (by omega), if_neg (by omega), if_neg (by omega)]
  exact ⟨rfl, rfl⟩
/-- the component's memory in the law's -/
def l_mix (σ' σ : am_M) : am_M := fun k => if k < 19 then σ' k else σ k
theorem l_mix_s (σ : am_M) : l_mix σ σ = σ := by funext k; unfold l_mix; split <;> rfl
theorem lC_of {g : am_g} {σ : am_M} {H : Heap} (h : am_wd (gL g) σ H) : am_wd (gC g) σ H := fun k i hi => by
  have hi : i < lc_n k := hi
  have e := ll_C hi
  have := h k i (show i < ll_n k by rw [e.1]; exact hi)
  show va_at g.1 vwCl (g.2.2 k i, am_cell (gC g) (lc_s k i) (σ k i)) H
  rw [← e.2]
  exact this
theorem lC_FA {g : am_g} {q : Nat} (h : am_FA (gC g) q) : am_FA (gL g) q := by
  obtain ⟨k, i, hi, rfl⟩ := h
  have hi : i < lc_n k := hi
  exact ⟨k, i, show i < ll_n k by rw [(ll_C hi).1]; exact hi, rfl⟩
theorem lC_inj {g : am_g} (h : am_inj (gL g)) : am_inj (gC g) := fun k i k' i' h1 h2 e => by
  have h1 : i < lc_n k := h1
  have h2 : i' < lc_n k' := h2
  exact h k i k' i' (show i < ll_n k by rw [(ll_C h1).1]; exact h1) (show i' < ll_n k' by rw [(ll_C h2).1]; exact h2) e
theorem lC_in {g : am_g} (hI : am_inj (gL g)) {σ σ' : am_M} {H H1 : Heap} (h : am_wd (gL g) σ H) (hB : am_wd (gC g) σ' H1) (hk : ∀ q : Nat, q < H.size → ¬ am_FA (gC g) q → H1[q]? = H[q]?) : am_wd (gL g) (l_mix σ' σ) H1 := fun k i hi => by
  have hi : i < ll_n k := hi
  by_cases q : k < 19
  · have hi2 : i < lc_n k := by
      unfold ll_n at hi
      rw [if_neg (by omega)] at hi
      exact hi
    have := hB k i hi2
    show va_at g.1 vwCl (g.2.2 k i, am_cell (gL g) (ll_s k i) (l_mix σ' σ k i)) H1
    rw [(ll_C hi2).2]
    unfold l_mix
    rw [if_pos q]
    exact this
  · have h0 := h k i hi
    have : l_mix σ' σ k = σ k := by unfold l_mix; rw [if_neg q]
    show va_at g.1 vwCl (g.2.2 k i, am_cell (gL g) (ll_s k i) (l_mix σ' σ k i)) H1
    rw [this]
    refine h0.kept (hk _ h0.lt (fun z => ?_))
    obtain ⟨k', i', h1, e⟩ := z
    have h1 : i' < lc_n k' := h1
    have := (hI k' i' k i (show i' < ll_n k' by rw [(ll_C h1).1]; exact h1) hi e).1
    have := ll_lt h1
    omega
abbrev qi (x : Int) : Value := Value.int (Int32.ofInt x)
def i64 (x : Int) : Int64 := (Int32.ofInt x).toInt64
/-! locals -/
def lq_ll : Nat → List (Option Value) → List (Nat × Value)
  | _, [] => []
  | i, none :: r => lq_ll (i + 1) r
  | i, some v :: r => (i, v) :: lq_ll (i + 1) r
theorem lq_mem : ∀ (lv : List (Option Value)) (i j : Nat) (w : Value), (j, w) ∈ lq_ll i lv ↔ i ≤ j ∧ lv[j - i]? = some (some w)
  | [], i, j, w => by simp [lq_ll]
  | none :: r, i, j, w => by
    rw [lq_ll, lq_mem r (i + 1) j w]
    constructor
    · rintro ⟨h1, h2⟩
      refine ⟨by omega, ?_⟩
      rw [show j - i = (j - (i + 1)) + 1 by omega, List.getElem?_cons_succ]
      exact h2
    · rintro ⟨h1, h2⟩
      by_cases h : j = i
      · subst h
        simp at h2
      · refine ⟨by omega, ?_⟩
        rw [show j - i = (j - (i + 1)) + 1 by omega, List.getElem?_cons_succ] at h2
        exact h2
  | some u :: r, i, j, w => by
    rw [lq_ll, List.mem_cons, lq_mem r (i + 1) j w]
    constructor
    · rintro (h | ⟨h1, h2⟩)
      · cases h
        exact ⟨Nat.le_refl _, by simp⟩
      · refine ⟨by omega, ?_⟩
        rw [show j - i = (j - (i + 1)) + 1 by omega, List.getElem?_cons_succ]
        exact h2
    · rintro ⟨h1, h2⟩
      by_cases h : j = i
      · subst h
        simp at h2
        subst h2
        exact Or.inl rfl
      · refine Or.inr ⟨by omega, ?_⟩
        rw [show j - i = (j - (i + 1)) + 1 by omega, List.getElem?_cons_succ] at h2
        exact h2
theorem lq_get {ls : Array Slot} {nL : Nat} {lv : List (Option Value)} (h : lv_has ls nL (lq_ll 0 lv)) {i : Nat} {v : Value} (hv : lv[i]? = some (some v)) : ls[i]? = some (.val v) :=
  h.2.2 (i, v) ((lq_mem lv 0 i _).mpr ⟨Nat.zero_le _, hv⟩)
/-- ahead of the place i no long ends -/
def lq_ok (lv : List (Option Value)) : Nat → Bool
  | 0 => true
  | i + 1 => match lv[i]? with
    | some (some v) => decide (v.category = 1)
    | _ => true
theorem lq_ok_s {lv : List (Option Value)} {i j : Nat} {w : Value} (h : lq_ok lv i = true) (hw : lv[j]? = some (some w)) (hj : j + 1 = i) : w.category = 1 := by
  subst hj
  simp only [lq_ok, hw] at h
  exact of_decide_eq_true h
theorem lq_set {ls : Array Slot} {nL : Nat} {lv : List (Option Value)} {i : Nat} {v : Value} (hi : i < lv.length) (hok : lq_ok lv i = true)
    (h : lv_has ls nL ((i, v) :: (lq_ll 0 lv).filter (fun q => !(q.1 == i) && !(q.1 + 1 == i && q.2.category == 2)))) : lv_has ls nL (lq_ll 0 (lv.set i (some v))) := by
  refine ⟨h.1, h.2.1, fun q hq => h.2.2 q ?_⟩
  obtain ⟨j, w⟩ := q
  obtain ⟨-, h2⟩ := (lq_mem _ 0 j w).mp hq
  rw [Nat.sub_zero] at h2
  by_cases hj : j = i
  · subst hj
    rw [List.getElem?_set_self hi] at h2
    cases h2
    exact List.mem_cons_self
  · rw [List.getElem?_set_ne (Ne.symm hj)] at h2
    refine List.mem_cons_of_mem _ (List.mem_filter.mpr ⟨(lq_mem lv 0 j w).mpr ⟨Nat.zero_le _, h2⟩, ?_⟩)
    by_cases hs : j + 1 = i
    · have := lq_ok_s hok h2 hs
      simp [hj, this]
    · simp [hj, hs]
theorem lq_set2 {ls : Array Slot} {nL : Nat} {lv : List (Option Value)} {i : Nat} {v : Value} (hi : i < lv.length) (hok : lq_ok lv i = true)
    (h : lv_has ls nL ((i, v) :: (lq_ll 0 lv).filter (fun q => !(q.1 == i) && (!(q.1 == i + 1) && !(q.1 + 1 == i && q.2.category == 2))))) : lv_has ls nL (lq_ll 0 ((lv.set i (some v)).set (i + 1) none)) := by
  refine ⟨h.1, h.2.1, fun q hq => h.2.2 q ?_⟩
  obtain ⟨j, w⟩ := q
  obtain ⟨-, h2⟩ := (lq_mem _ 0 j w).mp hq
  rw [Nat.sub_zero] at h2
  by_cases hj1 : j = i + 1
  · subst hj1
    by_cases hl : i + 1 < (lv.set i (some v)).length
    · rw [List.getElem?_set_self hl] at h2; cases h2
    · rw [List.getElem?_eq_none (by rw [List.length_set]; omega)] at h2; cases h2
  · rw [List.getElem?_set_ne (Ne.symm hj1)] at h2
    by_cases hj : j = i
    · subst hj
      rw [List.getElem?_set_self hi] at h2
      cases h2
      exact List.mem_cons_self
    · rw [List.getElem?_set_ne (Ne.symm hj)] at h2
      refine List.mem_cons_of_mem _ (List.mem_filter.mpr ⟨(lq_mem lv 0 j w).mpr ⟨Nat.zero_le _, h2⟩, ?_⟩)
      by_cases hs : j + 1 = i
      · have := lq_ok_s hok h2 hs
        simp [hj, hj1, this]
      · simp [hj, hj1, hs]
theorem lq_nones : ∀ (n i : Nat), lq_ll i (List.replicate n none) = []
  | 0, _ => rfl
  | n + 1, i => by rw [List.replicate_succ, lq_ll, lq_nones n]
theorem lq_args (n : Nat) : ∀ (av : List Value) (i : Nat), (∀ v ∈ av, v.category = 1) → lv_args i av = lq_ll i (av.map some ++ List.replicate n none)
  | [], i, _ => by rw [List.map_nil, List.nil_append, lq_nones]; rfl
  | v :: r, i, h => by
    rw [List.map_cons, List.cons_append, lq_ll, ← lq_args n r (i + 1) (fun w hw => h w (List.mem_cons_of_mem _ hw)), lv_args, h v List.mem_cons_self]
    simp
theorem lq_sl : ∀ av : List Value, (∀ v ∈ av, v.category = 1) → (lg_sl av).length = av.length
  | [], _ => rfl
  | v :: r, h => by
    have ih := lq_sl r (fun w hw => h w (List.mem_cons_of_mem _ hw))
    have h1 := h v List.mem_cons_self
    have : lg_sl (v :: r) = [.val v] ++ lg_sl r := by simp [lg_sl, h1]
    rw [this, List.length_append, ih, List.length_cons]
    simp [Nat.add_comm]
/-! the law's world -/
def lZ (g : am_g) (U : State) (H : Heap) : Prop := am_K (gL g) U ∧ am_Z (am_FA (gL g)) U H ∧ va_Nc "java/lang/IllegalStateException" "java/lang/IllegalArgumentException" U
theorem lZ.go {g : am_g} {s U : State} {H H0 : Heap} (hW : s.WarmedH U.vm) (h : lZ g s H0) (hk : ∀ a : Nat, a < H0.size → ¬ am_FA (gL g) a → H[a]? = H0[a]?) : lZ g U H :=
  ⟨am_K.warm hW h.1, am_Z.go hW h.2.1 hk, h.2.2.moved hW.alike⟩
theorem lZ.same {g g' : am_g} {U V : State} {H : Heap} (hW : U.WarmedH V.vm) (h : lZ g U H) : lZ g V H := lZ.go hW h (fun _ _ _ => rfl)
theorem am_Z.narrow {A B : Nat → Prop} {U : State} {H : Heap} (h : am_Z A U H) (hAB : ∀ q, B q → A q) : am_Z B U H := ⟨h.1.narrow hAB, h.2.1.narrow hAB, h.2.2⟩
def lP (g : am_g) (σ : am_M) (av : List Value) : Array Value → State → Prop := va_Pc av (fun U => am_wd (gL g) σ U.heap ∧ lZ g U U.heap)
theorem lP_blind (g : am_g) (σ : am_M) (av : List Value) : FrameBlind (lP g σ av) := fun a U g' mk h => ⟨h.1, h.2.1, am_K.same (u := U) (U := U.calling g' mk a) rfl h.2.2.1, am_Z.go (s := U) (U := U.calling g' mk a) (State.WarmedH.refl U) h.2.2.2.1 (fun _ _ _ => rfl), h.2.2.2.2.moved (u := U) (U := U.calling g' mk a) (Vm.Alike.refl _)⟩
def lQ (g : am_g) (post : Int → am_M → Prop) : Array Value → State → Outcome → State → Prop := va_Qi (S := am_M) (fun r u => ∃ x : Int, r = Int32.ofInt x ∧ post x u) (fun u t => am_wd (gL g) u t.heap) (am_FA (gL g))
def lQJ (g : am_g) (post : Int64 → am_M → Prop) : Array Value → State → Outcome → State → Prop := va_Ql (S := am_M) post (fun u t => am_wd (gL g) u t.heap) (am_FA (gL g))
def wq (g : am_g) (p : Program) (l : Launch) (e : Env) (R : Room) (s : State) (m : MethodId) (args : Array Value) (below : List Frame) (meth : Method) (c : Code) (cells slots : Nat) (Q : State → Prop) (A : Nat → Prop) (nL pc : Nat) (lv : List (Option Value)) (st : List Value) (σ : am_M) : Prop :=
  ∀ (H : Heap) (locs : List Loc) (ls : Array Slot), am_wd (gL g) σ H → va_S A s.heap H locs → lv_has ls nL (lq_ll 0 lv) → W p l e R s m args below meth c H locs cells slots Q (F0 m pc ls st)
/-- what a walk stands on -/
def lq_C (g : am_g) (p : Program) (s : State) (m : MethodId) (args : Array Value) (c : Code) (cc : ByteArray) (nL : Nat) (Ts : List Cond) (A : Nat → Prop) : Prop :=
  CallFix p m c cc nL s args Ts RL ∧ lZ g s s.heap ∧ am_inj (gL g) ∧ (∀ q, am_FA (gL g) q → A q) ∧ (∀ a : Nat, a < s.heap.size → ¬ am_FA (gL g) a → ¬ A a)
section LQ
variable {g : am_g} {p : Program} {l : Launch} {e : Env} {R : Room} {s : State} {m : MethodId} {args : Array Value} {below : List Frame} {meth : Method} {c : Code} {cells slots : Nat} {Q : State → Prop}
variable {A : Nat → Prop} {nL pc : Nat} {lv : List (Option Value)} {st : List Value} {σ : am_M} {cc : ByteArray} {Ts : List Cond}
theorem wq_iconst (C : lq_C g p s m args c cc nL Ts A) {n : Int}  (hdg : decode cc pc = .ok (.iconst n, 1)) (k : wq g p l e R s m args below meth c cells slots Q A nL (pc + 1) lv (qi n :: st) σ) : wq g p l e R s m args below meth c cells slots Q A nL pc lv (st) σ := by
  intro H locs ls hW hS hL
  exact lv_iconst C.1.1 C.1.2.1 hdg rfl (k H locs ls hW hS hL)
theorem wq_bipush (C : lq_C g p s m args c cc nL Ts A) {n : Int} (hv : (Int8.ofInt n).toInt32 = Int32.ofInt n) (hdg : decode cc pc = .ok (.bipush n, 2)) (k : wq g p l e R s m args below meth c cells slots Q A nL (pc + 2) lv (qi n :: st) σ) : wq g p l e R s m args below meth c cells slots Q A nL pc lv (st) σ := by
  intro H locs ls hW hS hL
  exact lv_bipush C.1.1 C.1.2.1 hdg hv (k H locs ls hW hS hL)
theorem wq_sipush (C : lq_C g p s m args c cc nL Ts A) {n : Int} (hv : (Int16.ofInt n).toInt32 = Int32.ofInt n) (hdg : decode cc pc = .ok (.sipush n, 3)) (k : wq g p l e R s m args below meth c cells slots Q A nL (pc + 3) lv (qi n :: st) σ) : wq g p l e R s m args below meth c cells slots Q A nL pc lv (st) σ := by
  intro H locs ls hW hS hL
  exact lv_sipush C.1.1 C.1.2.1 hdg hv (k H locs ls hW hS hL)
theorem wq_lconst (C : lq_C g p s m args c cc nL Ts A) {n : Fin 2} {v : Int64} (hv : Int64.ofNat (n : Nat) = v) (hdg : decode cc pc = .ok (.lconst n, 1)) (k : wq g p l e R s m args below meth c cells slots Q A nL (pc + 1) lv (.long v :: st) σ) : wq g p l e R s m args below meth c cells slots Q A nL pc lv (st) σ := by
  intro H locs ls hW hS hL
  exact lv_lconst C.1.1 C.1.2.1 hdg hv (k H locs ls hW hS hL)
theorem wq_iload_n (C : lq_C g p s m args c cc nL Ts A) {j : Fin 4} {x : Int32} (hl : lv[(j : Nat)]? = some (some (.int x))) (hdg : decode cc pc = .ok (.iload_n j, 1)) (k : wq g p l e R s m args below meth c cells slots Q A nL (pc + 1) lv (.int x :: st) σ) : wq g p l e R s m args below meth c cells slots Q A nL pc lv (st) σ := by
  intro H locs ls hW hS hL
  exact lv_iload_n C.1.1 C.1.2.1 hdg rfl (lq_get hL hl) (k H locs ls hW hS hL)
theorem wq_iload (C : lq_C g p s m args c cc nL Ts A) {j : Nat} {x : Int32} (hl : lv[j]? = some (some (.int x))) (hdg : decode cc pc = .ok (.iload j, 2)) (k : wq g p l e R s m args below meth c cells slots Q A nL (pc + 2) lv (.int x :: st) σ) : wq g p l e R s m args below meth c cells slots Q A nL pc lv (st) σ := by
  intro H locs ls hW hS hL
  exact lv_iload C.1.1 C.1.2.1 hdg (lq_get hL hl) (k H locs ls hW hS hL)
theorem wq_aload_n (C : lq_C g p s m args c cc nL Ts A) {j : Fin 4} {x : Addr} (hl : lv[(j : Nat)]? = some (some (.ref x))) (hdg : decode cc pc = .ok (.aload_n j, 1)) (k : wq g p l e R s m args below meth c cells slots Q A nL (pc + 1) lv (.ref x :: st) σ) : wq g p l e R s m args below meth c cells slots Q A nL pc lv (st) σ := by
  intro H locs ls hW hS hL
  exact lv_aload_n C.1.1 C.1.2.1 hdg rfl (lq_get hL hl) (k H locs ls hW hS hL)
theorem wq_aload (C : lq_C g p s m args c cc nL Ts A) {j : Nat} {x : Addr} (hl : lv[j]? = some (some (.ref x))) (hdg : decode cc pc = .ok (.aload j, 2)) (k : wq g p l e R s m args below meth c cells slots Q A nL (pc + 2) lv (.ref x :: st) σ) : wq g p l e R s m args below meth c cells slots Q A nL pc lv (st) σ := by
  intro H locs ls hW hS hL
  exact lv_aload C.1.1 C.1.2.1 hdg (lq_get hL hl) (k H locs ls hW hS hL)
theorem wq_lload_n (C : lq_C g p s m args c cc nL Ts A) {j : Fin 4} {x : Int64} (hl : lv[(j : Nat)]? = some (some (.long x))) (hdg : decode cc pc = .ok (.lload_n j, 1)) (k : wq g p l e R s m args below meth c cells slots Q A nL (pc + 1) lv (.long x :: st) σ) : wq g p l e R s m args below meth c cells slots Q A nL pc lv (st) σ := by
  intro H locs ls hW hS hL
  exact lv_lload_n C.1.1 C.1.2.1 hdg rfl (lq_get hL hl) (k H locs ls hW hS hL)
theorem wq_lload (C : lq_C g p s m args c cc nL Ts A) {j : Nat} {x : Int64} (hl : lv[j]? = some (some (.long x))) (hdg : decode cc pc = .ok (.lload j, 2)) (k : wq g p l e R s m args below meth c cells slots Q A nL (pc + 2) lv (.long x :: st) σ) : wq g p l e R s m args below meth c cells slots Q A nL pc lv (st) σ := by
  intro H locs ls hW hS hL
  exact lv_lload C.1.1 C.1.2.1 hdg (lq_get hL hl) (k H locs ls hW hS hL)
theorem wq_istore_n (C : lq_C g p s m args c cc nL Ts A) {j : Fin 4} {x : Int32} (hn : (j : Nat) < nL) (hi : (j : Nat) < lv.length) (hok : lq_ok lv (j : Nat) = true) (hdg : decode cc pc = .ok (.istore_n j, 1)) (k : wq g p l e R s m args below meth c cells slots Q A nL (pc + 1) (lv.set (j : Nat) (some (.int x))) (st) σ) : wq g p l e R s m args below meth c cells slots Q A nL pc lv (.int x :: st) σ := by
  intro H locs ls hW hS hL
  exact lv_istore_n C.1.1 C.1.2.1 hdg rfl hL hn rfl (fun ls2 h2 => k H locs ls2 hW hS (lq_set hi hok h2))
theorem wq_istore (C : lq_C g p s m args c cc nL Ts A) {j : Nat} {x : Int32} (hn : j < nL) (hi : j < lv.length) (hok : lq_ok lv j = true) (hdg : decode cc pc = .ok (.istore j, 2)) (k : wq g p l e R s m args below meth c cells slots Q A nL (pc + 2) (lv.set j (some (.int x))) (st) σ) : wq g p l e R s m args below meth c cells slots Q A nL pc lv (.int x :: st) σ := by
  intro H locs ls hW hS hL
  exact lv_istore C.1.1 C.1.2.1 hdg hL hn rfl (fun ls2 h2 => k H locs ls2 hW hS (lq_set hi hok h2))
theorem wq_astore_n (C : lq_C g p s m args c cc nL Ts A) {j : Fin 4} {x : Addr} (hn : (j : Nat) < nL) (hi : (j : Nat) < lv.length) (hok : lq_ok lv (j : Nat) = true) (hdg : decode cc pc = .ok (.astore_n j, 1)) (k : wq g p l e R s m args below meth c cells slots Q A nL (pc + 1) (lv.set (j : Nat) (some (.ref x))) (st) σ) : wq g p l e R s m args below meth c cells slots Q A nL pc lv (.ref x :: st) σ := by
  intro H locs ls hW hS hL
  exact lv_astore_n C.1.1 C.1.2.1 hdg rfl hL hn rfl (fun ls2 h2 => k H locs ls2 hW hS (lq_set hi hok h2))
theorem wq_astore (C : lq_C g p s m args c cc nL Ts A) {j : Nat} {x : Addr} (hn : j < nL) (hi : j < lv.length) (hok : lq_ok lv j = true) (hdg : decode cc pc = .ok (.astore j, 2)) (k : wq g p l e R s m args below meth c cells slots Q A nL (pc + 2) (lv.set j (some (.ref x))) (st) σ) : wq g p l e R s m args below meth c cells slots Q A nL pc lv (.ref x :: st) σ := by
  intro H locs ls hW hS hL
  exact lv_astore C.1.1 C.1.2.1 hdg hL hn rfl (fun ls2 h2 => k H locs ls2 hW hS (lq_set hi hok h2))
theorem wq_lstore_n (C : lq_C g p s m args c cc nL Ts A) {j : Fin 4} {x : Int64} (hn : (j : Nat) + 1 < nL) (hi : (j : Nat) < lv.length) (hok : lq_ok lv (j : Nat) = true) (hdg : decode cc pc = .ok (.lstore_n j, 1)) (k : wq g p l e R s m args below meth c cells slots Q A nL (pc + 1) ((lv.set (j : Nat) (some (.long x))).set ((j : Nat) + 1) none) (st) σ) : wq g p l e R s m args below meth c cells slots Q A nL pc lv (.long x :: st) σ := by
  intro H locs ls hW hS hL
  exact lv_lstore_n C.1.1 C.1.2.1 hdg rfl hL hn rfl (fun ls2 h2 => k H locs ls2 hW hS (lq_set2 hi hok h2))
theorem wq_lstore (C : lq_C g p s m args c cc nL Ts A) {j : Nat} {x : Int64} (hn : j + 1 < nL) (hi : j < lv.length) (hok : lq_ok lv j = true) (hdg : decode cc pc = .ok (.lstore j, 2)) (k : wq g p l e R s m args below meth c cells slots Q A nL (pc + 2) ((lv.set j (some (.long x))).set (j + 1) none) (st) σ) : wq g p l e R s m args below meth c cells slots Q A nL pc lv (.long x :: st) σ := by
  intro H locs ls hW hS hL
  exact lv_lstore C.1.1 C.1.2.1 hdg hL hn rfl (fun ls2 h2 => k H locs ls2 hW hS (lq_set2 hi hok h2))
theorem wq_iinc (C : lq_C g p s m args c cc nL Ts A) {j : Nat} {n x : Int} (hl : lv[j]? = some (some (qi x))) (hn : j < nL) (hok : lq_ok lv j = true) (hdg : decode cc pc = .ok (.iinc j n, 3)) (k : wq g p l e R s m args below meth c cells slots Q A nL (pc + 3) (lv.set j (some (qi (x + n)))) st σ) : wq g p l e R s m args below meth c cells slots Q A nL pc lv st σ := by
  intro H locs ls hW hS hL
  have hm := (lq_mem lv 0 j (qi x)).mpr ⟨Nat.zero_le _, hl⟩
  obtain ⟨q, hq⟩ := List.getElem?_of_mem hm
  have hi : j < lv.length := (List.getElem?_eq_some_iff.mp hl).1
  exact lv_iinc (v := Int32.ofInt (x + n)) C.1.1 C.1.2.1 hdg hL hq (by rw [Int32.ofInt_add]) hn rfl (fun ls2 h2 => k H locs ls2 hW hS (lq_set (v := qi (x + n)) hi hok h2))
theorem wq_iadd (C : lq_C g p s m args c cc nL Ts A) {x y : Int}  (hdg : decode cc pc = .ok (.iadd, 1)) (k : wq g p l e R s m args below meth c cells slots Q A nL (pc + 1) lv (qi (x + y) :: st) σ) : wq g p l e R s m args below meth c cells slots Q A nL pc lv (qi y :: qi x :: st) σ := by
  intro H locs ls hW hS hL
  refine lv_iadd C.1.1 C.1.2.1 hdg ?_
  rw [← Int32.ofInt_add]
  exact k H locs ls hW hS hL
theorem wq_isub (C : lq_C g p s m args c cc nL Ts A) {x y : Int}  (hdg : decode cc pc = .ok (.isub, 1)) (k : wq g p l e R s m args below meth c cells slots Q A nL (pc + 1) lv (qi (x - y) :: st) σ) : wq g p l e R s m args below meth c cells slots Q A nL pc lv (qi y :: qi x :: st) σ := by
  intro H locs ls hW hS hL
  refine lv_isub C.1.1 C.1.2.1 hdg ?_
  rw [← Int32.ofInt_sub]
  exact k H locs ls hW hS hL
theorem wq_imul (C : lq_C g p s m args c cc nL Ts A) {x y : Int}  (hdg : decode cc pc = .ok (.imul, 1)) (k : wq g p l e R s m args below meth c cells slots Q A nL (pc + 1) lv (qi (x * y) :: st) σ) : wq g p l e R s m args below meth c cells slots Q A nL pc lv (qi y :: qi x :: st) σ := by
  intro H locs ls hW hS hL
  refine lv_imul C.1.1 C.1.2.1 hdg ?_
  rw [← Int32.ofInt_mul]
  exact k H locs ls hW hS hL
theorem wq_idiv (C : lq_C g p s m args c cc nL Ts A) {x y : Int} (hx : 0 ≤ x ∧ x < 2147483648) (hy : 0 < y ∧ y < 2147483648) (hdg : decode cc pc = .ok (.idiv, 1)) (k : wq g p l e R s m args below meth c cells slots Q A nL (pc + 1) lv (qi (x / y) :: st) σ) : wq g p l e R s m args below meth c cells slots Q A nL pc lv (qi y :: qi x :: st) σ := by
  intro H locs ls hW hS hL
  refine lv_idiv C.1.1 C.1.2.1 hdg (am_ne0 hy.1 hy.2) ?_
  rw [am_div hx.1 hx.2 hy.1 hy.2]
  exact k H locs ls hW hS hL
theorem wq_irem (C : lq_C g p s m args c cc nL Ts A) {x y : Int} (hx : 0 ≤ x ∧ x < 2147483648) (hy : 0 < y ∧ y < 2147483648) (hdg : decode cc pc = .ok (.irem, 1)) (k : wq g p l e R s m args below meth c cells slots Q A nL (pc + 1) lv (qi (x % y) :: st) σ) : wq g p l e R s m args below meth c cells slots Q A nL pc lv (qi y :: qi x :: st) σ := by
  intro H locs ls hW hS hL
  refine lv_irem C.1.1 C.1.2.1 hdg (am_ne0 hy.1 hy.2) ?_
  rw [am_rem hx.1 hx.2 hy.1 hy.2]
  exact k H locs ls hW hS hL
theorem wq_iand (C : lq_C g p s m args c cc nL Ts A) {x y : Int} (z : Int) (hz : Int32.ofInt x &&& Int32.ofInt y = Int32.ofInt z) (hdg : decode cc pc = .ok (.iand, 1)) (k : wq g p l e R s m args below meth c cells slots Q A nL (pc + 1) lv (qi z :: st) σ) : wq g p l e R s m args below meth c cells slots Q A nL pc lv (qi y :: qi x :: st) σ := by
  intro H locs ls hW hS hL
  refine lv_iand C.1.1 C.1.2.1 hdg ?_
  rw [hz]
  exact k H locs ls hW hS hL
theorem wq_ior (C : lq_C g p s m args c cc nL Ts A) {x y : Int} (z : Int) (hz : Int32.ofInt x ||| Int32.ofInt y = Int32.ofInt z) (hdg : decode cc pc = .ok (.ior, 1)) (k : wq g p l e R s m args below meth c cells slots Q A nL (pc + 1) lv (qi z :: st) σ) : wq g p l e R s m args below meth c cells slots Q A nL pc lv (qi y :: qi x :: st) σ := by
  intro H locs ls hW hS hL
  refine lv_ior C.1.1 C.1.2.1 hdg ?_
  rw [hz]
  exact k H locs ls hW hS hL
theorem wq_ixor (C : lq_C g p s m args c cc nL Ts A) {x y : Int} (z : Int) (hz : Int32.ofInt x ^^^ Int32.ofInt y = Int32.ofInt z) (hdg : decode cc pc = .ok (.ixor, 1)) (k : wq g p l e R s m args below meth c cells slots Q A nL (pc + 1) lv (qi z :: st) σ) : wq g p l e R s m args below meth c cells slots Q A nL pc lv (qi y :: qi x :: st) σ := by
  intro H locs ls hW hS hL
  refine lv_ixor C.1.1 C.1.2.1 hdg ?_
  rw [hz]
  exact k H locs ls hW hS hL
theorem wq_ishl (C : lq_C g p s m args c cc nL Ts A) {x y : Int} (z : Int) (hz : Int32.ofInt x <<< (Int32.ofInt y &&& 31) = Int32.ofInt z) (hdg : decode cc pc = .ok (.ishl, 1)) (k : wq g p l e R s m args below meth c cells slots Q A nL (pc + 1) lv (qi z :: st) σ) : wq g p l e R s m args below meth c cells slots Q A nL pc lv (qi y :: qi x :: st) σ := by
  intro H locs ls hW hS hL
  refine lv_ishl C.1.1 C.1.2.1 hdg ?_
  rw [hz]
  exact k H locs ls hW hS hL
theorem wq_ishr (C : lq_C g p s m args c cc nL Ts A) {x y : Int} (z : Int) (hz : Int32.ofInt x >>> (Int32.ofInt y &&& 31) = Int32.ofInt z) (hdg : decode cc pc = .ok (.ishr, 1)) (k : wq g p l e R s m args below meth c cells slots Q A nL (pc + 1) lv (qi z :: st) σ) : wq g p l e R s m args below meth c cells slots Q A nL pc lv (qi y :: qi x :: st) σ := by
  intro H locs ls hW hS hL
  refine lv_ishr C.1.1 C.1.2.1 hdg ?_
  rw [hz]
  exact k H locs ls hW hS hL
theorem wq_i2l (C : lq_C g p s m args c cc nL Ts A) {x : Int}  (hdg : decode cc pc = .ok (.i2l, 1)) (k : wq g p l e R s m args below meth c cells slots Q A nL (pc + 1) lv (.long (i64 x) :: st) σ) : wq g p l e R s m args below meth c cells slots Q A nL pc lv (qi x :: st) σ := by
  intro H locs ls hW hS hL
  exact lv_i2l C.1.1 C.1.2.1 hdg rfl (k H locs ls hW hS hL)
theorem wq_ladd (C : lq_C g p s m args c cc nL Ts A) {x y : Int64}  (hdg : decode cc pc = .ok (.ladd, 1)) (k : wq g p l e R s m args below meth c cells slots Q A nL (pc + 1) lv (.long (x + y) :: st) σ) : wq g p l e R s m args below meth c cells slots Q A nL pc lv (.long y :: .long x :: st) σ := by
  intro H locs ls hW hS hL
  exact lv_ladd C.1.1 C.1.2.1 hdg (k H locs ls hW hS hL)
theorem wq_lmul (C : lq_C g p s m args c cc nL Ts A) {x y : Int64}  (hdg : decode cc pc = .ok (.lmul, 1)) (k : wq g p l e R s m args below meth c cells slots Q A nL (pc + 1) lv (.long (x * y) :: st) σ) : wq g p l e R s m args below meth c cells slots Q A nL pc lv (.long y :: .long x :: st) σ := by
  intro H locs ls hW hS hL
  exact lv_lmul C.1.1 C.1.2.1 hdg (k H locs ls hW hS hL)
theorem wq_lcmpE (C : lq_C g p s m args c cc nL Ts A) {x : Int64}  (hdg : decode cc pc = .ok (.lcmp, 1)) (k : wq g p l e R s m args below meth c cells slots Q A nL (pc + 1) lv (qi 0 :: st) σ) : wq g p l e R s m args below meth c cells slots Q A nL pc lv (.long x :: .long x :: st) σ := by
  intro H locs ls hW hS hL
  refine W.lcmp C.1.1 C.1.2.1 hdg ?_
  have e : lg_cmp x x = Int32.ofInt 0 := by simp [lg_cmp]
  rw [e]
  exact k H locs ls hW hS hL
theorem wq_ldc2 (C : lq_C g p s m args c cc nL Ts A) {index : Nat} {v : Int64} (hconst : Cond.constantLong RL index v ∈ Ts) (hdg : decode cc pc = .ok (.ldc2_w index, 3)) (k : wq g p l e R s m args below meth c cells slots Q A nL (pc + 3) lv (.long v :: st) σ) : wq g p l e R s m args below meth c cells slots Q A nL pc lv (st) σ := by
  intro H locs ls hW hS hL
  exact lv_ldc2 C.1.1 C.1.2.1 C.1.2.2.2.1 (C.1.2.2.2.2 _ hconst) hdg (k H locs ls hW hS hL)
theorem wq_ldc (C : lq_C g p s m args c cc nL Ts A) {index : Nat} {n : Int} {v : Int32} (hv : v = Int32.ofInt n) (hconst : Cond.constant RL index v ∈ Ts) (hdg : decode cc pc = .ok (.ldc index, 2)) (k : wq g p l e R s m args below meth c cells slots Q A nL (pc + 2) lv (qi n :: st) σ) : wq g p l e R s m args below meth c cells slots Q A nL pc lv (st) σ := by
  intro H locs ls hW hS hL
  subst hv
  exact lv_ldc C.1.1 C.1.2.1 C.1.2.2.2.1 (C.1.2.2.2.2 _ hconst) hdg (k H locs ls hW hS hL)
theorem wq_goto (C : lq_C g p s m args c cc nL Ts A) {off : Int} (tgt : Nat) (ht : (pc : Int) + off = (tgt : Int)) (hdg : decode cc pc = .ok (.goto off, 3)) (k : wq g p l e R s m args below meth c cells slots Q A nL tgt lv st σ) : wq g p l e R s m args below meth c cells slots Q A nL pc lv st σ := by
  intro H locs ls hW hS hL
  exact lv_goto C.1.1 C.1.2.1 hdg ht (k H locs ls hW hS hL)
theorem wq_icmp_eq (C : lq_C g p s m args c cc nL Ts A) {x y : Int} {off : Int} (tgt : Nat) (hx : -2147483648 ≤ x ∧ x < 2147483648) (hy : -2147483648 ≤ y ∧ y < 2147483648) (ht : (pc : Int) + off = (tgt : Int)) (hdg : decode cc pc = .ok (.if_icmp .eq off, 3)) (k1 : x = y → wq g p l e R s m args below meth c cells slots Q A nL tgt lv st σ) (k2 : ¬ x = y → wq g p l e R s m args below meth c cells slots Q A nL (pc + 3) lv st σ) : wq g p l e R s m args below meth c cells slots Q A nL pc lv (qi y :: qi x :: st) σ := by
  intro H locs ls hW hS hL
  refine lv_icmp_eq C.1.1 C.1.2.1 hdg ht (fun h => ?_) (fun h => ?_)
  · exact k1 (by simp only [am_eq hx hy, am_lt hx hy, am_le hx hy, am_lt hy hx, am_le hy hx] at h; omega) H locs ls hW hS hL
  · exact k2 (by simp only [am_eq hx hy, am_lt hx hy, am_le hx hy, am_lt hy hx, am_le hy hx] at h; omega) H locs ls hW hS hL
theorem wq_if_eq (C : lq_C g p s m args c cc nL Ts A) {x : Int} {off : Int} (tgt : Nat) (hx : -2147483648 ≤ x ∧ x < 2147483648) (ht : (pc : Int) + off = (tgt : Int)) (hdg : decode cc pc = .ok (.ifCond .eq off, 3)) (k1 : x = 0 → wq g p l e R s m args below meth c cells slots Q A nL tgt lv st σ) (k2 : ¬ x = 0 → wq g p l e R s m args below meth c cells slots Q A nL (pc + 3) lv st σ) : wq g p l e R s m args below meth c cells slots Q A nL pc lv (qi x :: st) σ := by
  intro H locs ls hW hS hL
  refine lv_if_eq C.1.1 C.1.2.1 hdg ht (fun h => ?_) (fun h => ?_)
  · exact k1 (by rw [am_0] at h; simp only [am_eq hx ⟨(by omega : (-2147483648:Int) ≤ 0), (by omega : (0:Int) < 2147483648)⟩, am_lt hx ⟨(by omega : (-2147483648:Int) ≤ 0), (by omega : (0:Int) < 2147483648)⟩, am_le hx ⟨(by omega : (-2147483648:Int) ≤ 0), (by omega : (0:Int) < 2147483648)⟩, am_lt ⟨(by omega : (-2147483648:Int) ≤ 0), (by omega : (0:Int) < 2147483648)⟩ hx, am_le ⟨(by omega : (-2147483648:Int) ≤ 0), (by omega : (0:Int) < 2147483648)⟩ hx] at h; omega) H locs ls hW hS hL
  · exact k2 (by rw [am_0] at h; simp only [am_eq hx ⟨(by omega : (-2147483648:Int) ≤ 0), (by omega : (0:Int) < 2147483648)⟩, am_lt hx ⟨(by omega : (-2147483648:Int) ≤ 0), (by omega : (0:Int) < 2147483648)⟩, am_le hx ⟨(by omega : (-2147483648:Int) ≤ 0), (by omega : (0:Int) < 2147483648)⟩, am_lt ⟨(by omega : (-2147483648:Int) ≤ 0), (by omega : (0:Int) < 2147483648)⟩ hx, am_le ⟨(by omega : (-2147483648:Int) ≤ 0), (by omega : (0:Int) < 2147483648)⟩ hx] at h; omega) H locs ls hW hS hL
theorem wq_icmp_ne (C : lq_C g p s m args c cc nL Ts A) {x y : Int} {off : Int} (tgt : Nat) (hx : -2147483648 ≤ x ∧ x < 2147483648) (hy : -2147483648 ≤ y ∧ y < 2147483648) (ht : (pc : Int) + off = (tgt : Int)) (hdg : decode cc pc = .ok (.if_icmp .ne off, 3)) (k1 : ¬ x = y → wq g p l e R s m args below meth c cells slots Q A nL tgt lv st σ) (k2 : x = y → wq g p l e R s m args below meth c cells slots Q A nL (pc + 3) lv st σ) : wq g p l e R s m args below meth c cells slots Q A nL pc lv (qi y :: qi x :: st) σ := by
  intro H locs ls hW hS hL
  refine lv_icmp_ne C.1.1 C.1.2.1 hdg ht (fun h => ?_) (fun h => ?_)
  · exact k1 (by simp only [am_eq hx hy, am_lt hx hy, am_le hx hy, am_lt hy hx, am_le hy hx] at h; omega) H locs ls hW hS hL
  · exact k2 (by simp only [am_eq hx hy, am_lt hx hy, am_le hx hy, am_lt hy hx, am_le hy hx] at h; omega) H locs ls hW hS hL
theorem wq_if_ne (C : lq_C g p s m args c cc nL Ts A) {x : Int} {off : Int} (tgt : Nat) (hx : -2147483648 ≤ x ∧ x < 2147483648) (ht : (pc : Int) + off = (tgt : Int)) (hdg : decode cc pc = .ok (.ifCond .ne off, 3)) (k1 : ¬ x = 0 → wq g p l e R s m args below meth c cells slots Q A nL tgt lv st σ) (k2 : x = 0 → wq g p l e R s m args below meth c cells slots Q A nL (pc + 3) lv st σ) : wq g p l e R s m args below meth c cells slots Q A nL pc lv (qi x :: st) σ := by
  intro H locs ls hW hS hL
  refine lv_if_ne C.1.1 C.1.2.1 hdg ht (fun h => ?_) (fun h => ?_)
  · exact k1 (by rw [am_0] at h; simp only [am_eq hx ⟨(by omega : (-2147483648:Int) ≤ 0), (by omega : (0:Int) < 2147483648)⟩, am_lt hx ⟨(by omega : (-2147483648:Int) ≤ 0), (by omega : (0:Int) < 2147483648)⟩, am_le hx ⟨(by omega : (-2147483648:Int) ≤ 0), (by omega : (0:Int) < 2147483648)⟩, am_lt ⟨(by omega : (-2147483648:Int) ≤ 0), (by omega : (0:Int) < 2147483648)⟩ hx, am_le ⟨(by omega : (-2147483648:Int) ≤ 0), (by omega : (0:Int) < 2147483648)⟩ hx] at h; omega) H locs ls hW hS hL
  · exact k2 (by rw [am_0] at h; simp only [am_eq hx ⟨(by omega : (-2147483648:Int) ≤ 0), (by omega : (0:Int) < 2147483648)⟩, am_lt hx ⟨(by omega : (-2147483648:Int) ≤ 0), (by omega : (0:Int) < 2147483648)⟩, am_le hx ⟨(by omega : (-2147483648:Int) ≤ 0), (by omega : (0:Int) < 2147483648)⟩, am_lt ⟨(by omega : (-2147483648:Int) ≤ 0), (by omega : (0:Int) < 2147483648)⟩ hx, am_le ⟨(by omega : (-2147483648:Int) ≤ 0), (by omega : (0:Int) < 2147483648)⟩ hx] at h; omega) H locs ls hW hS hL
theorem wq_icmp_lt (C : lq_C g p s m args c cc nL Ts A) {x y : Int} {off : Int} (tgt : Nat) (hx : -2147483648 ≤ x ∧ x < 2147483648) (hy : -2147483648 ≤ y ∧ y < 2147483648) (ht : (pc : Int) + off = (tgt : Int)) (hdg : decode cc pc = .ok (.if_icmp .lt off, 3)) (k1 : x < y → wq g p l e R s m args below meth c cells slots Q A nL tgt lv st σ) (k2 : y ≤ x → wq g p l e R s m args below meth c cells slots Q A nL (pc + 3) lv st σ) : wq g p l e R s m args below meth c cells slots Q A nL pc lv (qi y :: qi x :: st) σ := by
  intro H locs ls hW hS hL
  refine lv_icmp_lt C.1.1 C.1.2.1 hdg ht (fun h => ?_) (fun h => ?_)
  · exact k1 (by simp only [am_eq hx hy, am_lt hx hy, am_le hx hy, am_lt hy hx, am_le hy hx] at h; omega) H locs ls hW hS hL
  · exact k2 (by simp only [am_eq hx hy, am_lt hx hy, am_le hx hy, am_lt hy hx, am_le hy hx] at h; omega) H locs ls hW hS hL
theorem wq_if_lt (C : lq_C g p s m args c cc nL Ts A) {x : Int} {off : Int} (tgt : Nat) (hx : -2147483648 ≤ x ∧ x < 2147483648) (ht : (pc : Int) + off = (tgt : Int)) (hdg : decode cc pc = .ok (.ifCond .lt off, 3)) (k1 : x < 0 → wq g p l e R s m args below meth c cells slots Q A nL tgt lv st σ) (k2 : 0 ≤ x → wq g p l e R s m args below meth c cells slots Q A nL (pc + 3) lv st σ) : wq g p l e R s m args below meth c cells slots Q A nL pc lv (qi x :: st) σ := by
  intro H locs ls hW hS hL
  refine lv_if_lt C.1.1 C.1.2.1 hdg ht (fun h => ?_) (fun h => ?_)
  · exact k1 (by rw [am_0] at h; simp only [am_eq hx ⟨(by omega : (-2147483648:Int) ≤ 0), (by omega : (0:Int) < 2147483648)⟩, am_lt hx ⟨(by omega : (-2147483648:Int) ≤ 0), (by omega : (0:Int) < 2147483648)⟩, am_le hx ⟨(by omega : (-2147483648:Int) ≤ 0), (by omega : (0:Int) < 2147483648)⟩, am_lt ⟨(by omega : (-2147483648:Int) ≤ 0), (by omega : (0:Int) < 2147483648)⟩ hx, am_le ⟨(by omega : (-2147483648:Int) ≤ 0), (by omega : (0:Int) < 2147483648)⟩ hx] at h; omega) H locs ls hW hS hL
  · exact k2 (by rw [am_0] at h; simp only [am_eq hx ⟨(by omega : (-2147483648:Int) ≤ 0), (by omega : (0:Int) < 2147483648)⟩, am_lt hx ⟨(by omega : (-2147483648:Int) ≤ 0), (by omega : (0:Int) < 2147483648)⟩, am_le hx ⟨(by omega : (-2147483648:Int) ≤ 0), (by omega : (0:Int) < 2147483648)⟩, am_lt ⟨(by omega : (-2147483648:Int) ≤ 0), (by omega : (0:Int) < 2147483648)⟩ hx, am_le ⟨(by omega : (-2147483648:Int) ≤ 0), (by omega : (0:Int) < 2147483648)⟩ hx] at h; omega) H locs ls hW hS hL
theorem wq_icmp_ge (C : lq_C g p s m args c cc nL Ts A) {x y : Int} {off : Int} (tgt : Nat) (hx : -2147483648 ≤ x ∧ x < 2147483648) (hy : -2147483648 ≤ y ∧ y < 2147483648) (ht : (pc : Int) + off = (tgt : Int)) (hdg : decode cc pc = .ok (.if_icmp .ge off, 3)) (k1 : y ≤ x → wq g p l e R s m args below meth c cells slots Q A nL tgt lv st σ) (k2 : x < y → wq g p l e R s m args below meth c cells slots Q A nL (pc + 3) lv st σ) : wq g p l e R s m args below meth c cells slots Q A nL pc lv (qi y :: qi x :: st) σ := by
  intro H locs ls hW hS hL
  refine lv_icmp_ge C.1.1 C.1.2.1 hdg ht (fun h => ?_) (fun h => ?_)
  · exact k1 (by simp only [am_eq hx hy, am_lt hx hy, am_le hx hy, am_lt hy hx, am_le hy hx] at h; omega) H locs ls hW hS hL
  · exact k2 (by simp only [am_eq hx hy, am_lt hx hy, am_le hx hy, am_lt hy hx, am_le hy hx] at h; omega) H locs ls hW hS hL
theorem wq_if_ge (C : lq_C g p s m args c cc nL Ts A) {x : Int} {off : Int} (tgt : Nat) (hx : -2147483648 ≤ x ∧ x < 2147483648) (ht : (pc : Int) + off = (tgt : Int)) (hdg : decode cc pc = .ok (.ifCond .ge off, 3)) (k1 : 0 ≤ x → wq g p l e R s m args below meth c cells slots Q A nL tgt lv st σ) (k2 : x < 0 → wq g p l e R s m args below meth c cells slots Q A nL (pc + 3) lv st σ) : wq g p l e R s m args below meth c cells slots Q A nL pc lv (qi x :: st) σ := by
  intro H locs ls hW hS hL
  refine lv_if_ge C.1.1 C.1.2.1 hdg ht (fun h => ?_) (fun h => ?_)
  · exact k1 (by rw [am_0] at h; simp only [am_eq hx ⟨(by omega : (-2147483648:Int) ≤ 0), (by omega : (0:Int) < 2147483648)⟩, am_lt hx ⟨(by omega : (-2147483648:Int) ≤ 0), (by omega : (0:Int) < 2147483648)⟩, am_le hx ⟨(by omega : (-2147483648:Int) ≤ 0), (by omega : (0:Int) < 2147483648)⟩, am_lt ⟨(by omega : (-2147483648:Int) ≤ 0), (by omega : (0:Int) < 2147483648)⟩ hx, am_le ⟨(by omega : (-2147483648:Int) ≤ 0), (by omega : (0:Int) < 2147483648)⟩ hx] at h; omega) H locs ls hW hS hL
  · exact k2 (by rw [am_0] at h; simp only [am_eq hx ⟨(by omega : (-2147483648:Int) ≤ 0), (by omega : (0:Int) < 2147483648)⟩, am_lt hx ⟨(by omega : (-2147483648:Int) ≤ 0), (by omega : (0:Int) < 2147483648)⟩, am_le hx ⟨(by omega : (-2147483648:Int) ≤ 0), (by omega : (0:Int) < 2147483648)⟩, am_lt ⟨(by omega : (-2147483648:Int) ≤ 0), (by omega : (0:Int) < 2147483648)⟩ hx, am_le ⟨(by omega : (-2147483648:Int) ≤ 0), (by omega : (0:Int) < 2147483648)⟩ hx] at h; omega) H locs ls hW hS hL
theorem wq_icmp_gt (C : lq_C g p s m args c cc nL Ts A) {x y : Int} {off : Int} (tgt : Nat) (hx : -2147483648 ≤ x ∧ x < 2147483648) (hy : -2147483648 ≤ y ∧ y < 2147483648) (ht : (pc : Int) + off = (tgt : Int)) (hdg : decode cc pc = .ok (.if_icmp .gt off, 3)) (k1 : y < x → wq g p l e R s m args below meth c cells slots Q A nL tgt lv st σ) (k2 : x ≤ y → wq g p l e R s m args below meth c cells slots Q A nL (pc + 3) lv st σ) : wq g p l e R s m args below meth c cells slots Q A nL pc lv (qi y :: qi x :: st) σ := by
  intro H locs ls hW hS hL
  refine lv_icmp_gt C.1.1 C.1.2.1 hdg ht (fun h => ?_) (fun h => ?_)
  · exact k1 (by simp only [am_eq hx hy, am_lt hx hy, am_le hx hy, am_lt hy hx, am_le hy hx] at h; omega) H locs ls hW hS hL
  · exact k2 (by simp only [am_eq hx hy, am_lt hx hy, am_le hx hy, am_lt hy hx, am_le hy hx] at h; omega) H locs ls hW hS hL
theorem wq_if_gt (C : lq_C g p s m args c cc nL Ts A) {x : Int} {off : Int} (tgt : Nat) (hx : -2147483648 ≤ x ∧ x < 2147483648) (ht : (pc : Int) + off = (tgt : Int)) (hdg : decode cc pc = .ok (.ifCond .gt off, 3)) (k1 : 0 < x → wq g p l e R s m args below meth c cells slots Q A nL tgt lv st σ) (k2 : x ≤ 0 → wq g p l e R s m args below meth c cells slots Q A nL (pc + 3) lv st σ) : wq g p l e R s m args below meth c cells slots Q A nL pc lv (qi x :: st) σ := by
  intro H locs ls hW hS hL
  refine lv_if_gt C.1.1 C.1.2.1 hdg ht (fun h => ?_) (fun h => ?_)
  · exact k1 (by rw [am_0] at h; simp only [am_eq hx ⟨(by omega : (-2147483648:Int) ≤ 0), (by omega : (0:Int) < 2147483648)⟩, am_lt hx ⟨(by omega : (-2147483648:Int) ≤ 0), (by omega : (0:Int) < 2147483648)⟩, am_le hx ⟨(by omega : (-2147483648:Int) ≤ 0), (by omega : (0:Int) < 2147483648)⟩, am_lt ⟨(by omega : (-2147483648:Int) ≤ 0), (by omega : (0:Int) < 2147483648)⟩ hx, am_le ⟨(by omega : (-2147483648:Int) ≤ 0), (by omega : (0:Int) < 2147483648)⟩ hx] at h; omega) H locs ls hW hS hL
  · exact k2 (by rw [am_0] at h; simp only [am_eq hx ⟨(by omega : (-2147483648:Int) ≤ 0), (by omega : (0:Int) < 2147483648)⟩, am_lt hx ⟨(by omega : (-2147483648:Int) ≤ 0), (by omega : (0:Int) < 2147483648)⟩, am_le hx ⟨(by omega : (-2147483648:Int) ≤ 0), (by omega : (0:Int) < 2147483648)⟩, am_lt ⟨(by omega : (-2147483648:Int) ≤ 0), (by omega : (0:Int) < 2147483648)⟩ hx, am_le ⟨(by omega : (-2147483648:Int) ≤ 0), (by omega : (0:Int) < 2147483648)⟩ hx] at h; omega) H locs ls hW hS hL
theorem wq_icmp_le (C : lq_C g p s m args c cc nL Ts A) {x y : Int} {off : Int} (tgt : Nat) (hx : -2147483648 ≤ x ∧ x < 2147483648) (hy : -2147483648 ≤ y ∧ y < 2147483648) (ht : (pc : Int) + off = (tgt : Int)) (hdg : decode cc pc = .ok (.if_icmp .le off, 3)) (k1 : x ≤ y → wq g p l e R s m args below meth c cells slots Q A nL tgt lv st σ) (k2 : y < x → wq g p l e R s m args below meth c cells slots Q A nL (pc + 3) lv st σ) : wq g p l e R s m args below meth c cells slots Q A nL pc lv (qi y :: qi x :: st) σ := by
  intro H locs ls hW hS hL
  refine lv_icmp_le C.1.1 C.1.2.1 hdg ht (fun h => ?_) (fun h => ?_)
  · exact k1 (by simp only [am_eq hx hy, am_lt hx hy, am_le hx hy, am_lt hy hx, am_le hy hx] at h; omega) H locs ls hW hS hL
  · exact k2 (by simp only [am_eq hx hy, am_lt hx hy, am_le hx hy, am_lt hy hx, am_le hy hx] at h; omega) H locs ls hW hS hL
theorem wq_if_le (C : lq_C g p s m args c cc nL Ts A) {x : Int} {off : Int} (tgt : Nat) (hx : -2147483648 ≤ x ∧ x < 2147483648) (ht : (pc : Int) + off = (tgt : Int)) (hdg : decode cc pc = .ok (.ifCond .le off, 3)) (k1 : x ≤ 0 → wq g p l e R s m args below meth c cells slots Q A nL tgt lv st σ) (k2 : 0 < x → wq g p l e R s m args below meth c cells slots Q A nL (pc + 3) lv st σ) : wq g p l e R s m args below meth c cells slots Q A nL pc lv (qi x :: st) σ := by
  intro H locs ls hW hS hL
  refine lv_if_le C.1.1 C.1.2.1 hdg ht (fun h => ?_) (fun h => ?_)
  · exact k1 (by rw [am_0] at h; simp only [am_eq hx ⟨(by omega : (-2147483648:Int) ≤ 0), (by omega : (0:Int) < 2147483648)⟩, am_lt hx ⟨(by omega : (-2147483648:Int) ≤ 0), (by omega : (0:Int) < 2147483648)⟩, am_le hx ⟨(by omega : (-2147483648:Int) ≤ 0), (by omega : (0:Int) < 2147483648)⟩, am_lt ⟨(by omega : (-2147483648:Int) ≤ 0), (by omega : (0:Int) < 2147483648)⟩ hx, am_le ⟨(by omega : (-2147483648:Int) ≤ 0), (by omega : (0:Int) < 2147483648)⟩ hx] at h; omega) H locs ls hW hS hL
  · exact k2 (by rw [am_0] at h; simp only [am_eq hx ⟨(by omega : (-2147483648:Int) ≤ 0), (by omega : (0:Int) < 2147483648)⟩, am_lt hx ⟨(by omega : (-2147483648:Int) ≤ 0), (by omega : (0:Int) < 2147483648)⟩, am_le hx ⟨(by omega : (-2147483648:Int) ≤ 0), (by omega : (0:Int) < 2147483648)⟩, am_lt ⟨(by omega : (-2147483648:Int) ≤ 0), (by omega : (0:Int) < 2147483648)⟩ hx, am_le ⟨(by omega : (-2147483648:Int) ≤ 0), (by omega : (0:Int) < 2147483648)⟩ hx] at h; omega) H locs ls hW hS hL
/-- an int array's element -/
theorem wq_iald (C : lq_C g p s m args c cc nL Ts A) {k n : Nat} {a : Int} (hsh : ll_s k 0 = .inr (.inl (0, n))) (hi : 0 < ll_n k) (hn : n < 2147483648) (j : Nat) (ha : a = (j : Int)) (hj : j < n) (hdg : decode cc pc = .ok (.iaload, 1)) (kk : wq g p l e R s m args below meth c cells slots Q A nL (pc + 1) lv (qi (σ k 0 j) :: st) σ) : wq g p l e R s m args below meth c cells slots Q A nL pc lv (qi a :: .ref (g.2.2 k 0) :: st) σ := by
  intro H locs ls hW hS hL
  subst ha
  refine va_iald (D := g.1) (cl := vwCl) (tys := am_tyl g.2.1) C.1.1 C.1.2.1 C.2.1.1.1 (am_one (G := gL g) hW (k := k) (i := 0) hi (E := .inl (g.2.1 0, n, .inl (fun j => Int32.ofInt (σ k 0 j)))) (by rw [show (gL g).2.2.2.2 k 0 = ll_s k 0 from rfl, hsh]; rfl)) 0 0 rfl rfl (am_in (by omega) (by omega) hn) hdg ?_
  rw [am_cl (by omega) (by omega), Int.toNat_natCast]
  exact kk H locs ls hW hS hL
/-- a write to an int array -/
theorem wq_iast (C : lq_C g p s m args c cc nL Ts A) {k n : Nat} {a x : Int} (hsh : ll_s k 0 = .inr (.inl (0, n))) (hi : 0 < ll_n k) (hn : n < 2147483648) (j : Nat) (ha : a = (j : Int)) (hj : j < n) (hdg : decode cc pc = .ok (.iastore, 1)) (kk : wq g p l e R s m args below meth c cells slots Q A nL (pc + 1) lv st (am_up σ k 0 j x)) : wq g p l e R s m args below meth c cells slots Q A nL pc lv (qi x :: qi a :: .ref (g.2.2 k 0) :: st) σ := by
  intro H locs ls hW hS hL
  subst ha
  have hP := am_one (G := gL g) hW (k := k) (i := 0) hi (E := .inl (g.2.1 0, n, .inl (fun j => Int32.ofInt (σ k 0 j)))) (by rw [show (gL g).2.2.2.2 k 0 = ll_s k 0 from rfl, hsh]; rfl)
  refine W.iast C.1.1 C.1.2.1 (hP 0 _ rfl) ((C.2.1.1.1.2 0 _ rfl).1 n (fun j => .int (Int32.ofInt (σ k 0 j)))) (fun q => by cases q) (by show ¬ (_ < 0 ∨ (arrV _ _ _).slots.size ≤ _); rw [arrV_size]; exact am_in (x := (j : Int)) (n := n) (by omega) (by omega) hn) rfl rfl hdg fun H1 e z oq => ?_
  refine kk H1 _ ls (am_wd.put (G := gL g) C.2.2.1 hW (k := k) (i := 0) (j := j) (x := x) hi ?_ oq) (hS.put z oq (C.2.2.2.1 _ ⟨k, 0, hi, rfl⟩)) hL
  show va_at g.1 vwCl (g.2.2 k 0, am_cell (gL g) (ll_s k 0) (am_u1 (σ k 0) j x)) H1
  rw [hsh]
  have e' : H1[g.2.2 k 0]? = _ := e
  show H1[g.2.2 k 0]? = some (vp_cell (g.2.1 0) (n, .inl (fun j' => Int32.ofInt (am_u1 (σ k 0) j x j'))))
  rw [e', am_cl (by omega) (by omega), Int.toNat_natCast]
  show some ((vp_cell (g.2.1 0) (n, .inl (fun j => Int32.ofInt (σ k 0 j)))).setSlot j (.int (Int32.ofInt x))) = _
  rw [← am_updI, vp_cell_i, vp_cell_i, arrV_store]
  congr 2
  funext q
  by_cases hq : q = j
  · subst hq
    simp [updV, upd]
  · simp [updV, upd, hq]
/-- fewer locals are told -/
theorem wq_lw {lw : List (Option Value)} (h : ∀ (j : Nat) (v : Value), lw[j]? = some (some v) → lv[j]? = some (some v)) (k : wq g p l e R s m args below meth c cells slots Q A nL pc lw st σ) : wq g p l e R s m args below meth c cells slots Q A nL pc lv st σ := fun H locs ls hW hS hL =>
  k H locs ls hW hS ⟨hL.1, hL.2.1, fun q hq => hL.2.2 q (by
    obtain ⟨j, v⟩ := q
    obtain ⟨h1, h2⟩ := (lq_mem lw 0 j v).mp hq
    exact (lq_mem lv 0 j v).mpr ⟨h1, by rw [Nat.sub_zero] at h2 ⊢; exact h j v h2⟩)⟩
/-- .. place by place -/
def lq_lz : List (Option Value) → List (Option Value) → Prop
  | [], _ => True
  | none :: r, _ :: r' => lq_lz r r'
  | some v :: r, some w :: r' => v = w ∧ lq_lz r r'
  | none :: r, [] => lq_lz r []
  | some _ :: _, _ => False
theorem lz_0 {l : List (Option Value)} : lq_lz [] l := by cases l <;> exact True.intro
theorem lz_n {r r' : List (Option Value)} {x : Option Value} (h : lq_lz r r') : lq_lz (none :: r) (x :: r') := h
theorem lz_s {r r' : List (Option Value)} {v : Value} (h : lq_lz r r') : lq_lz (some v :: r) (some v :: r') := ⟨rfl, h⟩
theorem lz_get : ∀ (lw lv : List (Option Value)), lq_lz lw lv → ∀ (j : Nat) (v : Value), lw[j]? = some (some v) → lv[j]? = some (some v)
  | [], _, _, j, v, h => by simp at h
  | none :: r, [], h, j, v, hj => by
    match j, hj with
    | 0, hj => simp at hj
    | j + 1, hj =>
      rw [List.getElem?_cons_succ] at hj
      have := lz_get r [] h j v hj
      simp at this
  | none :: r, x :: r', h, j, v, hj => by
    match j, hj with
    | 0, hj => simp at hj
    | j + 1, hj => rw [List.getElem?_cons_succ] at hj ⊢; exact lz_get r r' h j v hj
  | some u :: r, [], h, j, v, hj => absurd h (by simp [lq_lz])
  | some u :: r, none :: r', h, j, v, hj => absurd h (by simp [lq_lz])
  | some u :: r, some w :: r', h, j, v, hj => by
    obtain ⟨e, h⟩ := h
    match j, hj with
    | 0, hj => rw [← e]; exact hj
    | j + 1, hj => rw [List.getElem?_cons_succ] at hj ⊢; exact lz_get r r' h j v hj
theorem wq_lz {lw : List (Option Value)} (h : lq_lz lw lv) (k : wq g p l e R s m args below meth c cells slots Q A nL pc lw st σ) : wq g p l e R s m args below meth c cells slots Q A nL pc lv st σ := wq_lw (lz_get lw lv h) k
/-- rounding the room up -/
theorem wq_wide {c1 s1 : Nat} (h1 : cells ≤ c1) (h2 : slots ≤ s1) (k : wq g p l e R s m args below meth c c1 s1 Q A nL pc lv st σ) : wq g p l e R s m args below meth c cells slots Q A nL pc lv st σ := fun H locs ls hW hS hL => W.widen h1 h2 (k H locs ls hW hS hL)
/-! ends -/
theorem wq_iret (C : lq_C g p s m args c cc nL Ts (am_FA (gL g))) (hr : meth.sig.returnType = some .int) (hlk : meth.locks = false) {mc ms : Nat} (hc : cells ≤ mc) (hs : slots ≤ ms) {post : Int → am_M → Prop} {x : Int} (hdg : decode cc pc = .ok (.ireturn, 1)) (hp : post x σ) : wq g p l e R s m args below meth c cells slots (MQ below (lQ g post) args s mc ms (am_FA (gL g))) (am_FA (gL g)) nL pc lv [qi x] σ := by
  intro H locs ls hW hS hL
  refine W.widen hc hs ?_
  exact W.iret C.1.1 C.1.2.1 hr (fun t ht _ => ⟨⟨_, σ, rfl, ⟨x, rfl, hp⟩, by show am_wd (gL g) σ t.heap; rw [ht]; exact hW⟩, hS.F ht⟩) (fun q hq => hS.2.2 q hq) hdg hlk
theorem wq_zret (C : lq_C g p s m args c cc nL Ts (am_FA (gL g))) (hr : meth.sig.returnType = some .boolean) (hlk : meth.locks = false) {mc ms : Nat} (hc : cells ≤ mc) (hs : slots ≤ ms) {post : Int → am_M → Prop} {x : Int} (hx : x = 0 ∨ x = 1) (hdg : decode cc pc = .ok (.ireturn, 1)) (hp : post x σ) : wq g p l e R s m args below meth c cells slots (MQ below (lQ g post) args s mc ms (am_FA (gL g))) (am_FA (gL g)) nL pc lv [qi x] σ := by
  intro H locs ls hW hS hL
  refine W.widen hc hs ?_
  exact W.zret C.1.1 C.1.2.1 hr (by rcases hx with rfl | rfl <;> decide) (fun t ht _ => ⟨⟨_, σ, rfl, ⟨x, rfl, hp⟩, by show am_wd (gL g) σ t.heap; rw [ht]; exact hW⟩, hS.F ht⟩) (fun q hq => hS.2.2 q hq) hdg hlk
theorem wq_lret (C : lq_C g p s m args c cc nL Ts (am_FA (gL g))) (hr : meth.sig.returnType = some .long) (hlk : meth.locks = false) {mc ms : Nat} (hc : cells ≤ mc) (hs : slots ≤ ms) {post : Int64 → am_M → Prop} {x : Int64} (hdg : decode cc pc = .ok (.lreturn, 1)) (hp : post x σ) : wq g p l e R s m args below meth c cells slots (MQ below (lQJ g post) args s mc ms (am_FA (gL g))) (am_FA (gL g)) nL pc lv [.long x] σ := by
  intro H locs ls hW hS hL
  refine W.widen hc hs ?_
  exact W.lret C.1.1 C.1.2.1 hr (fun t ht _ => ⟨⟨_, σ, rfl, hp, by show am_wd (gL g) σ t.heap; rw [ht]; exact hW⟩, hS.F ht⟩) (fun q hq => hS.2.2 q hq) hdg hlk
/-! calls -/
section CALLS
variable {y : MethodName} {ws' : List Cond} {rm : Room} {bytes : ByteArray} {maxL n index mc ms : Nat} {ret : Option FieldType} {stk : List Value} {hh : List (Nat × Nat × Nat × Nat)}
theorem lq_preV (C : lq_C g p s m args c cc nL Ts A) {H : Heap} {locs : List Loc} (hW : am_wd (gL g) σ H) (av : List am_V) : PreV s H RX5 (g.2.2 0 0) (am_P (gC g) σ (.inr (0, 0) :: av)) (av.map (am_tv (gC g))) :=
  ⟨am_blind _ _ _, va_recv C.2.1.1.1 (am_one (lC_of hW) (k := 0) (i := 0) (show 0 < (1:Nat) by decide) rfl) (ci := 5) rfl (q0 := 0) rfl, fun U hU hW9 => ⟨rfl, by rw [hU]; exact lC_of hW, am_K.warm hW9 C.2.1.1⟩⟩
theorem lq_preX (C : lq_C g p s m args c cc nL Ts A) {H : Heap} {locs : List Loc} (hW : am_wd (gL g) σ H) (hS : va_S A s.heap H locs) (av : List am_V) : PreV s H RX5 (g.2.2 0 0) (am_PX (gC g) σ (.inr (0, 0) :: av)) (av.map (am_tv (gC g))) :=
  ⟨am_blindX _ _ _, va_recv C.2.1.1.1 (am_one (lC_of hW) (k := 0) (i := 0) (show 0 < (1:Nat) by decide) rfl) (ci := 5) rfl (q0 := 0) rfl, fun U hU hW9 => ⟨rfl, by rw [hU]; exact lC_of hW, am_K.warm hW9 C.2.1.1, by rw [hU]; exact (am_Z.go hW9 C.2.1.2.1 (fun a h1 h2 => hS.2.1 a h1 (C.2.2.2.2 a h1 h2))).narrow (fun q h => lC_FA h)⟩⟩
/-- the component, asked for an int -/
theorem wq_cI (C : lq_C g p s m args c cc nL Ts A) {av : List am_V} {post : Int → am_M → Prop} (hM : Met l y ws' rm (am_P (gC g) σ (.inr (0, 0) :: av)) (am_QI (gC g) post) 0 0 (am_FA (gC g))) (cw : CallW R s args RL RX5 index y bytes maxL ret ws' rm 0 0 n)
    (hn : av.length = n) (hstk : stk = (av.map (am_tv (gC g))).reverse ++ .ref (g.2.2 0 0) :: st) (hst : (st.map fun v => v.category).sum ≤ 8) (hdg : decode cc pc = .ok (.invokevirtual index, 3)) (hcs : cells ≤ R.cells ∧ slots ≤ R.slots)
    (kk : ∀ (r : Int) (σ' : am_M), post r σ' → wq g p l e R s m args below meth c cells slots Q A nL (pc + 3) lv (qi r :: st) (l_mix σ' σ)) : wq g p l e R s m args below meth c cells slots Q A nL pc lv stk σ := by
  intro H locs ls hW hS hL
  refine va_calli (A0 := A) (va_runV (As := av.map (am_tv (gC g))) (rest := st) C.1 hM cw (lq_preV C (locs := locs) hW av) rfl (by rw [List.length_map]; exact hn) hL.1 hstk (lv_room hst) hdg hcs) hS (fun q _ h => C.2.2.2.1 q (lC_FA h)) (fun q h => C.2.2.2.1 q (lC_FA h)) (fun r u t H1 locs1 ht hvm hp hB hz hk hS1 => ?_)
  obtain ⟨x, rfl, hpx⟩ := hp
  exact kk x u hpx H1 locs1 ls (lC_in C.2.2.1 hW (by rw [← ht]; exact hB) hk) hS1 hL
/-- the component, asked for an int, where it may throw one kind of exception that the method catches -/
theorem wq_xI (C : lq_C g p s m args c cc nL Ts A) {av : List am_V} {post : Int → am_M → Prop} {ex : String → Prop} (hM : vx_Met l y ws' rm (am_PX (gC g) σ (.inr (0, 0) :: av)) (am_QI (gC g) post) (am_X (gC g) σ ex) mc ms (am_FA (gC g))) (cw : CallW R s args RL RX5 index y bytes maxL ret ws' rm mc ms n)
    (hn : av.length = n) (hstk : stk = (av.map (am_tv (gC g))).reverse ++ .ref (g.2.2 0 0) :: st) (hst : (st.map fun v => v.category).sum ≤ 8) (hdg : decode cc pc = .ok (.invokevirtual index, 3)) (hcs : cells + mc ≤ R.cells ∧ slots + ms ≤ R.slots)
    {E0 : String} {x0 : ExceptionTableEntry} (htab : c.exceptionTable.toList = [x0]) (hcov : covers x0 pc = true) (hct : x0.catchType ≠ 0) (hlink : Cond.classLink RL x0.catchType E0 ∈ Ts) (hcast : Cond.castable E0 E0 ∈ am_zw) (hex : ∀ E, ex E → E = E0)
    (kx : ∀ q9 : Addr, ex E0 → wq g p l e R s m args below meth c (cells + mc) (slots + ms) Q A nL x0.handlerPc lv [.ref q9] σ)
    (kk : ∀ (r : Int) (σ' : am_M), post r σ' → wq g p l e R s m args below meth c (cells + mc) (slots + ms) Q A nL (pc + 3) lv (qi r :: st) (l_mix σ' σ)) : wq g p l e R s m args below meth c cells slots Q A nL pc lv stk σ := by
  intro H locs ls hW hS hL
  refine vx_calli (A0 := A) (vx_runV (As := av.map (am_tv (gC g))) (rest := st) C.1 hM cw (lq_preX C hW hS av) rfl (by rw [List.length_map]; exact hn) hL.1 hstk (lv_room hst) hdg hcs) hS (fun q _ h => C.2.2.2.1 q (lC_FA h)) (fun q h => C.2.2.2.1 q (lC_FA h)) (fun q _ h => C.2.2.2.1 q (lC_FA h)) ?_ ?_
  · intro E ce q9 u t H1 locs1 ht hvm hp hB hz hk hS1 hce hcv hcl
    obtain ⟨hWx, hEx⟩ := hB
    rw [ht] at hWx
    obtain rfl := hex E hEx
    refine vx_catch (E := E) (name := E) C.1.2.2.2.1 [] x0 [] htab (fun z hz => absurd hz List.not_mem_nil) hcov hct (C.1.2.2.2.2 _ hlink) (am_zw_use (am_zw_all _ hcast) (C.2.1.2.1.2.2.1 _ hcast)) hce hcv hcl ?_
    have := kx q9 hEx H1 locs1 ls
    rw [← l_mix_s σ] at this
    exact this (lC_in C.2.2.1 hW hWx hk) hS1 hL
  · intro r u t H1 locs1 ht hvm hp hB hz hk hS1
    obtain ⟨x, rfl, hpx⟩ := hp
    exact kk x u hpx H1 locs1 ls (lC_in C.2.2.1 hW (by rw [← ht]; exact hB) hk) hS1 hL
/-- .. two kinds -/
theorem wq_xI2 (C : lq_C g p s m args c cc nL Ts A) {av : List am_V} {post : Int → am_M → Prop} {ex : String → Prop} (hM : vx_Met l y ws' rm (am_PX (gC g) σ (.inr (0, 0) :: av)) (am_QI (gC g) post) (am_X (gC g) σ ex) mc ms (am_FA (gC g))) (cw : CallW R s args RL RX5 index y bytes maxL ret ws' rm mc ms n)
    (hn : av.length = n) (hstk : stk = (av.map (am_tv (gC g))).reverse ++ .ref (g.2.2 0 0) :: st) (hst : (st.map fun v => v.category).sum ≤ 8) (hdg : decode cc pc = .ok (.invokevirtual index, 3)) (hcs : cells + mc ≤ R.cells ∧ slots + ms ≤ R.slots)
    {x1 x2 : ExceptionTableEntry} (htab : c.exceptionTable.toList = [x1, x2]) (hcov1 : covers x1 pc = true) (hcov2 : covers x2 pc = true) (hct1 : x1.catchType ≠ 0) (hct2 : x2.catchType ≠ 0) (hlink1 : Cond.classLink RL x1.catchType "java/lang/IllegalArgumentException" ∈ Ts) (hlink2 : Cond.classLink RL x2.catchType "java/lang/IllegalStateException" ∈ Ts) (hex : ∀ E, ex E → E = "java/lang/IllegalArgumentException" ∨ E = "java/lang/IllegalStateException")
    (k1 : ∀ q9 : Addr, ex "java/lang/IllegalArgumentException" → wq g p l e R s m args below meth c (cells + mc) (slots + ms) Q A nL x1.handlerPc lv [.ref q9] σ)
    (k2 : ∀ q9 : Addr, ex "java/lang/IllegalStateException" → wq g p l e R s m args below meth c (cells + mc) (slots + ms) Q A nL x2.handlerPc lv [.ref q9] σ)
    (kk : ∀ (r : Int) (σ' : am_M), post r σ' → wq g p l e R s m args below meth c (cells + mc) (slots + ms) Q A nL (pc + 3) lv (qi r :: st) (l_mix σ' σ)) : wq g p l e R s m args below meth c cells slots Q A nL pc lv stk σ := by
  intro H locs ls hW hS hL
  refine vx_calli (A0 := A) (vx_runV (As := av.map (am_tv (gC g))) (rest := st) C.1 hM cw (lq_preX C hW hS av) rfl (by rw [List.length_map]; exact hn) hL.1 hstk (lv_room hst) hdg hcs) hS (fun q _ h => C.2.2.2.1 q (lC_FA h)) (fun q h => C.2.2.2.1 q (lC_FA h)) (fun q _ h => C.2.2.2.1 q (lC_FA h)) ?_ ?_
  · intro E ce q9 u t H1 locs1 ht hvm hp hB hz hk hS1 hce hcv hcl
    obtain ⟨hWx, hEx⟩ := hB
    rw [ht] at hWx
    have hWm := lC_in C.2.2.1 hW hWx hk
    rw [l_mix_s] at hWm
    rcases hex E hEx with rfl | rfl
    · exact vx_catch (E := "java/lang/IllegalArgumentException") (name := "java/lang/IllegalArgumentException") C.1.2.2.2.1 [] x1 [x2] htab (fun z hz => absurd hz List.not_mem_nil) hcov1 hct1 (C.1.2.2.2.2 _ hlink1) (am_zw_use (w := .castable "java/lang/IllegalArgumentException" "java/lang/IllegalArgumentException") (by decide +kernel) (C.2.1.2.1.2.2.1 _ (by decide +kernel))) hce hcv hcl (k1 q9 hEx H1 locs1 ls hWm hS1 hL)
    · exact vx_catch (E := "java/lang/IllegalStateException") (name := "java/lang/IllegalStateException") C.1.2.2.2.1 [x1] x2 [] htab (fun z hz => by rw [List.mem_singleton.mp hz]; exact Or.inr ⟨hct1, _, C.1.2.2.2.2 _ hlink1, C.2.1.2.2⟩) hcov2 hct2 (C.1.2.2.2.2 _ hlink2) (am_zw_use (w := .castable "java/lang/IllegalStateException" "java/lang/IllegalStateException") (by decide +kernel) (C.2.1.2.1.2.2.1 _ (by decide +kernel))) hce hcv hcl (k2 q9 hEx H1 locs1 ls hWm hS1 hL)
  · intro r u t H1 locs1 ht hvm hp hB hz hk hS1
    obtain ⟨x, rfl, hpx⟩ := hp
    exact kk x u hpx H1 locs1 ls (lC_in C.2.2.1 hW (by rw [← ht]; exact hB) hk) hS1 hL
/-- .. told, one kind -/
theorem wq_xV (C : lq_C g p s m args c cc nL Ts A) {av : List am_V} {post : am_M → Prop} {ex : String → Prop} (hM : vx_Met l y ws' rm (am_PX (gC g) σ (.inr (0, 0) :: av)) (am_QV (gC g) post) (am_X (gC g) σ ex) mc ms (am_FA (gC g))) (cw : CallW R s args RL RX5 index y bytes maxL ret ws' rm mc ms n)
    (hn : av.length = n) (hstk : stk = (av.map (am_tv (gC g))).reverse ++ .ref (g.2.2 0 0) :: st) (hst : (st.map fun v => v.category).sum ≤ 8) (hdg : decode cc pc = .ok (.invokevirtual index, 3)) (hcs : cells + mc ≤ R.cells ∧ slots + ms ≤ R.slots)
    {E0 : String} {x0 : ExceptionTableEntry} (htab : c.exceptionTable.toList = [x0]) (hcov : covers x0 pc = true) (hct : x0.catchType ≠ 0) (hlink : Cond.classLink RL x0.catchType E0 ∈ Ts) (hcast : Cond.castable E0 E0 ∈ am_zw) (hex : ∀ E, ex E → E = E0)
    (kx : ∀ q9 : Addr, ex E0 → wq g p l e R s m args below meth c (cells + mc) (slots + ms) Q A nL x0.handlerPc lv [.ref q9] σ)
    (kk : ∀ (σ' : am_M), post σ' → wq g p l e R s m args below meth c (cells + mc) (slots + ms) Q A nL (pc + 3) lv st (l_mix σ' σ)) : wq g p l e R s m args below meth c cells slots Q A nL pc lv stk σ := by
  intro H locs ls hW hS hL
  refine vx_callv (A0 := A) (vx_runV (As := av.map (am_tv (gC g))) (rest := st) C.1 hM cw (lq_preX C hW hS av) rfl (by rw [List.length_map]; exact hn) hL.1 hstk (lv_room hst) hdg hcs) hS (fun q _ h => C.2.2.2.1 q (lC_FA h)) (fun q h => C.2.2.2.1 q (lC_FA h)) (fun q _ h => C.2.2.2.1 q (lC_FA h)) ?_ ?_
  · intro E ce q9 u t H1 locs1 ht hvm hp hB hz hk hS1 hce hcv hcl
    obtain ⟨hWx, hEx⟩ := hB
    rw [ht] at hWx
    have hWm := lC_in C.2.2.1 hW hWx hk
    rw [l_mix_s] at hWm
    obtain rfl := hex E hEx
    exact vx_catch (E := E) (name := E) C.1.2.2.2.1 [] x0 [] htab (fun z hz => absurd hz List.not_mem_nil) hcov hct (C.1.2.2.2.2 _ hlink) (am_zw_use (am_zw_all _ hcast) (C.2.1.2.1.2.2.1 _ hcast)) hce hcv hcl (kx q9 hEx H1 locs1 ls hWm hS1 hL)
  · intro u t H1 locs1 ht hvm hp hB hz hk hS1
    exact kk u hp H1 locs1 ls (lC_in C.2.2.1 hW (by rw [← ht]; exact hB) hk) hS1 hL
theorem lq_preS (C : lq_C g p s m args c cc nL Ts A) {H : Heap} {locs : List Loc} (hW : am_wd (gL g) σ H) (hS : va_S A s.heap H locs) (av : List Value) : PreS s H (lP g σ av) av :=
  ⟨lP_blind _ _ _, fun U hU hW9 => ⟨rfl, by rw [hU]; exact hW, by rw [hU]; exact lZ.go hW9 C.2.1 (fun a h1 h2 => hS.2.1 a h1 (C.2.2.2.2 a h1 h2))⟩⟩
/-- a method of the law's own, asked for an int or a boolean -/
theorem wq_sI (C : lq_C g p s m args c cc nL Ts A) {av : List Value} {post : Int → am_M → Prop} (hM : Met l y ws' rm (lP g σ av) (lQ g post) mc ms (am_FA (gL g))) (cw : CallB R s args RL index y bytes maxL ret ws' rm mc ms n ∧ (Cond.static y).before args s = true)
    (hn : av.length = n) (hstk : stk = av.reverse ++ st) (hst : (st.map fun v => v.category).sum ≤ 8) (hdg : decode cc pc = .ok (.invokestatic index, 3)) (hcs : cells + mc ≤ R.cells ∧ slots + ms ≤ R.slots)
    (kk : ∀ (r : Int) (σ' : am_M), post r σ' → wq g p l e R s m args below meth c (cells + mc) (slots + ms) Q A nL (pc + 3) lv (qi r :: st) σ') : wq g p l e R s m args below meth c cells slots Q A nL pc lv stk σ := by
  intro H locs ls hW hS hL
  refine va_calli (A0 := A) (va_runS (As := av) (rest := st) C.1 hM cw (lq_preS C hW hS av) rfl hn hL.1 hstk (lv_room hst) hdg hcs) hS (fun q _ h => C.2.2.2.1 q h) (fun q h => C.2.2.2.1 q h) (fun r u t H1 locs1 ht hvm hp hB hz hk hS1 => ?_)
  obtain ⟨x, rfl, hpx⟩ := hp
  exact kk x u hpx H1 locs1 ls (by rw [← ht]; exact hB) hS1 hL
/-- .. for a long -/
theorem wq_sJ (C : lq_C g p s m args c cc nL Ts A) {av : List Value} {post : Int64 → am_M → Prop} (hM : Met l y ws' rm (lP g σ av) (lQJ g post) mc ms (am_FA (gL g))) (cw : CallB R s args RL index y bytes maxL ret ws' rm mc ms n ∧ (Cond.static y).before args s = true)
    (hn : av.length = n) (hstk : stk = av.reverse ++ st) (hst : (st.map fun v => v.category).sum ≤ 8) (hdg : decode cc pc = .ok (.invokestatic index, 3)) (hcs : cells + mc ≤ R.cells ∧ slots + ms ≤ R.slots)
    (kk : ∀ (r : Int64) (σ' : am_M), post r σ' → wq g p l e R s m args below meth c (cells + mc) (slots + ms) Q A nL (pc + 3) lv (.long r :: st) σ') : wq g p l e R s m args below meth c cells slots Q A nL pc lv stk σ := by
  intro H locs ls hW hS hL
  refine va_calll (A0 := A) (va_runS (As := av) (rest := st) C.1 hM cw (lq_preS C hW hS av) rfl hn hL.1 hstk (lv_room hst) hdg hcs) hS (fun q _ h => C.2.2.2.1 q h) (fun q h => C.2.2.2.1 q h) (fun r u t H1 locs1 ht hvm hp hB hz hk hS1 => ?_)
  exact kk r u hp H1 locs1 ls (by rw [← ht]; exact hB) hS1 hL
/-- .. that has a table of its own -/
theorem wq_sW (C : lq_C g p s m args c cc nL Ts A) {av : List Value} {post : Int → am_M → Prop} (hM : Met l y ws' rm (lP g σ av) (lQ g post) mc ms (am_FA (gL g))) (cw : vx_CSW R s args RL index y bytes maxL ret hh ws' rm mc ms n)
    (hn : av.length = n) (hstk : stk = av.reverse ++ st) (hst : (st.map fun v => v.category).sum ≤ 8) (hdg : decode cc pc = .ok (.invokestatic index, 3)) (hcs : cells + mc ≤ R.cells ∧ slots + ms ≤ R.slots)
    (kk : ∀ (r : Int) (σ' : am_M), post r σ' → wq g p l e R s m args below meth c (cells + mc) (slots + ms) Q A nL (pc + 3) lv (qi r :: st) σ') : wq g p l e R s m args below meth c cells slots Q A nL pc lv stk σ := by
  intro H locs ls hW hS hL
  refine va_calli (A0 := A) (vx_runSW (As := av) (rest := st) C.1 hM cw (lq_preS C hW hS av) rfl hn hL.1 hstk (lv_room hst) hdg hcs) hS (fun q _ h => C.2.2.2.1 q h) (fun q h => C.2.2.2.1 q h) (fun r u t H1 locs1 ht hvm hp hB hz hk hS1 => ?_)
  obtain ⟨x, rfl, hpx⟩ := hp
  exact kk x u hpx H1 locs1 ls (by rw [← ht]; exact hB) hS1 hL
end CALLS
end LQ
/-! entries -/
theorem wq_start {g : am_g} {σ : am_M} {l : Launch} {y : MethodName} {ws ws' : List Cond} {rm : Room} {Qc : Array Value → State → Outcome → State → Prop} {cc : ByteArray} {nL : Nat} {ret : Option FieldType} {av : List Value} {mc ms : Nat}
    (hy : plainName y.cls = true) (hw : ws = Cond.code y cc nL ret :: ws') (hI : am_inj (gL g)) (hcls : y.cls = RL) (hcat : ∀ v ∈ av, v.category = 1) (hlen : av.length ≤ nL)
    (body : ∀ p e s m below meth c, lq_C g p s m av.toArray c cc nL ws (am_FA (gL g)) → meth.sig.returnType = ret → meth.locks = false →
      wq g p l e (headSpec ws rm).room s m av.toArray below meth c 0 0 (MQ below Qc av.toArray s mc ms (am_FA (gL g))) (am_FA (gL g)) nL 0 (av.map some ++ List.replicate (nL - av.length) none) [] σ) : Met l y ws rm (lP g σ av) Qc mc ms (am_FA (gL g)) := by
  refine Met.ofW (cc := cc) (maxL := nL) (ret := ret) hy hw ?_
  intro p e s m args below meth c s₁ B hml hv
  obtain ⟨rfl, hW, hZ⟩ := hv
  have hts := atoms_spec (ws := ws) B.pre
  have hown : s.vm.findClass RL = some m.cls := hcls ▸ findClass_of_methodNamed B.named
  rw [lg_entry_eq]
  have hl := lv_entry av (n := nL) (by rw [lq_sl av hcat]; exact hlen)
  rw [lq_args (nL - av.length) av 0 hcat] at hl
  exact body p e s m below meth c ⟨⟨B.exec, B.bytes, hml, hown, hts⟩, hZ, hI, fun _ h => h, fun _ _ h => h⟩ B.returns B.notSynchronized s.heap [] _ hW va_S.rf hl
theorem wq_startW {g : am_g} {σ : am_M} {l : Launch} {y : MethodName} {ws ws' : List Cond} {rm : Room} {Qc : Array Value → State → Outcome → State → Prop} {cc : ByteArray} {nL : Nat} {hh : List (Nat × Nat × Nat × Nat)} {av : List Value} {mc ms : Nat}
    (hy : plainName y.cls = true) (hw : ws = Cond.codeWith y cc nL (some .int) hh :: ws') (hI : am_inj (gL g)) (hcls : y.cls = RL) (hcat : ∀ v ∈ av, v.category = 1) (hlen : av.length ≤ nL)
    (body : ∀ p e s m below meth c, lq_C g p s m av.toArray c cc nL ws (am_FA (gL g)) → c.exceptionTable.toList = tableOf hh → meth.sig.returnType = some .int → meth.locks = false →
      wq g p l e (headSpec ws rm).room s m av.toArray below meth c 0 0 (MQ below Qc av.toArray s mc ms (am_FA (gL g))) (am_FA (gL g)) nL 0 (av.map some ++ List.replicate (nL - av.length) none) [] σ) : Met l y ws rm (lP g σ av) Qc mc ms (am_FA (gL g)) := by
  refine MetFree.of_bodyS (code := cc) (maxLocals := nL) (ret := some .int) hy ?_ ?_
  · intro args s m h hn
    obtain ⟨m9, meth, c, hn9, h1, h2, h3, h4, -, h5, h6, -⟩ := Cond.codeWith_spec (atoms_spec (ws := ws) h _ (by rw [hw]; exact List.mem_cons_self))
    cases hn.symm.trans hn9
    exact ⟨meth, c, h1, h2, h3, h4, h5, h6⟩
  · intro p e s m args below meth c s₁ B hml hP _
    have hh0 : s₁.heap = s.heap := by rw [B.state]; rfl
    obtain ⟨rfl, hW, hZ⟩ := hP
    have hts := atoms_spec (ws := ws) B.pre
    have ht := vx_table (x := y) B (hts _ (by rw [hw]; exact List.mem_cons_self))
    have hown : s.vm.findClass RL = some m.cls := hcls ▸ findClass_of_methodNamed B.named
    have K : W p l e (headSpec ws rm).room s m av.toArray below meth c s.heap [] 0 0 (MQ below Qc av.toArray s mc ms (am_FA (gL g))) (entryFrame m av.toArray nL) := by
      rw [lg_entry_eq]
      have hl := lv_entry av (n := nL) (by rw [lq_sl av hcat]; exact hlen)
      rw [lq_args (nL - av.length) av 0 hcat] at hl
      exact body p e s m below meth c ⟨⟨B.exec, B.bytes, hml, hown, hts⟩, hZ, hI, fun _ h => h, fun _ _ h => h⟩ ht B.returns B.notSynchronized s.heap [] _ hW va_S.rf hl
    obtain ⟨t, a1, o', b1, b2, b3⟩ := K s₁ hh0 (Stand.of_body B)
    exact ⟨t, o', a1, b1, b2, ⟨b3.1, b3.2⟩⟩
