/-! abstract values and memories: an int by its number, a reference by the kind and the place of its cell; a layout says which cells there are -/
abbrev am_V : Type := Int ⊕ (Nat × Nat)
abbrev am_M : Type := Nat → Nat → Nat → Int
abbrev am_Sh : Type := (Nat × List (Option (Nat × Nat))) ⊕ ((Nat × Nat) ⊕ (Nat × Nat × (Nat → Nat × Nat)))
abbrev am_L : Type := (Nat → Nat) × (Nat → Nat → am_Sh)
abbrev am_G : Type := va_G × (Nat → ClassId) × (Nat → Nat → Nat) × am_L
def am_tv (G : am_G) : am_V → Value
  | .inl x => .int (Int32.ofInt x)
  | .inr q => .ref (G.2.2.1 q.1 q.2)
def am_sv (g : Nat → Int) : Nat → List (Option (Nat × Nat)) → List am_V
  | _, [] => []
  | j, none :: r => .inl (g j) :: am_sv g (j + 1) r
  | j, some q :: r => .inr q :: am_sv g (j + 1) r
def am_sl (g : Nat → Int) (j : Nat) : Option (Nat × Nat) → am_V
  | none => .inl (g j)
  | some q => .inr q
theorem am_sv_get (g : Nat → Int) : ∀ (sl : List (Option (Nat × Nat))) (j k : Nat), (am_sv g j sl)[k]? = sl[k]?.map (am_sl g (j + k))
  | [], j, k => by simp [am_sv]
  | none :: r, j, 0 => by simp [am_sv, am_sl]
  | some q :: r, j, 0 => by simp [am_sv, am_sl]
  | none :: r, j, k + 1 => by simp only [am_sv, List.getElem?_cons_succ]; rw [am_sv_get g r (j + 1) k, show j + 1 + k = j + (k + 1) by omega]
  | some q :: r, j, k + 1 => by simp only [am_sv, List.getElem?_cons_succ]; rw [am_sv_get g r (j + 1) k, show j + 1 + k = j + (k + 1) by omega]
theorem am_sv_len (g : Nat → Int) : ∀ (sl : List (Option (Nat × Nat))) (j : Nat), (am_sv g j sl).length = sl.length
  | [], j => rfl
  | none :: r, j => by simp [am_sv, am_sv_len g r]
  | some q :: r, j => by simp [am_sv, am_sv_len g r]
def am_u1 (g : Nat → Int) (k : Nat) (x : Int) : Nat → Int := fun j => if j = k then x else g j
def am_up (σ : am_M) (k i j : Nat) (x : Int) : am_M := fun k' i' j' => if k' = k ∧ i' = i ∧ j' = j then x else σ k' i' j'
theorem am_up_same (σ : am_M) (k i j : Nat) (x : Int) : am_up σ k i j x k i = am_u1 (σ k i) j x := by
  funext j'; simp [am_up, am_u1]
theorem am_up_ne (σ : am_M) {k i j k' i' : Nat} (x : Int) (h : ¬ (k' = k ∧ i' = i)) : am_up σ k i j x k' i' = σ k' i' := by
  funext j'; simp only [am_up]; rw [if_neg]; intro q; exact h ⟨q.1, q.2.1⟩
theorem am_sv_set (g : Nat → Int) (x : Int) (sl : List (Option (Nat × Nat))) (k : Nat) (h : sl[k]? = some none) : (am_sv g 0 sl).set k (.inl x) = am_sv (am_u1 g k x) 0 sl := by
  apply List.ext_getElem?
  intro n
  have hk : k < sl.length := (List.getElem?_eq_some_iff.mp h).1
  rw [am_sv_get]
  by_cases hn : n = k
  · subst hn
    rw [List.getElem?_set_self (by rw [am_sv_len]; exact hk), h]
    simp [am_sl, am_u1]
  · rw [List.getElem?_set_ne (Ne.symm hn), am_sv_get]
    cases hs : sl[n]? with
    | none => rfl
    | some o => cases o <;> simp [am_sl, am_u1, hn]
def am_cell (G : am_G) (sh : am_Sh) (g : Nat → Int) : va_E := match sh with
  | .inl q => .inr (q.1, (am_sv g 0 q.2).map (am_tv G))
  | .inr (.inl q) => .inl (G.2.1 q.1, q.2, .inl (fun j => Int32.ofInt (g j)))
  | .inr (.inr q) => .inl (G.2.1 q.1, q.2.1, .inr (.inr (.inr (.inr (fun j => some (G.2.2.1 (q.2.2 j).1 (q.2.2 j).2))))))
def am_wd (G : am_G) (σ : am_M) (H : Heap) : Prop := ∀ k i, i < G.2.2.2.1 k → va_at G.1 vwCl (G.2.2.1 k i, am_cell G (G.2.2.2.2 k i) (σ k i)) H
def am_FA (G : am_G) : Nat → Prop := fun q => ∃ k i, i < G.2.2.2.1 k ∧ G.2.2.1 k i = q
def am_inj (G : am_G) : Prop := ∀ k i k' i', i < G.2.2.2.1 k → i' < G.2.2.2.1 k' → G.2.2.1 k i = G.2.2.1 k' i' → k = k' ∧ i = i'
abbrev am_tyl (tc : Nat → ClassId) : List (ClassId × FieldType) := [(tc 0, .int), (tc 1, .int), (tc 2, .object RX0), (tc 3, .object RX1), (tc 4, .object RX2), (tc 5, .object RX3), (tc 6, .object RX4)]
def am_nest : List Cond := [.fieldLinkNest RX5 138 "Fabricsim$Link" "waiting" "I" "Fabricsim",
  .fieldLinkNest RX5 161 "Fabricsim$Flow" "sentPackets" "I" "Fabricsim",
  .fieldLinkNest RX5 164 "Fabricsim$Flow" "deliveredPackets" "I" "Fabricsim",
  .fieldLinkNest RX5 167 "Fabricsim$Flow" "lostPackets" "I" "Fabricsim",
  .fieldLinkNest RX5 170 "Fabricsim$Flow" "latePackets" "I" "Fabricsim",
  .fieldLinkNest RX5 173 "Fabricsim$Flow" "doneTick" "I" "Fabricsim",
  .fieldLinkNest RX5 176 "Fabricsim$Flow" "flowletCount" "I" "Fabricsim",
  .fieldLinkNest RX5 179 "Fabricsim$Flow" "spine" "I" "Fabricsim",
  .fieldLinkNest RX5 182 "Fabricsim$Link" "credits" "I" "Fabricsim",
  .fieldLinkNest RX5 188 "Fabricsim$Host" "openPackets" "I" "Fabricsim",
  .fieldLinkNest RX5 214 "Fabricsim$Flow" "source" "I" "Fabricsim",
  .fieldLinkNest RX5 220 "Fabricsim$Flow" "target" "I" "Fabricsim",
  .fieldLinkNest RX5 264 "Fabricsim$Packet" "flow" "I" "Fabricsim",
  .fieldLinkNest RX5 269 "Fabricsim$Packet" "number" "I" "Fabricsim",
  .fieldLinkNest RX5 278 "Fabricsim$Node" "wanted" "[I" "Fabricsim",
  .fieldLinkNest RX5 285 "Fabricsim$Packet" "spine" "I" "Fabricsim",
  .fieldLinkNest RX5 289 "Fabricsim$Packet" "flowlet" "I" "Fabricsim",
  .fieldLinkNest RX5 304 "Fabricsim$Host" "lastFlow" "I" "Fabricsim",
  .fieldLinkNest RX5 318 "Fabricsim$Flow" "start" "I" "Fabricsim",
  .fieldLinkNest RX5 327 "Fabricsim$Flow" "lastSentTick" "I" "Fabricsim",
  .fieldLinkNest RX5 48 "Fabricsim$Host" "up" "LFabricsim$Link;" "Fabricsim",
  .fieldLinkNest RX5 52 "Fabricsim$Host" "down" "LFabricsim$Link;" "Fabricsim",
  .fieldLinkNest RX5 70 "Fabricsim$Node" "in" "[LFabricsim$Link;" "Fabricsim",
  .fieldLinkNest RX5 73 "Fabricsim$Node" "out" "[LFabricsim$Link;" "Fabricsim",
  .fieldLinkNest RX3 28 "Fabricsim$Link" "pickedPlace" "I" "Fabricsim",
  .fieldLinkNest RX3 36 "Fabricsim$Packet" "flow" "I" "Fabricsim",
  .fieldLinkNest RX3 41 "Fabricsim$Packet" "number" "I" "Fabricsim",
  .fieldLinkNest RX3 44 "Fabricsim$Packet" "flowlet" "I" "Fabricsim",
  .fieldLinkNest RX3 47 "Fabricsim$Packet" "spine" "I" "Fabricsim",
  .methodLinkNest RX5 102 yX1_clear "Fabricsim",
  .methodLinkNest RX5 126 yX0_begin "Fabricsim",
  .methodLinkNest RX5 185 yX2_onTheWayBack "Fabricsim",
  .methodLinkNest RX5 217 yX0_unsent "Fabricsim",
  .methodLinkNest RX5 223 yX0_crossesLeaves "Fabricsim",
  .methodLinkNest RX5 227 yX0_sourceLeaf "Fabricsim",
  .methodLinkNest RX5 230 yX0_targetLeaf "Fabricsim",
  .methodLinkNest RX5 257 yX2_takeBack "Fabricsim",
  .methodLinkNest RX5 260 yX2_firstPacket "Fabricsim",
  .methodLinkNest RX5 272 yX0_countDelivered "Fabricsim",
  .methodLinkNest RX5 275 yX2_drop "Fabricsim",
  .methodLinkNest RX5 298 yX3_pick "Fabricsim",
  .methodLinkNest RX5 301 yX3_move "Fabricsim",
  .methodLinkNest RX5 324 yX2_put "Fabricsim",
  .methodLinkNest RX5 46 yX0_init "Fabricsim",
  .methodLinkNest RX5 47 yX1_init "Fabricsim",
  .methodLinkNest RX5 55 yX2_init "Fabricsim",
  .methodLinkNest RX5 56 yX3_init "Fabricsim",
  .methodLinkNest RX5 99 yX2_clear "Fabricsim",
  .methodLinkNest RX1 11 yX2_init "Fabricsim",
  .methodLinkNest RX2 21 yX4_init "Fabricsim",
  .methodLinkNest RX2 38 yX4_write "Fabricsim",
  .methodLinkNest RX3 24 yX2_pick "Fabricsim",
  .methodLinkNest RX3 32 yX2_firstPacket "Fabricsim",
  .methodLinkNest RX3 50 yX2_put "Fabricsim",
  .methodLinkNest RX3 54 yX2_drop "Fabricsim"]
def am_isN : Cond → Bool
  | .fieldLinkNest _ _ _ _ _ _ => true
  | .methodLinkNest _ _ _ _ => true
  | _ => false
theorem am_nest_all : ∀ w ∈ am_nest, am_isN w = true := by decide +kernel
theorem am_nw_warm {w : Cond} (h : am_isN w = true) {s U : State} (hW : s.WarmedH U.vm) (hZ : va_Nw w s) : va_Nw w U := by
  cases w <;> first | exact va_Nw.warmF hW hZ | exact va_Nw.warmM hW hZ | exact absurd h (by simp [am_isN])
theorem am_nw_same {w : Cond} (h : am_isN w = true) {u U : State} (e : u.vm = U.vm) (hZ : va_Nw w u) : va_Nw w U := by
  cases w <;> first | exact va_Nw.same rfl e hZ | exact absurd h (by simp [am_isN])
def am_K (G : am_G) (U : State) : Prop := va_K G.1 vwCl (am_tyl G.2.1) U ∧ ∀ w ∈ am_nest, va_Nw w U
theorem am_K.warm {G : am_G} {s U : State} (hW : s.WarmedH U.vm) (h : am_K G s) : am_K G U :=
  ⟨va_K.moved hW.alike h.1, fun w hw => am_nw_warm (am_nest_all w hw) hW (h.2 w hw)⟩
theorem am_K.same {G : am_G} {u U : State} (e : u.vm = U.vm) (h : am_K G u) : am_K G U :=
  ⟨va_K.moved (by rw [← e]; exact Vm.Alike.refl _) h.1, fun w hw => am_nw_same (am_nest_all w hw) e (h.2 w hw)⟩
/-- a write to one slot of one cell -/
theorem am_wd.put {G : am_G} (hI : am_inj G) {σ : am_M} {H H1 : Heap} (h : am_wd G σ H) {k i j : Nat} {x : Int} (hi : i < G.2.2.2.1 k)
    (he : va_at G.1 vwCl (G.2.2.1 k i, am_cell G (G.2.2.2.2 k i) (am_u1 (σ k i) j x)) H1) (oq : ∀ q : Nat, q ≠ G.2.2.1 k i → H1[q]? = H[q]?) : am_wd G (am_up σ k i j x) H1 := by
  intro k' i' hi'
  by_cases hq : k' = k ∧ i' = i
  · obtain ⟨rfl, rfl⟩ := hq
    rw [am_up_same]
    exact he
  · rw [am_up_ne _ _ hq]
    exact (h k' i' hi').kept (oq _ (fun e => hq (hI _ _ _ _ hi' hi e)))
theorem am_wd.kept {G : am_G} {σ : am_M} {H H1 : Heap} (h : am_wd G σ H) (oq : ∀ q : Nat, am_FA G q → H1[q]? = H[q]?) : am_wd G σ H1 :=
  fun k i hi => (h k i hi).kept (oq _ ⟨k, i, hi, rfl⟩)
theorem am_wd.lt {G : am_G} {σ : am_M} {H : Heap} (h : am_wd G σ H) {q : Nat} (hq : am_FA G q) : q < H.size := by
  obtain ⟨k, i, hi, rfl⟩ := hq
  exact (h k i hi).lt
/-! numbers -/
theorem am_ti {x : Int} (h : -2147483648 ≤ x ∧ x < 2147483648) : (Int32.ofInt x).toInt = x := by
  rw [Int32.toInt_ofInt]
  have h2 : ((Int32.size : Nat) : Int) = 4294967296 := rfl
  exact Int.bmod_eq_of_le (by omega) (by omega)
theorem am_lt {x y : Int} (hx : -2147483648 ≤ x ∧ x < 2147483648) (hy : -2147483648 ≤ y ∧ y < 2147483648) : Int32.ofInt x < Int32.ofInt y ↔ x < y := by
  rw [Int32.lt_iff_toInt_lt, am_ti hx, am_ti hy]
theorem am_le {x y : Int} (hx : -2147483648 ≤ x ∧ x < 2147483648) (hy : -2147483648 ≤ y ∧ y < 2147483648) : Int32.ofInt x ≤ Int32.ofInt y ↔ x ≤ y := by
  rw [Int32.le_iff_toInt_le, am_ti hx, am_ti hy]
theorem am_eq {x y : Int} (hx : -2147483648 ≤ x ∧ x < 2147483648) (hy : -2147483648 ≤ y ∧ y < 2147483648) : Int32.ofInt x = Int32.ofInt y ↔ x = y := by
  rw [← Int32.toInt_inj, am_ti hx, am_ti hy]
theorem am_0 : (0 : Int32) = Int32.ofInt 0 := rfl
theorem am_cl {x : Int} (h0 : 0 ≤ x) (h : x < 2147483648) : (Int32.ofInt x).toNatClampNeg = x.toNat := by
  show (Int32.ofInt x).toInt.toNat = _
  rw [am_ti ⟨by omega, h⟩]
theorem am_in {x : Int} {n : Nat} (h0 : 0 ≤ x) (h : x < n) (hn : n < 2147483648) : vp_in (Int32.ofInt x) n := by
  rw [vp_in_iff, am_ti ⟨by omega, by omega⟩]
  exact ⟨h0, h⟩
theorem am_div {x y : Int} (h0 : 0 ≤ x) (hx : x < 2147483648) (h1 : 0 < y) (hy : y < 2147483648) : Int32.ofInt x / Int32.ofInt y = Int32.ofInt (x / y) := by
  rw [← Int32.toInt_inj, Int32.toInt_div, am_ti ⟨by omega, hx⟩, am_ti ⟨by omega, hy⟩, Int32.toInt_ofInt, Int.tdiv_eq_ediv_of_nonneg h0]
theorem am_rem {x y : Int} (h0 : 0 ≤ x) (hx : x < 2147483648) (h1 : 0 < y) (hy : y < 2147483648) : Int32.ofInt x - Int32.ofInt x / Int32.ofInt y * Int32.ofInt y = Int32.ofInt (x % y) := by
  rw [am_div h0 hx h1 hy, ← Int32.ofInt_mul, ← Int32.ofInt_sub]
  congr 1
  rw [Int.emod_def, Int.mul_comm]
theorem am_ne0 {y : Int} (h1 : 0 < y) (hy : y < 2147483648) : ¬ Int32.ofInt y = 0 := by
  rw [am_0, am_eq ⟨by omega, by omega⟩ ⟨by omega, by omega⟩]
  omega
/-! locals -/
def am_ll (G : am_G) : Nat → List (Option am_V) → List (Nat × Value)
  | _, [] => []
  | i, none :: r => am_ll G (i + 1) r
  | i, some v :: r => (i, am_tv G v) :: am_ll G (i + 1) r
theorem am_ll_mem (G : am_G) : ∀ (lv : List (Option am_V)) (i j : Nat) (w : Value), (j, w) ∈ am_ll G i lv ↔ ∃ v, i ≤ j ∧ lv[j - i]? = some (some v) ∧ w = am_tv G v
  | [], i, j, w => by simp [am_ll]
  | none :: r, i, j, w => by
    rw [am_ll, am_ll_mem G r (i + 1) j w]
    constructor
    · rintro ⟨v, h1, h2, h3⟩
      refine ⟨v, by omega, ?_, h3⟩
      rw [show j - i = (j - (i + 1)) + 1 by omega, List.getElem?_cons_succ]
      exact h2
    · rintro ⟨v, h1, h2, h3⟩
      by_cases h : j = i
      · subst h
        simp at h2
      · refine ⟨v, by omega, ?_, h3⟩
        rw [show j - i = (j - (i + 1)) + 1 by omega, List.getElem?_cons_succ] at h2
        exact h2
  | some u :: r, i, j, w => by
    rw [am_ll, List.mem_cons, am_ll_mem G r (i + 1) j w]
    constructor
    · rintro (h | ⟨v, h1, h2, h3⟩)
      · cases h
        exact ⟨u, Nat.le_refl _, by simp, rfl⟩
      · refine ⟨v, by omega, ?_, h3⟩
        rw [show j - i = (j - (i + 1)) + 1 by omega, List.getElem?_cons_succ]
        exact h2
    · rintro ⟨v, h1, h2, h3⟩
      by_cases h : j = i
      · subst h
        simp at h2
        subst h2
        exact Or.inl (by rw [h3])
      · refine Or.inr ⟨v, by omega, ?_, h3⟩
        rw [show j - i = (j - (i + 1)) + 1 by omega, List.getElem?_cons_succ] at h2
        exact h2
theorem am_cat (G : am_G) (v : am_V) : (am_tv G v).category = 1 := by cases v <;> rfl
theorem am_lget {G : am_G} {ls : Array Slot} {nL : Nat} {lv : List (Option am_V)} (h : lv_has ls nL (am_ll G 0 lv)) {i : Nat} {v : am_V} (hv : lv[i]? = some (some v)) : ls[i]? = some (.val (am_tv G v)) :=
  h.2.2 (i, am_tv G v) ((am_ll_mem G lv 0 i _).mpr ⟨v, Nat.zero_le _, hv, rfl⟩)
theorem am_lset {G : am_G} {ls : Array Slot} {nL : Nat} {lv : List (Option am_V)} {i : Nat} {v : am_V} (hi : i < lv.length)
    (h : lv_has ls nL ((i, am_tv G v) :: (am_ll G 0 lv).filter (fun q => !(q.1 == i) && !(q.1 + 1 == i && q.2.category == 2)))) : lv_has ls nL (am_ll G 0 (lv.set i (some v))) := by
  refine ⟨h.1, h.2.1, fun q hq => h.2.2 q ?_⟩
  obtain ⟨j, w⟩ := q
  obtain ⟨u, -, h2, h3⟩ := (am_ll_mem G _ 0 j w).mp hq
  rw [Nat.sub_zero] at h2
  by_cases hj : j = i
  · subst hj
    rw [List.getElem?_set_self hi] at h2
    cases h2
    rw [h3]
    exact List.mem_cons_self
  · rw [List.getElem?_set_ne (Ne.symm hj)] at h2
    refine List.mem_cons_of_mem _ (List.mem_filter.mpr ⟨(am_ll_mem G lv 0 j w).mpr ⟨u, Nat.zero_le _, h2, h3⟩, ?_⟩)
    rw [h3]
    simp [hj, am_cat]
theorem am_ll_nones (G : am_G) : ∀ (n i : Nat), am_ll G i (List.replicate n none) = []
  | 0, _ => rfl
  | n + 1, i => by rw [List.replicate_succ, am_ll, am_ll_nones G n]
theorem am_lv_args (G : am_G) (n : Nat) : ∀ (av : List am_V) (i : Nat), lv_args i (av.map (am_tv G)) = am_ll G i (av.map some ++ List.replicate n none)
  | [], i => by rw [List.map_nil, List.map_nil, List.nil_append, am_ll_nones]; rfl
  | v :: r, i => by
    rw [List.map_cons, List.map_cons, List.cons_append, am_ll, ← am_lv_args G n r (i + 1), lv_args]
    simp [am_cat]
/-! the walk in those words -/
def wk (G : am_G) (p : Program) (l : Launch) (e : Env) (R : Room) (s : State) (m : MethodId) (args : Array Value) (below : List Frame) (meth : Method) (c : Code) (cells slots : Nat) (Q : State → Prop) (A : Nat → Prop) (H0 : Heap) (nL pc : Nat) (lv : List (Option am_V)) (st : List am_V) (σ : am_M) : Prop :=
  ∀ (H : Heap) (locs : List Loc) (ls : Array Slot), am_wd G σ H → va_S A H0 H locs → lv_has ls nL (am_ll G 0 lv) → W p l e R s m args below meth c H locs cells slots Q (F0 m pc ls (st.map (am_tv G)))
/-- what a walk stands on -/
def wk_C (G : am_G) (p : Program) (s : State) (m : MethodId) (args : Array Value) (c : Code) (cc : ByteArray) (nL : Nat) (own : String) (Ts : List Cond) (A : Nat → Prop) : Prop :=
  p.tables.exec = Jvm.exec ∧ c.code = cc ∧ c.maxLocals = nL ∧ s.vm.findClass own = some m.cls ∧ (∀ w ∈ Ts, w.before args s = true) ∧ am_K G s ∧ am_inj G ∧ (∀ q, am_FA G q → A q)
section WK
variable {G : am_G} {p : Program} {l : Launch} {e : Env} {R : Room} {s : State} {m : MethodId} {args : Array Value} {below : List Frame} {meth : Method} {c : Code} {cells slots : Nat} {Q : State → Prop}
variable {A : Nat → Prop} {H0 : Heap} {nL pc : Nat} {lv : List (Option am_V)} {st : List am_V} {σ : am_M} {cc : ByteArray} {own : String} {Ts : List Cond}
theorem wk_iconst (C : wk_C G p s m args c cc nL own Ts A) {n : Int}   (hdg : decode cc pc = .ok (.iconst n, 1)) (k : wk G p l e R s m args below meth c cells slots Q A H0 nL (pc + 1) lv (.inl n :: st) σ) : wk G p l e R s m args below meth c cells slots Q A H0 nL pc lv (st) σ := by
  intro H locs ls hW hS hL
  exact lv_iconst C.1 C.2.1 hdg rfl (k H locs ls hW hS hL)
theorem wk_bipush (C : wk_C G p s m args c cc nL own Ts A) {n : Int}  (hv : (Int8.ofInt n).toInt32 = Int32.ofInt n) (hdg : decode cc pc = .ok (.bipush n, 2)) (k : wk G p l e R s m args below meth c cells slots Q A H0 nL (pc + 2) lv (.inl n :: st) σ) : wk G p l e R s m args below meth c cells slots Q A H0 nL pc lv (st) σ := by
  intro H locs ls hW hS hL
  exact lv_bipush C.1 C.2.1 hdg hv (k H locs ls hW hS hL)
theorem wk_sipush (C : wk_C G p s m args c cc nL own Ts A) {n : Int}  (hv : (Int16.ofInt n).toInt32 = Int32.ofInt n) (hdg : decode cc pc = .ok (.sipush n, 3)) (k : wk G p l e R s m args below meth c cells slots Q A H0 nL (pc + 3) lv (.inl n :: st) σ) : wk G p l e R s m args below meth c cells slots Q A H0 nL pc lv (st) σ := by
  intro H locs ls hW hS hL
  exact lv_sipush C.1 C.2.1 hdg hv (k H locs ls hW hS hL)
theorem wk_iload_n (C : wk_C G p s m args c cc nL own Ts A) {j : Fin 4} {x : Int}  (hl : lv[(j : Nat)]? = some (some (.inl x))) (hdg : decode cc pc = .ok (.iload_n j, 1)) (k : wk G p l e R s m args below meth c cells slots Q A H0 nL (pc + 1) lv (.inl x :: st) σ) : wk G p l e R s m args below meth c cells slots Q A H0 nL pc lv (st) σ := by
  intro H locs ls hW hS hL
  exact lv_iload_n C.1 C.2.1 hdg rfl (am_lget hL hl) (k H locs ls hW hS hL)
theorem wk_iload (C : wk_C G p s m args c cc nL own Ts A) {j : Nat} {x : Int}  (hl : lv[j]? = some (some (.inl x))) (hdg : decode cc pc = .ok (.iload j, 2)) (k : wk G p l e R s m args below meth c cells slots Q A H0 nL (pc + 2) lv (.inl x :: st) σ) : wk G p l e R s m args below meth c cells slots Q A H0 nL pc lv (st) σ := by
  intro H locs ls hW hS hL
  exact lv_iload C.1 C.2.1 hdg (am_lget hL hl) (k H locs ls hW hS hL)
theorem wk_aload_n (C : wk_C G p s m args c cc nL own Ts A) {j : Fin 4} {x : Nat × Nat}  (hl : lv[(j : Nat)]? = some (some (.inr x))) (hdg : decode cc pc = .ok (.aload_n j, 1)) (k : wk G p l e R s m args below meth c cells slots Q A H0 nL (pc + 1) lv (.inr x :: st) σ) : wk G p l e R s m args below meth c cells slots Q A H0 nL pc lv (st) σ := by
  intro H locs ls hW hS hL
  exact lv_aload_n C.1 C.2.1 hdg rfl (am_lget hL hl) (k H locs ls hW hS hL)
theorem wk_aload (C : wk_C G p s m args c cc nL own Ts A) {j : Nat} {x : Nat × Nat}  (hl : lv[j]? = some (some (.inr x))) (hdg : decode cc pc = .ok (.aload j, 2)) (k : wk G p l e R s m args below meth c cells slots Q A H0 nL (pc + 2) lv (.inr x :: st) σ) : wk G p l e R s m args below meth c cells slots Q A H0 nL pc lv (st) σ := by
  intro H locs ls hW hS hL
  exact lv_aload C.1 C.2.1 hdg (am_lget hL hl) (k H locs ls hW hS hL)
theorem wk_istore_n (C : wk_C G p s m args c cc nL own Ts A) {j : Fin 4} {x : Int} (hn : (j : Nat) < nL) (hi : (j : Nat) < lv.length) (hdg : decode cc pc = .ok (.istore_n j, 1)) (k : wk G p l e R s m args below meth c cells slots Q A H0 nL (pc + 1) (lv.set (j : Nat) (some (.inl x))) st σ) : wk G p l e R s m args below meth c cells slots Q A H0 nL pc lv (.inl x :: st) σ := by
  intro H locs ls hW hS hL
  exact lv_istore_n C.1 C.2.1 hdg rfl hL hn rfl (fun ls2 h2 => k H locs ls2 hW hS (am_lset hi h2))
theorem wk_istore (C : wk_C G p s m args c cc nL own Ts A) {j : Nat} {x : Int} (hn : j < nL) (hi : j < lv.length) (hdg : decode cc pc = .ok (.istore j, 2)) (k : wk G p l e R s m args below meth c cells slots Q A H0 nL (pc + 2) (lv.set j (some (.inl x))) st σ) : wk G p l e R s m args below meth c cells slots Q A H0 nL pc lv (.inl x :: st) σ := by
  intro H locs ls hW hS hL
  exact lv_istore C.1 C.2.1 hdg hL hn rfl (fun ls2 h2 => k H locs ls2 hW hS (am_lset hi h2))
theorem wk_astore_n (C : wk_C G p s m args c cc nL own Ts A) {j : Fin 4} {x : Nat × Nat} (hn : (j : Nat) < nL) (hi : (j : Nat) < lv.length) (hdg : decode cc pc = .ok (.astore_n j, 1)) (k : wk G p l e R s m args below meth c cells slots Q A H0 nL (pc + 1) (lv.set (j : Nat) (some (.inr x))) st σ) : wk G p l e R s m args below meth c cells slots Q A H0 nL pc lv (.inr x :: st) σ := by
  intro H locs ls hW hS hL
  exact lv_astore_n C.1 C.2.1 hdg rfl hL hn rfl (fun ls2 h2 => k H locs ls2 hW hS (am_lset hi h2))
theorem wk_astore (C : wk_C G p s m args c cc nL own Ts A) {j : Nat} {x : Nat × Nat} (hn : j < nL) (hi : j < lv.length) (hdg : decode cc pc = .ok (.astore j, 2)) (k : wk G p l e R s m args below meth c cells slots Q A H0 nL (pc + 2) (lv.set j (some (.inr x))) st σ) : wk G p l e R s m args below meth c cells slots Q A H0 nL pc lv (.inr x :: st) σ := by
  intro H locs ls hW hS hL
  exact lv_astore C.1 C.2.1 hdg hL hn rfl (fun ls2 h2 => k H locs ls2 hW hS (am_lset hi h2))
theorem wk_iinc (C : wk_C G p s m args c cc nL own Ts A) {j : Nat} {n x : Int} (hl : lv[j]? = some (some (.inl x))) (hn : j < nL) (hdg : decode cc pc = .ok (.iinc j n, 3)) (k : wk G p l e R s m args below meth c cells slots Q A H0 nL (pc + 3) (lv.set j (some (.inl (x + n)))) st σ) : wk G p l e R s m args below meth c cells slots Q A H0 nL pc lv st σ := by
  intro H locs ls hW hS hL
  have hm := (am_ll_mem G lv 0 j (am_tv G (.inl x))).mpr ⟨_, Nat.zero_le _, hl, rfl⟩
  obtain ⟨q, hq⟩ := List.getElem?_of_mem hm
  have hi : j < lv.length := (List.getElem?_eq_some_iff.mp hl).1
  exact lv_iinc (v := Int32.ofInt (x + n)) C.1 C.2.1 hdg hL hq (by rw [Int32.ofInt_add]) hn rfl (fun ls2 h2 => k H locs ls2 hW hS (am_lset (v := .inl (x + n)) hi h2))
theorem wk_iadd (C : wk_C G p s m args c cc nL own Ts A) {x y : Int} (hdg : decode cc pc = .ok (.iadd, 1)) (k : wk G p l e R s m args below meth c cells slots Q A H0 nL (pc + 1) lv (.inl (x + y) :: st) σ) : wk G p l e R s m args below meth c cells slots Q A H0 nL pc lv (.inl y :: .inl x :: st) σ := by
  intro H locs ls hW hS hL
  refine lv_iadd C.1 C.2.1 hdg ?_
  rw [← Int32.ofInt_add]
  exact k H locs ls hW hS hL
theorem wk_isub (C : wk_C G p s m args c cc nL own Ts A) {x y : Int} (hdg : decode cc pc = .ok (.isub, 1)) (k : wk G p l e R s m args below meth c cells slots Q A H0 nL (pc + 1) lv (.inl (x - y) :: st) σ) : wk G p l e R s m args below meth c cells slots Q A H0 nL pc lv (.inl y :: .inl x :: st) σ := by
  intro H locs ls hW hS hL
  refine lv_isub C.1 C.2.1 hdg ?_
  rw [← Int32.ofInt_sub]
  exact k H locs ls hW hS hL
theorem wk_imul (C : wk_C G p s m args c cc nL own Ts A) {x y : Int} (hdg : decode cc pc = .ok (.imul, 1)) (k : wk G p l e R s m args below meth c cells slots Q A H0 nL (pc + 1) lv (.inl (x * y) :: st) σ) : wk G p l e R s m args below meth c cells slots Q A H0 nL pc lv (.inl y :: .inl x :: st) σ := by
  intro H locs ls hW hS hL
  refine lv_imul C.1 C.2.1 hdg ?_
  rw [← Int32.ofInt_mul]
  exact k H locs ls hW hS hL
theorem wk_idiv (C : wk_C G p s m args c cc nL own Ts A) {x y : Int} (hx : 0 ≤ x ∧ x < 2147483648) (hy : 0 < y ∧ y < 2147483648) (hdg : decode cc pc = .ok (.idiv, 1)) (k : wk G p l e R s m args below meth c cells slots Q A H0 nL (pc + 1) lv (.inl (x / y) :: st) σ) : wk G p l e R s m args below meth c cells slots Q A H0 nL pc lv (.inl y :: .inl x :: st) σ := by
  intro H locs ls hW hS hL
  refine lv_idiv C.1 C.2.1 hdg (am_ne0 hy.1 hy.2) ?_
  rw [am_div hx.1 hx.2 hy.1 hy.2]
  exact k H locs ls hW hS hL
theorem wk_irem (C : wk_C G p s m args c cc nL own Ts A) {x y : Int} (hx : 0 ≤ x ∧ x < 2147483648) (hy : 0 < y ∧ y < 2147483648) (hdg : decode cc pc = .ok (.irem, 1)) (k : wk G p l e R s m args below meth c cells slots Q A H0 nL (pc + 1) lv (.inl (x % y) :: st) σ) : wk G p l e R s m args below meth c cells slots Q A H0 nL pc lv (.inl y :: .inl x :: st) σ := by
  intro H locs ls hW hS hL
  refine lv_irem C.1 C.2.1 hdg (am_ne0 hy.1 hy.2) ?_
  rw [am_rem hx.1 hx.2 hy.1 hy.2]
  exact k H locs ls hW hS hL
theorem wk_iand (C : wk_C G p s m args c cc nL own Ts A) {x y : Int} (z : Int) (hz : Int32.ofInt x &&& Int32.ofInt y = Int32.ofInt z) (hdg : decode cc pc = .ok (.iand, 1)) (k : wk G p l e R s m args below meth c cells slots Q A H0 nL (pc + 1) lv (.inl z :: st) σ) : wk G p l e R s m args below meth c cells slots Q A H0 nL pc lv (.inl y :: .inl x :: st) σ := by
  intro H locs ls hW hS hL
  refine lv_iand C.1 C.2.1 hdg ?_
  rw [hz]
  exact k H locs ls hW hS hL
theorem wk_ior (C : wk_C G p s m args c cc nL own Ts A) {x y : Int} (z : Int) (hz : Int32.ofInt x ||| Int32.ofInt y = Int32.ofInt z) (hdg : decode cc pc = .ok (.ior, 1)) (k : wk G p l e R s m args below meth c cells slots Q A H0 nL (pc + 1) lv (.inl z :: st) σ) : wk G p l e R s m args below meth c cells slots Q A H0 nL pc lv (.inl y :: .inl x :: st) σ := by
  intro H locs ls hW hS hL
  refine lv_ior C.1 C.2.1 hdg ?_
  rw [hz]
  exact k H locs ls hW hS hL
theorem wk_ixor (C : wk_C G p s m args c cc nL own Ts A) {x y : Int} (z : Int) (hz : Int32.ofInt x ^^^ Int32.ofInt y = Int32.ofInt z) (hdg : decode cc pc = .ok (.ixor, 1)) (k : wk G p l e R s m args below meth c cells slots Q A H0 nL (pc + 1) lv (.inl z :: st) σ) : wk G p l e R s m args below meth c cells slots Q A H0 nL pc lv (.inl y :: .inl x :: st) σ := by
  intro H locs ls hW hS hL
  refine lv_ixor C.1 C.2.1 hdg ?_
  rw [hz]
  exact k H locs ls hW hS hL
theorem wk_ishl (C : wk_C G p s m args c cc nL own Ts A) {x y : Int} (z : Int) (hz : Int32.ofInt x <<< (Int32.ofInt y &&& 31) = Int32.ofInt z) (hdg : decode cc pc = .ok (.ishl, 1)) (k : wk G p l e R s m args below meth c cells slots Q A H0 nL (pc + 1) lv (.inl z :: st) σ) : wk G p l e R s m args below meth c cells slots Q A H0 nL pc lv (.inl y :: .inl x :: st) σ := by
  intro H locs ls hW hS hL
  refine lv_ishl C.1 C.2.1 hdg ?_
  rw [hz]
  exact k H locs ls hW hS hL
theorem wk_ishr (C : wk_C G p s m args c cc nL own Ts A) {x y : Int} (z : Int) (hz : Int32.ofInt x >>> (Int32.ofInt y &&& 31) = Int32.ofInt z) (hdg : decode cc pc = .ok (.ishr, 1)) (k : wk G p l e R s m args below meth c cells slots Q A H0 nL (pc + 1) lv (.inl z :: st) σ) : wk G p l e R s m args below meth c cells slots Q A H0 nL pc lv (.inl y :: .inl x :: st) σ := by
  intro H locs ls hW hS hL
  refine lv_ishr C.1 C.2.1 hdg ?_
  rw [hz]
  exact k H locs ls hW hS hL
theorem wk_dup (C : wk_C G p s m args c cc nL own Ts A) {v : am_V} (hdg : decode cc pc = .ok (.dup, 1)) (k : wk G p l e R s m args below meth c cells slots Q A H0 nL (pc + 1) lv (v :: v :: st) σ) : wk G p l e R s m args below meth c cells slots Q A H0 nL pc lv (v :: st) σ := by
  intro H locs ls hW hS hL
  exact lv_dup C.1 C.2.1 hdg (am_cat G v) (k H locs ls hW hS hL)
theorem wk_dup2 (C : wk_C G p s m args c cc nL own Ts A) {v u : am_V} (hdg : decode cc pc = .ok (.dup2, 1)) (k : wk G p l e R s m args below meth c cells slots Q A H0 nL (pc + 1) lv (v :: u :: v :: u :: st) σ) : wk G p l e R s m args below meth c cells slots Q A H0 nL pc lv (v :: u :: st) σ := by
  intro H locs ls hW hS hL
  exact lv_dup2_11 C.1 C.2.1 hdg (am_cat G v) (am_cat G u) (k H locs ls hW hS hL)
theorem wk_pop (C : wk_C G p s m args c cc nL own Ts A) {v : am_V} (hdg : decode cc pc = .ok (.pop, 1)) (k : wk G p l e R s m args below meth c cells slots Q A H0 nL (pc + 1) lv st σ) : wk G p l e R s m args below meth c cells slots Q A H0 nL pc lv (v :: st) σ := by
  intro H locs ls hW hS hL
  exact lv_pop C.1 C.2.1 hdg (am_cat G v) (k H locs ls hW hS hL)
theorem wk_goto (C : wk_C G p s m args c cc nL own Ts A) {off : Int} (tgt : Nat) (ht : (pc : Int) + off = (tgt : Int)) (hdg : decode cc pc = .ok (.goto off, 3)) (k : wk G p l e R s m args below meth c cells slots Q A H0 nL tgt lv st σ) : wk G p l e R s m args below meth c cells slots Q A H0 nL pc lv st σ := by
  intro H locs ls hW hS hL
  exact lv_goto C.1 C.2.1 hdg ht (k H locs ls hW hS hL)
theorem wk_icmp_eq (C : wk_C G p s m args c cc nL own Ts A) {x y : Int} {off : Int} (tgt : Nat) (hx : -2147483648 ≤ x ∧ x < 2147483648) (hy : -2147483648 ≤ y ∧ y < 2147483648) (ht : (pc : Int) + off = (tgt : Int)) (hdg : decode cc pc = .ok (.if_icmp .eq off, 3)) (k1 : x = y → wk G p l e R s m args below meth c cells slots Q A H0 nL tgt lv st σ) (k2 : ¬ x = y → wk G p l e R s m args below meth c cells slots Q A H0 nL (pc + 3) lv st σ) : wk G p l e R s m args below meth c cells slots Q A H0 nL pc lv (.inl y :: .inl x :: st) σ := by
  intro H locs ls hW hS hL
  refine lv_icmp_eq C.1 C.2.1 hdg ht (fun h => ?_) (fun h => ?_)
  · exact k1 (by simp only [am_eq hx hy, am_lt hx hy, am_le hx hy, am_lt hy hx, am_le hy hx] at h; omega) H locs ls hW hS hL
  · exact k2 (by simp only [am_eq hx hy, am_lt hx hy, am_le hx hy, am_lt hy hx, am_le hy hx] at h; omega) H locs ls hW hS hL
theorem wk_if_eq (C : wk_C G p s m args c cc nL own Ts A) {x : Int} {off : Int} (tgt : Nat) (hx : -2147483648 ≤ x ∧ x < 2147483648) (ht : (pc : Int) + off = (tgt : Int)) (hdg : decode cc pc = .ok (.ifCond .eq off, 3)) (k1 : x = 0 → wk G p l e R s m args below meth c cells slots Q A H0 nL tgt lv st σ) (k2 : ¬ x = 0 → wk G p l e R s m args below meth c cells slots Q A H0 nL (pc + 3) lv st σ) : wk G p l e R s m args below meth c cells slots Q A H0 nL pc lv (.inl x :: st) σ := by
  intro H locs ls hW hS hL
  refine lv_if_eq C.1 C.2.1 hdg ht (fun h => ?_) (fun h => ?_)
  · exact k1 (by
      first
        | (rw [am_0] at h; simp only [am_eq hx ⟨(by omega : (-2147483648:Int) ≤ 0), (by omega : (0:Int) < 2147483648)⟩, am_lt hx ⟨(by omega : (-2147483648:Int) ≤ 0), (by omega : (0:Int) < 2147483648)⟩, am_le hx ⟨(by omega : (-2147483648:Int) ≤ 0), (by omega : (0:Int) < 2147483648)⟩, am_lt ⟨(by omega : (-2147483648:Int) ≤ 0), (by omega : (0:Int) < 2147483648)⟩ hx, am_le ⟨(by omega : (-2147483648:Int) ≤ 0), (by omega : (0:Int) < 2147483648)⟩ hx] at h; omega)) H locs ls hW hS hL
  · exact k2 (by
      first
        | (rw [am_0] at h; simp only [am_eq hx ⟨(by omega : (-2147483648:Int) ≤ 0), (by omega : (0:Int) < 2147483648)⟩, am_lt hx ⟨(by omega : (-2147483648:Int) ≤ 0), (by omega : (0:Int) < 2147483648)⟩, am_le hx ⟨(by omega : (-2147483648:Int) ≤ 0), (by omega : (0:Int) < 2147483648)⟩, am_lt ⟨(by omega : (-2147483648:Int) ≤ 0), (by omega : (0:Int) < 2147483648)⟩ hx, am_le ⟨(by omega : (-2147483648:Int) ≤ 0), (by omega : (0:Int) < 2147483648)⟩ hx] at h; omega)) H locs ls hW hS hL
theorem wk_icmp_ne (C : wk_C G p s m args c cc nL own Ts A) {x y : Int} {off : Int} (tgt : Nat) (hx : -2147483648 ≤ x ∧ x < 2147483648) (hy : -2147483648 ≤ y ∧ y < 2147483648) (ht : (pc : Int) + off = (tgt : Int)) (hdg : decode cc pc = .ok (.if_icmp .ne off, 3)) (k1 : ¬ x = y → wk G p l e R s m args below meth c cells slots Q A H0 nL tgt lv st σ) (k2 : x = y → wk G p l e R s m args below meth c cells slots Q A H0 nL (pc + 3) lv st σ) : wk G p l e R s m args below meth c cells slots Q A H0 nL pc lv (.inl y :: .inl x :: st) σ := by
  intro H locs ls hW hS hL
  refine lv_icmp_ne C.1 C.2.1 hdg ht (fun h => ?_) (fun h => ?_)
  · exact k1 (by simp only [am_eq hx hy, am_lt hx hy, am_le hx hy, am_lt hy hx, am_le hy hx] at h; omega) H locs ls hW hS hL
  · exact k2 (by simp only [am_eq hx hy, am_lt hx hy, am_le hx hy, am_lt hy hx, am_le hy hx] at h; omega) H locs ls hW hS hL
theorem wk_if_ne (C : wk_C G p s m args c cc nL own Ts A) {x : Int} {off : Int} (tgt : Nat) (hx : -2147483648 ≤ x ∧ x < 2147483648) (ht : (pc : Int) + off = (tgt : Int)) (hdg : decode cc pc = .ok (.ifCond .ne off, 3)) (k1 : ¬ x = 0 → wk G p l e R s m args below meth c cells slots Q A H0 nL tgt lv st σ) (k2 : x = 0 → wk G p l e R s m args below meth c cells slots Q A H0 nL (pc + 3) lv st σ) : wk G p l e R s m args below meth c cells slots Q A H0 nL pc lv (.inl x :: st) σ := by
  intro H locs ls hW hS hL
  refine lv_if_ne C.1 C.2.1 hdg ht (fun h => ?_) (fun h => ?_)
  · exact k1 (by
      first
        | (rw [am_0] at h; simp only [am_eq hx ⟨(by omega : (-2147483648:Int) ≤ 0), (by omega : (0:Int) < 2147483648)⟩, am_lt hx ⟨(by omega : (-2147483648:Int) ≤ 0), (by omega : (0:Int) < 2147483648)⟩, am_le hx ⟨(by omega : (-2147483648:Int) ≤ 0), (by omega : (0:Int) < 2147483648)⟩, am_lt ⟨(by omega : (-2147483648:Int) ≤ 0), (by omega : (0:Int) < 2147483648)⟩ hx, am_le ⟨(by omega : (-2147483648:Int) ≤ 0), (by omega : (0:Int) < 2147483648)⟩ hx] at h; omega)) H locs ls hW hS hL
  · exact k2 (by
      first
        | (rw [am_0] at h; simp only [am_eq hx ⟨(by omega : (-2147483648:Int) ≤ 0), (by omega : (0:Int) < 2147483648)⟩, am_lt hx ⟨(by omega : (-2147483648:Int) ≤ 0), (by omega : (0:Int) < 2147483648)⟩, am_le hx ⟨(by omega : (-2147483648:Int) ≤ 0), (by omega : (0:Int) < 2147483648)⟩, am_lt ⟨(by omega : (-2147483648:Int) ≤ 0), (by omega : (0:Int) < 2147483648)⟩ hx, am_le ⟨(by omega : (-2147483648:Int) ≤ 0), (by omega : (0:Int) < 2147483648)⟩ hx] at h; omega)) H locs ls hW hS hL
theorem wk_icmp_lt (C : wk_C G p s m args c cc nL own Ts A) {x y : Int} {off : Int} (tgt : Nat) (hx : -2147483648 ≤ x ∧ x < 2147483648) (hy : -2147483648 ≤ y ∧ y < 2147483648) (ht : (pc : Int) + off = (tgt : Int)) (hdg : decode cc pc = .ok (.if_icmp .lt off, 3)) (k1 : x < y → wk G p l e R s m args below meth c cells slots Q A H0 nL tgt lv st σ) (k2 : y ≤ x → wk G p l e R s m args below meth c cells slots Q A H0 nL (pc + 3) lv st σ) : wk G p l e R s m args below meth c cells slots Q A H0 nL pc lv (.inl y :: .inl x :: st) σ := by
  intro H locs ls hW hS hL
  refine lv_icmp_lt C.1 C.2.1 hdg ht (fun h => ?_) (fun h => ?_)
  · exact k1 (by simp only [am_eq hx hy, am_lt hx hy, am_le hx hy, am_lt hy hx, am_le hy hx] at h; omega) H locs ls hW hS hL
  · exact k2 (by simp only [am_eq hx hy, am_lt hx hy, am_le hx hy, am_lt hy hx, am_le hy hx] at h; omega) H locs ls hW hS hL
theorem wk_if_lt (C : wk_C G p s m args c cc nL own Ts A) {x : Int} {off : Int} (tgt : Nat) (hx : -2147483648 ≤ x ∧ x < 2147483648) (ht : (pc : Int) + off = (tgt : Int)) (hdg : decode cc pc = .ok (.ifCond .lt off, 3)) (k1 : x < 0 → wk G p l e R s m args below meth c cells slots Q A H0 nL tgt lv st σ) (k2 : 0 ≤ x → wk G p l e R s m args below meth c cells slots Q A H0 nL (pc + 3) lv st σ) : wk G p l e R s m args below meth c cells slots Q A H0 nL pc lv (.inl x :: st) σ := by
  intro H locs ls hW hS hL
  refine lv_if_lt C.1 C.2.1 hdg ht (fun h => ?_) (fun h => ?_)
  · exact k1 (by
      first
        | (rw [am_0] at h; simp only [am_eq hx ⟨(by omega : (-2147483648:Int) ≤ 0), (by omega : (0:Int) < 2147483648)⟩, am_lt hx ⟨(by omega : (-2147483648:Int) ≤ 0), (by omega : (0:Int) < 2147483648)⟩, am_le hx ⟨(by omega : (-2147483648:Int) ≤ 0), (by omega : (0:Int) < 2147483648)⟩, am_lt ⟨(by omega : (-2147483648:Int) ≤ 0), (by omega : (0:Int) < 2147483648)⟩ hx, am_le ⟨(by omega : (-2147483648:Int) ≤ 0), (by omega : (0:Int) < 2147483648)⟩ hx] at h; omega)) H locs ls hW hS hL
  · exact k2 (by
      first
        | (rw [am_0] at h; simp only [am_eq hx ⟨(by omega : (-2147483648:Int) ≤ 0), (by omega : (0:Int) < 2147483648)⟩, am_lt hx ⟨(by omega : (-2147483648:Int) ≤ 0), (by omega : (0:Int) < 2147483648)⟩, am_le hx ⟨(by omega : (-2147483648:Int) ≤ 0), (by omega : (0:Int) < 2147483648)⟩, am_lt ⟨(by omega : (-2147483648:Int) ≤ 0), (by omega : (0:Int) < 2147483648)⟩ hx, am_le ⟨(by omega : (-2147483648:Int) ≤ 0), (by omega : (0:Int) < 2147483648)⟩ hx] at h; omega)) H locs ls hW hS hL
theorem wk_icmp_ge (C : wk_C G p s m args c cc nL own Ts A) {x y : Int} {off : Int} (tgt : Nat) (hx : -2147483648 ≤ x ∧ x < 2147483648) (hy : -2147483648 ≤ y ∧ y < 2147483648) (ht : (pc : Int) + off = (tgt : Int)) (hdg : decode cc pc = .ok (.if_icmp .ge off, 3)) (k1 : y ≤ x → wk G p l e R s m args below meth c cells slots Q A H0 nL tgt lv st σ) (k2 : x < y → wk G p l e R s m args below meth c cells slots Q A H0 nL (pc + 3) lv st σ) : wk G p l e R s m args below meth c cells slots Q A H0 nL pc lv (.inl y :: .inl x :: st) σ := by
  intro H locs ls hW hS hL
  refine lv_icmp_ge C.1 C.2.1 hdg ht (fun h => ?_) (fun h => ?_)
  · exact k1 (by simp only [am_eq hx hy, am_lt hx hy, am_le hx hy, am_lt hy hx, am_le hy hx] at h; omega) H locs ls hW hS hL
  · exact k2 (by simp only [am_eq hx hy, am_lt hx hy, am_le hx hy, am_lt hy hx, am_le hy hx] at h; omega) H locs ls hW hS hL
theorem wk_if_ge (C : wk_C G p s m args c cc nL own Ts A) {x : Int} {off : Int} (tgt : Nat) (hx : -2147483648 ≤ x ∧ x < 2147483648) (ht : (pc : Int) + off = (tgt : Int)) (hdg : decode cc pc = .ok (.ifCond .ge off, 3)) (k1 : 0 ≤ x → wk G p l e R s m args below meth c cells slots Q A H0 nL tgt lv st σ) (k2 : x < 0 → wk G p l e R s m args below meth c cells slots Q A H0 nL (pc + 3) lv st σ) : wk G p l e R s m args below meth c cells slots Q A H0 nL pc lv (.inl x :: st) σ := by
  intro H locs ls hW hS hL
  refine lv_if_ge C.1 C.2.1 hdg ht (fun h => ?_) (fun h => ?_)
  · exact k1 (by
      first
        | (rw [am_0] at h; simp only [am_eq hx ⟨(by omega : (-2147483648:Int) ≤ 0), (by omega : (0:Int) < 2147483648)⟩, am_lt hx ⟨(by omega : (-2147483648:Int) ≤ 0), (by omega : (0:Int) < 2147483648)⟩, am_le hx ⟨(by omega : (-2147483648:Int) ≤ 0), (by omega : (0:Int) < 2147483648)⟩, am_lt ⟨(by omega : (-2147483648:Int) ≤ 0), (by omega : (0:Int) < 2147483648)⟩ hx, am_le ⟨(by omega : (-2147483648:Int) ≤ 0), (by omega : (0:Int) < 2147483648)⟩ hx] at h; omega)) H locs ls hW hS hL
  · exact k2 (by
      first
        | (rw [am_0] at h; simp only [am_eq hx ⟨(by omega : (-2147483648:Int) ≤ 0), (by omega : (0:Int) < 2147483648)⟩, am_lt hx ⟨(by omega : (-2147483648:Int) ≤ 0), (by omega : (0:Int) < 2147483648)⟩, am_le hx ⟨(by omega : (-2147483648:Int) ≤ 0), (by omega : (0:Int) < 2147483648)⟩, am_lt ⟨(by omega : (-2147483648:Int) ≤ 0), (by omega : (0:Int) < 2147483648)⟩ hx, am_le ⟨(by omega : (-2147483648:Int) ≤ 0), (by omega : (0:Int) < 2147483648)⟩ hx] at h; omega)) H locs ls hW hS hL
theorem wk_icmp_gt (C : wk_C G p s m args c cc nL own Ts A) {x y : Int} {off : Int} (tgt : Nat) (hx : -2147483648 ≤ x ∧ x < 2147483648) (hy : -2147483648 ≤ y ∧ y < 2147483648) (ht : (pc : Int) + off = (tgt : Int)) (hdg : decode cc pc = .ok (.if_icmp .gt off, 3)) (k1 : y < x → wk G p l e R s m args below meth c cells slots Q A H0 nL tgt lv st σ) (k2 : x ≤ y → wk G p l e R s m args below meth c cells slots Q A H0 nL (pc + 3) lv st σ) : wk G p l e R s m args below meth c cells slots Q A H0 nL pc lv (.inl y :: .inl x :: st) σ := by
  intro H locs ls hW hS hL
  refine lv_icmp_gt C.1 C.2.1 hdg ht (fun h => ?_) (fun h => ?_)
  · exact k1 (by simp only [am_eq hx hy, am_lt hx hy, am_le hx hy, am_lt hy hx, am_le hy hx] at h; omega) H locs ls hW hS hL
  · exact k2 (by simp only [am_eq hx hy, am_lt hx hy, am_le hx hy, am_lt hy hx, am_le hy hx] at h; omega) H locs ls hW hS hL
theorem wk_if_gt (C : wk_C G p s m args c cc nL own Ts A) {x : Int} {off : Int} (tgt : Nat) (hx : -2147483648 ≤ x ∧ x < 2147483648) (ht : (pc : Int) + off = (tgt : Int)) (hdg : decode cc pc = .ok (.ifCond .gt off, 3)) (k1 : 0 < x → wk G p l e R s m args below meth c cells slots Q A H0 nL tgt lv st σ) (k2 : x ≤ 0 → wk G p l e R s m args below meth c cells slots Q A H0 nL (pc + 3) lv st σ) : wk G p l e R s m args below meth c cells slots Q A H0 nL pc lv (.inl x :: st) σ := by
  intro H locs ls hW hS hL
  refine lv_if_gt C.1 C.2.1 hdg ht (fun h => ?_) (fun h => ?_)
  · exact k1 (by
      first
        | (rw [am_0] at h; simp only [am_eq hx ⟨(by omega : (-2147483648:Int) ≤ 0), (by omega : (0:Int) < 2147483648)⟩, am_lt hx ⟨(by omega : (-2147483648:Int) ≤ 0), (by omega : (0:Int) < 2147483648)⟩, am_le hx ⟨(by omega : (-2147483648:Int) ≤ 0), (by omega : (0:Int) < 2147483648)⟩, am_lt ⟨(by omega : (-2147483648:Int) ≤ 0), (by omega : (0:Int) < 2147483648)⟩ hx, am_le ⟨(by omega : (-2147483648:Int) ≤ 0), (by omega : (0:Int) < 2147483648)⟩ hx] at h; omega)) H locs ls hW hS hL
  · exact k2 (by
      first
        | (rw [am_0] at h; simp only [am_eq hx ⟨(by omega : (-2147483648:Int) ≤ 0), (by omega : (0:Int) < 2147483648)⟩, am_lt hx ⟨(by omega : (-2147483648:Int) ≤ 0), (by omega : (0:Int) < 2147483648)⟩, am_le hx ⟨(by omega : (-2147483648:Int) ≤ 0), (by omega : (0:Int) < 2147483648)⟩, am_lt ⟨(by omega : (-2147483648:Int) ≤ 0), (by omega : (0:Int) < 2147483648)⟩ hx, am_le ⟨(by omega : (-2147483648:Int) ≤ 0), (by omega : (0:Int) < 2147483648)⟩ hx] at h; omega)) H locs ls hW hS hL
theorem wk_icmp_le (C : wk_C G p s m args c cc nL own Ts A) {x y : Int} {off : Int} (tgt : Nat) (hx : -2147483648 ≤ x ∧ x < 2147483648) (hy : -2147483648 ≤ y ∧ y < 2147483648) (ht : (pc : Int) + off = (tgt : Int)) (hdg : decode cc pc = .ok (.if_icmp .le off, 3)) (k1 : x ≤ y → wk G p l e R s m args below meth c cells slots Q A H0 nL tgt lv st σ) (k2 : y < x → wk G p l e R s m args below meth c cells slots Q A H0 nL (pc + 3) lv st σ) : wk G p l e R s m args below meth c cells slots Q A H0 nL pc lv (.inl y :: .inl x :: st) σ := by
  intro H locs ls hW hS hL
  refine lv_icmp_le C.1 C.2.1 hdg ht (fun h => ?_) (fun h => ?_)
  · exact k1 (by simp only [am_eq hx hy, am_lt hx hy, am_le hx hy, am_lt hy hx, am_le hy hx] at h; omega) H locs ls hW hS hL
  · exact k2 (by simp only [am_eq hx hy, am_lt hx hy, am_le hx hy, am_lt hy hx, am_le hy hx] at h; omega) H locs ls hW hS hL
theorem wk_if_le (C : wk_C G p s m args c cc nL own Ts A) {x : Int} {off : Int} (tgt : Nat) (hx : -2147483648 ≤ x ∧ x < 2147483648) (ht : (pc : Int) + off = (tgt : Int)) (hdg : decode cc pc = .ok (.ifCond .le off, 3)) (k1 : x ≤ 0 → wk G p l e R s m args below meth c cells slots Q A H0 nL tgt lv st σ) (k2 : 0 < x → wk G p l e R s m args below meth c cells slots Q A H0 nL (pc + 3) lv st σ) : wk G p l e R s m args below meth c cells slots Q A H0 nL pc lv (.inl x :: st) σ := by
  intro H locs ls hW hS hL
  refine lv_if_le C.1 C.2.1 hdg ht (fun h => ?_) (fun h => ?_)
  · exact k1 (by
      first
        | (rw [am_0] at h; simp only [am_eq hx ⟨(by omega : (-2147483648:Int) ≤ 0), (by omega : (0:Int) < 2147483648)⟩, am_lt hx ⟨(by omega : (-2147483648:Int) ≤ 0), (by omega : (0:Int) < 2147483648)⟩, am_le hx ⟨(by omega : (-2147483648:Int) ≤ 0), (by omega : (0:Int) < 2147483648)⟩, am_lt ⟨(by omega : (-2147483648:Int) ≤ 0), (by omega : (0:Int) < 2147483648)⟩ hx, am_le ⟨(by omega : (-2147483648:Int) ≤ 0), (by omega : (0:Int) < 2147483648)⟩ hx] at h; omega)) H locs ls hW hS hL
  · exact k2 (by
      first
        | (rw [am_0] at h; simp only [am_eq hx ⟨(by omega : (-2147483648:Int) ≤ 0), (by omega : (0:Int) < 2147483648)⟩, am_lt hx ⟨(by omega : (-2147483648:Int) ≤ 0), (by omega : (0:Int) < 2147483648)⟩, am_le hx ⟨(by omega : (-2147483648:Int) ≤ 0), (by omega : (0:Int) < 2147483648)⟩, am_lt ⟨(by omega : (-2147483648:Int) ≤ 0), (by omega : (0:Int) < 2147483648)⟩ hx, am_le ⟨(by omega : (-2147483648:Int) ≤ 0), (by omega : (0:Int) < 2147483648)⟩ hx] at h; omega)) H locs ls hW hS hL
theorem am_one {G : am_G} {σ : am_M} {H : Heap} (h : am_wd G σ H) {k i : Nat} (hi : i < G.2.2.2.1 k) {E : va_E} (hE : am_cell G (G.2.2.2.2 k i) (σ k i) = E) : va_P G.1 vwCl [(G.2.2.1 k i, E)] H := by
  intro n q hq
  match n, hq with
  | 0, hq => cases hq; rw [← hE]; exact h k i hi
theorem wk_geti (C : wk_C G p s m args c cc nL own Ts A) {k i ci j : Nat} {sl : List (Option (Nat × Nat))} {Cn : String} {T : u_T} {N index : Nat} (hsh : G.2.2.2.2 k i = .inl (ci, sl)) (hi : i < G.2.2.2.1 k) (hc : vwCl[ci]? = some (Cn, T, N)) (hin : ∀ w ∈ u_ws Cn T N, w ∈ Ts) (hj : j < N) (hlink : (Cond.fieldLink own index (T j).1 (T j).2.1 (T j).2.2.1) ∈ Ts) (hsl : sl[j]? = some none) (hdg : decode cc pc = .ok (.getfield index, 3)) (kk : wk G p l e R s m args below meth c cells slots Q A H0 nL (pc + 3) lv (.inl (σ k i j) :: st) σ) : wk G p l e R s m args below meth c cells slots Q A H0 nL pc lv (.inr (k, i) :: st) σ := by
  intro H locs ls hW hS hL
  refine va_get (D := G.1) (cl := vwCl) (ws := [(G.2.2.1 k i, .inr (ci, (am_sv (σ k i) 0 sl).map (am_tv G)))]) (ci := ci) (C := Cn) (T := T) (N := N) (v := am_tv G (.inl (σ k i j))) C.1 C.2.1 C.2.2.2.2.1 hin C.2.2.2.1 C.2.2.2.2.2.1.1 (am_one hW hi (by rw [hsh]; rfl)) 0 rfl hc j hj (C.2.2.2.2.1 _ hlink) (fun _ h => h) ?_ hdg (kk H locs ls hW hS hL)
  rw [List.getElem?_map, am_sv_get, hsl]
  simp [am_sl]
theorem wk_getr (C : wk_C G p s m args c cc nL own Ts A) {k i ci j : Nat} {sl : List (Option (Nat × Nat))} {Cn : String} {T : u_T} {N index : Nat} {q : Nat × Nat} (hsh : G.2.2.2.2 k i = .inl (ci, sl)) (hi : i < G.2.2.2.1 k) (hc : vwCl[ci]? = some (Cn, T, N)) (hin : ∀ w ∈ u_ws Cn T N, w ∈ Ts) (hj : j < N) (hlink : (Cond.fieldLink own index (T j).1 (T j).2.1 (T j).2.2.1) ∈ Ts) (hsl : sl[j]? = some (some q)) (hdg : decode cc pc = .ok (.getfield index, 3)) (kk : wk G p l e R s m args below meth c cells slots Q A H0 nL (pc + 3) lv (.inr q :: st) σ) : wk G p l e R s m args below meth c cells slots Q A H0 nL pc lv (.inr (k, i) :: st) σ := by
  intro H locs ls hW hS hL
  refine va_get (D := G.1) (cl := vwCl) (ws := [(G.2.2.1 k i, .inr (ci, (am_sv (σ k i) 0 sl).map (am_tv G)))]) (ci := ci) (C := Cn) (T := T) (N := N) (v := am_tv G (.inr q)) C.1 C.2.1 C.2.2.2.2.1 hin C.2.2.2.1 C.2.2.2.2.2.1.1 (am_one hW hi (by rw [hsh]; rfl)) 0 rfl hc j hj (C.2.2.2.2.1 _ hlink) (fun _ h => h) ?_ hdg (kk H locs ls hW hS hL)
  rw [List.getElem?_map, am_sv_get, hsl]
  simp [am_sl]
theorem wk_getiN (C : wk_C G p s m args c cc nL own Ts A) {k i ci j : Nat} {sl : List (Option (Nat × Nat))} {Cn : String} {T : u_T} {N index : Nat} {host : String} (hsh : G.2.2.2.2 k i = .inl (ci, sl)) (hi : i < G.2.2.2.1 k) (hc : vwCl[ci]? = some (Cn, T, N)) (hin : ∀ w ∈ u_ws Cn T N, w ∈ Ts) (hj : j < N) (hlink : (Cond.fieldLinkNest own index (T j).1 (T j).2.1 (T j).2.2.1 host) ∈ am_nest) (hsl : sl[j]? = some none) (hdg : decode cc pc = .ok (.getfield index, 3)) (kk : wk G p l e R s m args below meth c cells slots Q A H0 nL (pc + 3) lv (.inl (σ k i j) :: st) σ) : wk G p l e R s m args below meth c cells slots Q A H0 nL pc lv (.inr (k, i) :: st) σ := by
  intro H locs ls hW hS hL
  refine va_getN (D := G.1) (cl := vwCl) (ws := [(G.2.2.1 k i, .inr (ci, (am_sv (σ k i) 0 sl).map (am_tv G)))]) (ci := ci) (C := Cn) (T := T) (N := N) (v := am_tv G (.inl (σ k i j))) C.1 C.2.1 C.2.2.2.2.1 hin C.2.2.2.1 C.2.2.2.2.2.1.1 (am_one hW hi (by rw [hsh]; rfl)) 0 rfl hc j hj (va_Nw.use rfl (C.2.2.2.2.2.1.2 _ hlink)) (fun _ h => h) ?_ hdg (kk H locs ls hW hS hL)
  rw [List.getElem?_map, am_sv_get, hsl]
  simp [am_sl]
theorem wk_getrN (C : wk_C G p s m args c cc nL own Ts A) {k i ci j : Nat} {sl : List (Option (Nat × Nat))} {Cn : String} {T : u_T} {N index : Nat} {host : String} {q : Nat × Nat} (hsh : G.2.2.2.2 k i = .inl (ci, sl)) (hi : i < G.2.2.2.1 k) (hc : vwCl[ci]? = some (Cn, T, N)) (hin : ∀ w ∈ u_ws Cn T N, w ∈ Ts) (hj : j < N) (hlink : (Cond.fieldLinkNest own index (T j).1 (T j).2.1 (T j).2.2.1 host) ∈ am_nest) (hsl : sl[j]? = some (some q)) (hdg : decode cc pc = .ok (.getfield index, 3)) (kk : wk G p l e R s m args below meth c cells slots Q A H0 nL (pc + 3) lv (.inr q :: st) σ) : wk G p l e R s m args below meth c cells slots Q A H0 nL pc lv (.inr (k, i) :: st) σ := by
  intro H locs ls hW hS hL
  refine va_getN (D := G.1) (cl := vwCl) (ws := [(G.2.2.1 k i, .inr (ci, (am_sv (σ k i) 0 sl).map (am_tv G)))]) (ci := ci) (C := Cn) (T := T) (N := N) (v := am_tv G (.inr q)) C.1 C.2.1 C.2.2.2.2.1 hin C.2.2.2.1 C.2.2.2.2.2.1.1 (am_one hW hi (by rw [hsh]; rfl)) 0 rfl hc j hj (va_Nw.use rfl (C.2.2.2.2.2.1.2 _ hlink)) (fun _ h => h) ?_ hdg (kk H locs ls hW hS hL)
  rw [List.getElem?_map, am_sv_get, hsl]
  simp [am_sl]
theorem wk_put (C : wk_C G p s m args c cc nL own Ts A) {k i ci j : Nat} {x : Int} {sl : List (Option (Nat × Nat))} {Cn : String} {T : u_T} {N index : Nat} (hsh : G.2.2.2.2 k i = .inl (ci, sl)) (hi : i < G.2.2.2.1 k) (hc : vwCl[ci]? = some (Cn, T, N)) (hin : ∀ w ∈ u_ws Cn T N, w ∈ Ts) (ty0 : Nat → FieldType) (hty : ∀ k, k < N → parseFieldDescriptor (T k).2.2.1 = some (ty0 k)) (hnm : ∀ a, a < N → ∀ b, b < N → a ≠ b → (T a).2.1 ≠ (T b).2.1) (hj : j < N) (hlink : (Cond.fieldLink own index (T j).1 (T j).2.1 (T j).2.2.1) ∈ Ts) (hsl : sl[j]? = some none) (hfin : (T j).2.2.2 = false) (hd : parseFieldDescriptor (T j).2.2.1 = some .int) (hdg : decode cc pc = .ok (.putfield index, 3)) (kk : wk G p l e R s m args below meth c cells slots Q A H0 nL (pc + 3) lv st (am_up σ k i j x)) : wk G p l e R s m args below meth c cells slots Q A H0 nL pc lv (.inl x :: .inr (k, i) :: st) σ := by
  intro H locs ls hW hS hL
  have hK := C.2.2.2.2.2.1.1
  have hts := C.2.2.2.2.1
  have hap := va_apart (own := own) (D := G.1) (cl := vwCl) (tys := am_tyl G.2.1) hts hin ty0 hty hnm hK hc
  have hat := hW k i hi
  have hcell : am_cell G (G.2.2.2.2 k i) (σ k i) = .inr (ci, (am_sv (σ k i) 0 sl).map (am_tv G)) := by rw [hsh]; rfl
  rw [hcell] at hat
  obtain ⟨r, h1, cell, q1, q2, q3, q4⟩ := hat
  have hr : r = (Cn, T, N) := Option.some.inj (h1.symm.trans hc)
  subst hr
  obtain ⟨hSl, hfc, kC, hkC, hkind⟩ := hK.1 ci _ hc
  obtain ⟨cf, kf, fi, f, hi2, hsl2⟩ := hSl j hj
  have hlay := hts _ (hin _ (u_in_lay hj))
  unfold u_lay at hlay
  rw [if_neg (by rw [hfin]; decide)] at hlay
  have hst := (u_facts hfc hkC (u_lays hts hin hj) hi2).1
  have h6 := u_store (v := .int (Int32.ofInt x)) hfc hkC hkind hlay hi2 hd rfl rfl
  refine W.putK C.1 C.2.1 (f := f) ⟨C.2.2.2.1, (C.2.2.2.2.1 _ hlink), ⟨_, _, _, hi2⟩, hst⟩ (by rw [q2]; exact h6) q1 q3 (by rw [hsl2]; exact k2_hasslot (q4 j hj)) rfl rfl hdg fun H' e1 e2 e3 => ?_
  rw [hsl2] at e1 ⊢
  have hl : j < ((am_sv (σ k i) 0 sl).map (am_tv G)).length := by
    rw [List.length_map, am_sv_len]; exact (List.getElem?_eq_some_iff.mp hsl).1
  refine kk H' _ ls (hW.put C.2.2.2.2.2.2.1 hi ?_ e3) (hS.put e2 e3 (C.2.2.2.2.2.2.2 _ ⟨k, i, hi, rfl⟩)) hL
  rw [hsh]
  show va_at G.1 vwCl (_, .inr (ci, (am_sv (am_u1 (σ k i) j x) 0 sl).map (am_tv G))) H'
  rw [← am_sv_set _ _ _ _ hsl, List.map_set]
  exact ⟨_, hc, t_OB.to (V := updV (vp_V ((am_sv (σ k i) 0 sl).map (am_tv G))) j (am_tv G (.inl x))) ⟨_, e1, q2, q3, t_set q4 hap hj _⟩ (fun jj _ => vp_updV_set hl (am_tv G (.inl x)) jj)⟩
theorem wk_putN (C : wk_C G p s m args c cc nL own Ts A) {k i ci j : Nat} {x : Int} {sl : List (Option (Nat × Nat))} {Cn : String} {T : u_T} {N index : Nat} {host : String} (hsh : G.2.2.2.2 k i = .inl (ci, sl)) (hi : i < G.2.2.2.1 k) (hc : vwCl[ci]? = some (Cn, T, N)) (hin : ∀ w ∈ u_ws Cn T N, w ∈ Ts) (ty0 : Nat → FieldType) (hty : ∀ k, k < N → parseFieldDescriptor (T k).2.2.1 = some (ty0 k)) (hnm : ∀ a, a < N → ∀ b, b < N → a ≠ b → (T a).2.1 ≠ (T b).2.1) (hj : j < N) (hlink : (Cond.fieldLinkNest own index (T j).1 (T j).2.1 (T j).2.2.1 host) ∈ am_nest) (hsl : sl[j]? = some none) (hfin : (T j).2.2.2 = false) (hd : parseFieldDescriptor (T j).2.2.1 = some .int) (hdg : decode cc pc = .ok (.putfield index, 3)) (kk : wk G p l e R s m args below meth c cells slots Q A H0 nL (pc + 3) lv st (am_up σ k i j x)) : wk G p l e R s m args below meth c cells slots Q A H0 nL pc lv (.inl x :: .inr (k, i) :: st) σ := by
  intro H locs ls hW hS hL
  have hK := C.2.2.2.2.2.1.1
  have hts := C.2.2.2.2.1
  have hap := va_apart (own := own) (D := G.1) (cl := vwCl) (tys := am_tyl G.2.1) hts hin ty0 hty hnm hK hc
  have hat := hW k i hi
  have hcell : am_cell G (G.2.2.2.2 k i) (σ k i) = .inr (ci, (am_sv (σ k i) 0 sl).map (am_tv G)) := by rw [hsh]; rfl
  rw [hcell] at hat
  obtain ⟨r, h1, cell, q1, q2, q3, q4⟩ := hat
  have hr : r = (Cn, T, N) := Option.some.inj (h1.symm.trans hc)
  subst hr
  obtain ⟨hSl, hfc, kC, hkC, hkind⟩ := hK.1 ci _ hc
  obtain ⟨cf, kf, fi, f, hi2, hsl2⟩ := hSl j hj
  have hlay := hts _ (hin _ (u_in_lay hj))
  unfold u_lay at hlay
  rw [if_neg (by rw [hfin]; decide)] at hlay
  have hst := (u_facts hfc hkC (u_lays hts hin hj) hi2).1
  have h6 := u_store (v := .int (Int32.ofInt x)) hfc hkC hkind hlay hi2 hd rfl rfl
  refine va_WputK C.1 C.2.1 (f := f) C.2.2.2.1 (va_Nw.use rfl (C.2.2.2.2.2.1.2 _ hlink)) hi2 hst (by rw [q2]; exact h6) q1 q3 (by rw [hsl2]; exact k2_hasslot (q4 j hj)) rfl rfl hdg fun H' e1 e2 e3 => ?_
  rw [hsl2] at e1 ⊢
  have hl : j < ((am_sv (σ k i) 0 sl).map (am_tv G)).length := by
    rw [List.length_map, am_sv_len]; exact (List.getElem?_eq_some_iff.mp hsl).1
  refine kk H' _ ls (hW.put C.2.2.2.2.2.2.1 hi ?_ e3) (hS.put e2 e3 (C.2.2.2.2.2.2.2 _ ⟨k, i, hi, rfl⟩)) hL
  rw [hsh]
  show va_at G.1 vwCl (_, .inr (ci, (am_sv (am_u1 (σ k i) j x) 0 sl).map (am_tv G))) H'
  rw [← am_sv_set _ _ _ _ hsl, List.map_set]
  exact ⟨_, hc, t_OB.to (V := updV (vp_V ((am_sv (σ k i) 0 sl).map (am_tv G))) j (am_tv G (.inl x))) ⟨_, e1, q2, q3, t_set q4 hap hj _⟩ (fun jj _ => vp_updV_set hl (am_tv G (.inl x)) jj)⟩
theorem wk_iald (C : wk_C G p s m args c cc nL own Ts A) {k i n : Nat} {a : Int} (hsh : G.2.2.2.2 k i = .inr (.inl (0, n))) (hi : i < G.2.2.2.1 k) (hn : n < 2147483648) (j : Nat) (ha : a = (j : Int)) (hj : j < n) (hdg : decode cc pc = .ok (.iaload, 1)) (kk : wk G p l e R s m args below meth c cells slots Q A H0 nL (pc + 1) lv (.inl (σ k i j) :: st) σ) : wk G p l e R s m args below meth c cells slots Q A H0 nL pc lv (.inl a :: .inr (k, i) :: st) σ := by
  intro H locs ls hW hS hL
  subst ha
  refine va_iald (D := G.1) (cl := vwCl) (tys := am_tyl G.2.1) C.1 C.2.1 C.2.2.2.2.2.1.1 (am_one hW hi (E := .inl (G.2.1 0, n, .inl (fun j => Int32.ofInt (σ k i j)))) (by rw [hsh]; rfl)) 0 0 rfl rfl (am_in (by omega) (by omega) hn) hdg ?_
  rw [am_cl (by omega) (by omega), Int.toNat_natCast]
  exact kk H locs ls hW hS hL
theorem wk_aald (C : wk_C G p s m args c cc nL own Ts A) {k i n t : Nat} {C2 : String} {rf : Nat → Nat × Nat} {a : Int} (hsh : G.2.2.2.2 k i = .inr (.inr (t, n, rf))) (ht : (am_tyl G.2.1)[t]? = some (G.2.1 t, .object C2)) (hi : i < G.2.2.2.1 k) (hn : n < 2147483648) (j : Nat) (ha : a = (j : Int)) (hj : j < n) (hdg : decode cc pc = .ok (.aaload, 1)) (kk : wk G p l e R s m args below meth c cells slots Q A H0 nL (pc + 1) lv (.inr (rf j) :: st) σ) : wk G p l e R s m args below meth c cells slots Q A H0 nL pc lv (.inl a :: .inr (k, i) :: st) σ := by
  intro H locs ls hW hS hL
  subst ha
  refine va_aldq (D := G.1) (cl := vwCl) (tys := am_tyl G.2.1) C.1 C.2.1 C.2.2.2.2.2.1.1 (am_one hW hi (E := .inl (G.2.1 t, n, .inr (.inr (.inr (.inr (fun j => some (G.2.2.1 (rf j).1 (rf j).2))))))) (by rw [hsh]; rfl)) 0 t rfl ht (am_in (by omega) (by omega) hn) hdg ?_
  rw [am_cl (by omega) (by omega), Int.toNat_natCast]
  exact kk H locs ls hW hS hL
theorem wk_alenI (C : wk_C G p s m args c cc nL own Ts A) {k i n t : Nat} {ty : FieldType} (hsh : G.2.2.2.2 k i = .inr (.inl (t, n))) (ht : (am_tyl G.2.1)[t]? = some (G.2.1 t, ty)) (hi : i < G.2.2.2.1 k) (hdg : decode cc pc = .ok (.arraylength, 1)) (kk : wk G p l e R s m args below meth c cells slots Q A H0 nL (pc + 1) lv (.inl (n : Int) :: st) σ) : wk G p l e R s m args below meth c cells slots Q A H0 nL pc lv (.inr (k, i) :: st) σ := by
  intro H locs ls hW hS hL
  exact va_alen (D := G.1) (cl := vwCl) (tys := am_tyl G.2.1) C.1 C.2.1 C.2.2.2.2.2.1.1 (am_one hW hi (E := .inl (G.2.1 t, n, .inl (fun j => Int32.ofInt (σ k i j)))) (by rw [hsh]; rfl)) 0 t rfl ht (v := Int32.ofInt (n : Int)) rfl hdg (kk H locs ls hW hS hL)
theorem wk_alenR (C : wk_C G p s m args c cc nL own Ts A) {k i n t : Nat} {rf : Nat → Nat × Nat} {ty : FieldType} (hsh : G.2.2.2.2 k i = .inr (.inr (t, n, rf))) (ht : (am_tyl G.2.1)[t]? = some (G.2.1 t, ty)) (hi : i < G.2.2.2.1 k) (hdg : decode cc pc = .ok (.arraylength, 1)) (kk : wk G p l e R s m args below meth c cells slots Q A H0 nL (pc + 1) lv (.inl (n : Int) :: st) σ) : wk G p l e R s m args below meth c cells slots Q A H0 nL pc lv (.inr (k, i) :: st) σ := by
  intro H locs ls hW hS hL
  exact va_alen (D := G.1) (cl := vwCl) (tys := am_tyl G.2.1) C.1 C.2.1 C.2.2.2.2.2.1.1 (am_one hW hi (E := .inl (G.2.1 t, n, .inr (.inr (.inr (.inr (fun j => some (G.2.2.1 (rf j).1 (rf j).2))))))) (by rw [hsh]; rfl)) 0 t rfl ht (v := Int32.ofInt (n : Int)) rfl hdg (kk H locs ls hW hS hL)
theorem am_updI (f : Nat → Int) (j : Nat) (x : Int) : upd (fun j => Int32.ofInt (f j)) j (Int32.ofInt x) = fun j' => Int32.ofInt (am_u1 f j x j') := by
  funext j'
  simp only [upd, am_u1]
  split <;> rfl
theorem wk_iast (C : wk_C G p s m args c cc nL own Ts A) {k i n : Nat} {a x : Int} (hsh : G.2.2.2.2 k i = .inr (.inl (0, n))) (hi : i < G.2.2.2.1 k) (hn : n < 2147483648) (j : Nat) (ha : a = (j : Int)) (hj : j < n) (hdg : decode cc pc = .ok (.iastore, 1)) (kk : wk G p l e R s m args below meth c cells slots Q A H0 nL (pc + 1) lv st (am_up σ k i j x)) : wk G p l e R s m args below meth c cells slots Q A H0 nL pc lv (.inl x :: .inl a :: .inr (k, i) :: st) σ := by
  intro H locs ls hW hS hL
  subst ha
  have hP := am_one hW hi (E := .inl (G.2.1 0, n, .inl (fun j => Int32.ofInt (σ k i j)))) (by rw [hsh]; rfl)
  refine W.iast C.1 C.2.1 (hP 0 _ rfl) ((C.2.2.2.2.2.1.1.2 0 _ rfl).1 n (fun j => .int (Int32.ofInt (σ k i j)))) (fun q => by cases q) (by show ¬ (_ < 0 ∨ (arrV _ _ _).slots.size ≤ _); rw [arrV_size]; exact am_in (x := (j : Int)) (n := n) (by omega) (by omega) hn) rfl rfl hdg fun H1 e z oq => ?_
  refine kk H1 _ ls (hW.put C.2.2.2.2.2.2.1 hi ?_ oq) (hS.put z oq (C.2.2.2.2.2.2.2 _ ⟨k, i, hi, rfl⟩)) hL
  rw [hsh]
  show H1[_]? = some (vp_cell _ _)
  rw [e, am_cl (by omega) (by omega), Int.toNat_natCast]
  show _ = some (vp_cell (G.2.1 0) (n, .inl (fun j' => Int32.ofInt (am_u1 (σ k i) j x j'))))
  rw [← am_updI, vp_cell_i, vp_cell_i, arrV_store]
  congr 2
  funext q
  by_cases hq : q = j
  · subst hq
    simp [updV, upd]
  · simp [updV, upd, hq]
end WK
