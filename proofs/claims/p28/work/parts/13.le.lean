/-- fewer locals: by the lists -/
def am_lz : List (Option am_V) → List (Option am_V) → Prop
  | [], _ => True
  | none :: r, [] => am_lz r []
  | none :: r, _ :: r' => am_lz r r'
  | some _ :: _, [] => False
  | some v :: r, some w :: r' => v = w ∧ am_lz r r'
  | some _ :: _, none :: _ => False
theorem le_0 {l : List (Option am_V)} : am_lz [] l := by cases l <;> exact True.intro
theorem le_n {r r' : List (Option am_V)} {x : Option am_V} (h : am_lz r r') : am_lz (none :: r) (x :: r') := h
theorem le_s {r r' : List (Option am_V)} {v : am_V} (h : am_lz r r') : am_lz (some v :: r) (some v :: r') := ⟨rfl, h⟩
theorem am_lz_get : ∀ (lw lv : List (Option am_V)), am_lz lw lv → ∀ (j : Nat) (v : am_V), lw[j]? = some (some v) → lv[j]? = some (some v)
  | [], _, _, j, v, h => by simp at h
  | none :: r, [], h, 0, v, e => by simp at e
  | none :: r, [], h, j + 1, v, e => by
    have := am_lz_get r [] h j v (by simpa using e)
    simp at this
  | none :: r, x :: r', h, 0, v, e => by simp at e
  | none :: r, x :: r', h, j + 1, v, e => by simpa using am_lz_get r r' h j v (by simpa using e)
  | some u :: r, [], h, j, v, e => absurd h id
  | some u :: r, some w :: r', h, 0, v, e => by obtain ⟨rfl, -⟩ := h; simpa using e
  | some u :: r, some w :: r', h, j + 1, v, e => by simpa using am_lz_get r r' h.2 j v (by simpa using e)
  | some u :: r, none :: r', h, j, v, e => absurd h id
theorem wk_le {G : am_G} {p : Program} {l : Launch} {e : Env} {R : Room} {s : State} {m : MethodId} {args : Array Value} {below : List Frame} {meth : Method} {c : Code} {cells slots : Nat} {Q : State → Prop} {A : Nat → Prop} {H0 : Heap} {nL pc : Nat} {lv lw : List (Option am_V)} {st : List am_V} {σ : am_M}
    (h : am_lz lw lv) (k : wk G p l e R s m args below meth c cells slots Q A H0 nL pc lw st σ) : wk G p l e R s m args below meth c cells slots Q A H0 nL pc lv st σ := wk_lw (am_lz_get lw lv h) k
