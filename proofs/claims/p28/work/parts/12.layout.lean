/-! the two layouts: Fabricsim's cells by kinds 0 to 18, FabricsimModel's by kinds 20 to 54 (20 + the field's slot) -/
abbrev am_g : Type := va_G × (Nat → ClassId) × (Nat → Nat → Nat)
def lc_d (n : Nat) : Nat := if n < 4 then 8 else 4
def lc_in (n j : Nat) : Nat := if n < 4 then (if j < 4 then 4 * n + j else 48 + 4 * (j - 4) + n) else 32 + 4 * j + (n - 4)
def lc_out (n j : Nat) : Nat := if n < 4 then (if j < 4 then 16 + 4 * n + j else 32 + 4 * n + (j - 4)) else 48 + 4 * (n - 4) + j
def lc_n : Nat → Nat
  | 0 => 1 | 1 => 1 | 2 => 1 | 3 => 1 | 4 => 1 | 5 => 1 | 6 => 1 | 7 => 1 | 8 => 1
  | 9 => 24 | 10 => 16 | 11 => 64 | 12 => 64 | 13 => 64 | 14 => 256 | 15 => 8 | 16 => 8 | 17 => 8 | 18 => 8
  | _ => 0
def lc_s : Nat → Nat → am_Sh
  | 0, _ => .inl (5, [some (1, 0), some (2, 0), some (3, 0), some (4, 0), some (5, 0), some (6, 0), some (7, 0), some (8, 0), none, none, none, none, none])
  | 1, _ => .inr (.inr (2, 24, fun j => (9, j)))
  | 2, _ => .inr (.inr (3, 16, fun j => (10, j)))
  | 3, _ => .inr (.inr (4, 64, fun j => (11, j)))
  | 4, _ => .inr (.inr (4, 16, fun j => (11, 32 + j)))
  | 5, _ => .inr (.inr (4, 16, fun j => (11, 48 + j)))
  | 6, _ => .inr (.inr (5, 4, fun j => (15, j)))
  | 7, _ => .inr (.inr (5, 4, fun j => (15, 4 + j)))
  | 8, _ => .inr (.inl (0, 4))
  | 9, _ => .inl (0, [none, none, none, none, none, none, none, none, none, none, none, none, none])
  | 10, h => .inl (1, [some (11, h), some (11, 16 + h), none, none])
  | 11, L => .inl (2, [some (12, L), some (13, L), none, none, none, none, none])
  | 12, L => .inr (.inr (6, 4, fun j => (14, 4 * L + j)))
  | 13, _ => .inr (.inl (0, 7))
  | 14, _ => .inl (4, [none, none, none, none])
  | 15, n => .inl (3, [some (16, n), some (17, n), some (18, n)])
  | 16, n => .inr (.inr (4, lc_d n, fun j => (11, lc_in n j)))
  | 17, n => .inr (.inr (4, lc_d n, fun j => (11, lc_out n j)))
  | 18, n => .inr (.inl (0, lc_d n))
  | _, _ => .inr (.inl (0, 0))
def lr_n (k : Nat) : Nat := if k = 20 ∨ (25 ≤ k ∧ k < 55) then 1 else 0
def lr_r : List (Option (Nat × Nat)) := [none, none, none, none, none] ++ (List.range 30).map (fun j => some (25 + j, 0)) ++ [none]
def lr_a : Nat → Nat
  | 18 => 64 | 19 => 64 | 20 => 64 | 21 => 64 | 22 => 512 | 23 => 256 | 24 => 256 | 25 => 256 | 26 => 256 | 27 => 16 | 28 => 16 | 29 => 16 | 30 => 16 | 31 => 64 | 32 => 64 | 33 => 64 | 34 => 64
  | _ => 24
def lr_s (k _i : Nat) : am_Sh := if k = 20 then .inl (6, lr_r) else if k = 47 then .inr (.inl (1, 16)) else .inr (.inl (0, lr_a (k - 20)))
def gC (g : am_g) : am_G := (g.1, g.2.1, g.2.2, lc_n, lc_s)
def gR (g : am_g) : am_G := (g.1, g.2.1, g.2.2, lr_n, lr_s)
theorem am_up_app (σ : am_M) (k i j : Nat) (x : Int) (k' i' j' : Nat) : am_up σ k i j x k' i' j' = if k' = k ∧ i' = i ∧ j' = j then x else σ k' i' j' := rfl
/-! plain words: a sum, a search -/
def am_sum (f : Nat → Int) : Nat → Int
  | 0 => 0
  | n + 1 => am_sum f n + f n
/-- the first of the d steps from s on that is true -/
def ab_scan (t : Nat → Bool) : Nat → Nat → Option Nat
  | _, 0 => none
  | s, d + 1 => if t s then some s else ab_scan t (s + 1) d
/-- Link.clear -/
def lk_clear (σ : am_M) (L : Nat) : am_M := fun k i j =>
  if k = 13 ∧ i = L ∧ j < 7 then 0
  else if k = 11 ∧ i = L ∧ j = 2 then 0
  else if k = 11 ∧ i = L ∧ j = 3 then 0
  else if k = 11 ∧ i = L ∧ j = 4 then 4
  else if k = 11 ∧ i = L ∧ j = 5 then -1
  else if k = 11 ∧ i = L ∧ j = 6 then -1
  else σ k i j
/-- Link.put -/
def lk_put (σ : am_M) (L : Nat) (a b c d : Int) : am_M :=
  let q := 4 * L + ((σ 11 L 2 + σ 11 L 3) % 4).toNat
  am_up (am_up (am_up (am_up (am_up (am_up σ 11 L 4 (σ 11 L 4 - 1)) 14 q 0 a) 14 q 1 b) 14 q 2 c) 14 q 3 d) 11 L 3 (σ 11 L 3 + 1)
/-- Link.drop -/
def lk_drop (σ : am_M) (L sl : Nat) : am_M := am_up (am_up (am_up σ 11 L 2 ((σ 11 L 2 + 1) % 4)) 11 L 3 (σ 11 L 3 - 1)) 13 L sl (σ 13 L sl + 1)
/-- the place that Link.pick finds among the n queues of node w; none: it picks none -/
def lk_find (σ : am_M) (L w n : Nat) (self : Int) : Option Nat :=
  if σ 11 L 4 = 0 then none else (ab_scan (fun s => decide (σ 18 w ((σ 11 L 5 + (s : Int)) % (n : Int)).toNat = self)) 1 n).map (fun s : Nat => ((σ 11 L 5 + (s : Int)) % (n : Int)).toNat)
def lk_pick (σ : am_M) (L w n : Nat) (self : Int) : am_M := match lk_find σ L w n self with
  | none => am_up σ 11 L 6 (-1)
  | some j => am_up (am_up (am_up σ 11 L 6 (-1)) 11 L 5 (j : Int)) 11 L 6 (j : Int)
/-- fewer locals, other words for the same ones -/
theorem am_ll_of (G : am_G) {ls : Array Slot} {nL : Nat} {lv lw : List (Option am_V)} (h : ∀ (j : Nat) (v : am_V), lw[j]? = some (some v) → lv[j]? = some (some v)) (hL : lv_has ls nL (am_ll G 0 lv)) : lv_has ls nL (am_ll G 0 lw) := by
  refine ⟨hL.1, hL.2.1, fun q hq => hL.2.2 q ?_⟩
  obtain ⟨j, w⟩ := q
  obtain ⟨v, h1, h2, h3⟩ := (am_ll_mem G lw 0 j w).mp hq
  exact (am_ll_mem G lv 0 j w).mpr ⟨v, h1, h _ _ h2, h3⟩
theorem wk_lw {G : am_G} {p : Program} {l : Launch} {e : Env} {R : Room} {s : State} {m : MethodId} {args : Array Value} {below : List Frame} {meth : Method} {c : Code} {cells slots : Nat} {Q : State → Prop} {A : Nat → Prop} {H0 : Heap} {nL pc : Nat} {lv lw : List (Option am_V)} {st : List am_V} {σ : am_M}
    (h : ∀ (j : Nat) (v : am_V), lw[j]? = some (some v) → lv[j]? = some (some v)) (k : wk G p l e R s m args below meth c cells slots Q A H0 nL pc lw st σ) : wk G p l e R s m args below meth c cells slots Q A H0 nL pc lv st σ :=
  fun H locs ls hW hS hL => k H locs ls hW hS (am_ll_of G h hL)
