/-! sums, and counts of packets in queues -/
theorem sm_add (f g : Nat → Int) : ∀ n : Nat, am_sum (fun d => f d + g d) n = am_sum f n + am_sum g n
  | 0 => rfl
  | n + 1 => by rw [am_sum, am_sum, am_sum, sm_add f g n]; omega
theorem sm_sub (f g : Nat → Int) : ∀ n : Nat, am_sum (fun d => f d - g d) n = am_sum f n - am_sum g n
  | 0 => rfl
  | n + 1 => by rw [am_sum, am_sum, am_sum, sm_sub f g n]; omega
theorem sm_le {f g : Nat → Int} : ∀ {n : Nat}, (∀ d, d < n → f d ≤ g d) → am_sum f n ≤ am_sum g n
  | 0, _ => Int.le_refl _
  | n + 1, h => by
    have := sm_le (fun d hd => h d (by omega) : ∀ d, d < n → f d ≤ g d)
    have := h n (by omega)
    rw [am_sum, am_sum]; omega
theorem sm_nn {f : Nat → Int} : ∀ {n : Nat}, (∀ d, d < n → 0 ≤ f d) → 0 ≤ am_sum f n
  | 0, _ => Int.le_refl _
  | n + 1, h => by
    have := sm_nn (fun d hd => h d (by omega) : ∀ d, d < n → 0 ≤ f d)
    have := h n (by omega)
    rw [am_sum]; omega
theorem sm_const (x : Int) : ∀ n : Nat, am_sum (fun _ => x) n = x * n
  | 0 => by simp [am_sum]
  | n + 1 => by
    rw [am_sum, sm_const x n]
    have : ((n + 1 : Nat) : Int) = (n : Int) + 1 := by omega
    rw [this, Int.mul_add, Int.mul_one]
theorem sm_swap (f : Nat → Nat → Int) (m : Nat) : ∀ n : Nat, am_sum (fun i => am_sum (fun j => f i j) m) n = am_sum (fun j => am_sum (fun i => f i j) n) m
  | 0 => by
    rw [am_sum]
    exact (am_sum0 m (fun d _ => rfl)).symm
  | n + 1 => by
    rw [am_sum, sm_swap f m n, ← sm_add]
    exact am_sum_cg (fun j _ => by rw [am_sum])
/-- one term -/
theorem sm_one {k : Nat} (x : Int) {n : Nat} (hk : k < n) : am_sum (fun d => if d = k then x else 0) n = x := by
  have := am_sum_up (f := fun _ => 0) (g := fun d => if d = k then x else 0) (x := x) (d0 := k) hk (fun d _ => by
    by_cases q : d = k
    · rw [if_pos q, if_pos q]; omega
    · rw [if_neg q, if_neg q])
  rw [this, am_sum0 n (fun d _ => rfl)]; omega
theorem sm_get {f : Nat → Int} {k : Nat} : ∀ {n : Nat}, (∀ d, d < n → 0 ≤ f d) → k < n → f k ≤ am_sum f n
  | 0, _, h => absurd h (Nat.not_lt_zero _)
  | n + 1, h, hk => by
    rw [am_sum]
    by_cases q : k = n
    · subst q
      have := sm_nn (fun d hd => h d (by omega) : ∀ d, d < k → 0 ≤ f d)
      omega
    · have := sm_get (fun d hd => h d (by omega) : ∀ d, d < n → 0 ≤ f d) (show k < n by omega)
      have := h n (by omega)
      omega
theorem sm_two {f : Nat → Int} {a b : Nat} {n : Nat} (h : ∀ d, d < n → 0 ≤ f d) (ha : a < n) (hb : b < n) (hab : ¬ a = b) : f a + f b ≤ am_sum f n := by
  have h1 := sm_get (f := fun d => if d = a then 0 else f d) (k := b) (n := n) (fun d hd => by
    by_cases q : d = a
    · simp [q]
    · simp only [q, if_false]; exact h d hd) hb
  have h2 := am_sum_up (f := fun d => if d = a then 0 else f d) (g := f) (x := f a) (d0 := a) ha (fun d hd => by
    by_cases q : d = a
    · subst q; simp
    · simp [q])
  rw [if_neg (fun z => hab z.symm)] at h1
  rw [h2]
  omega
/-- the first n of four places -/
def ct (e : Nat → Int) (n : Int) : Int := am_sum (fun j => if (j : Int) < n then e j else 0) 4
theorem ct_nn {e : Nat → Int} (n : Int) (h : ∀ j, j < 4 → 0 ≤ e j) : 0 ≤ ct e n := by
  refine sm_nn (fun d hd => ?_)
  split
  · exact h d hd
  · exact Int.le_refl _
theorem ct_cg {e e' : Nat → Int} {n : Int} (h : ∀ j : Nat, (j : Int) < n → e j = e' j) : ct e n = ct e' n := by
  refine am_sum_cg (fun d _ => ?_)
  by_cases q : (d : Int) < n
  · rw [if_pos q, if_pos q, h d q]
  · rw [if_neg q, if_neg q]
theorem ct_get {e : Nat → Int} {n : Int} (h : ∀ j, j < 4 → 0 ≤ e j) {j : Nat} (hj : (j : Int) < n) (hn : n ≤ 4) : e j ≤ ct e n := by
  have := sm_get (f := fun j => if (j : Int) < n then e j else 0) (k := j) (n := 4) (fun d hd => by
    show 0 ≤ (if (d : Int) < n then e d else 0)
    split
    · exact h d hd
    · exact Int.le_refl _) (by omega)
  simp only [hj, if_true] at this
  exact this
theorem ct_v (e : Nat → Int) (n : Int) : ct e n = (if 0 < n then e 0 else 0) + (if 1 < n then e 1 else 0) + (if 2 < n then e 2 else 0) + (if 3 < n then e 3 else 0) := by
  simp only [ct, am_sum]
  omega
theorem ct_step {e e' : Nat → Int} {n d a x : Int} (hn : 0 ≤ n ∧ n ≤ 4) (hd : d = 0 ∨ d = 1) (ha : a = 0 ∨ a = 1) (hdn : d ≤ n) (hm : n - d + a ≤ 4) (h : ∀ j : Nat, (j : Int) < n - d → e' j = e (j + d.toNat)) (hx : a = 1 → e' (n - d).toNat = x) :
    ct e' (n - d + a) = ct e n - (if d = 1 then e 0 else 0) + (if a = 1 then x else 0) := by
  have hc : n = 0 ∨ n = 1 ∨ n = 2 ∨ n = 3 ∨ n = 4 := by omega
  have h0 := h 0
  have h1 := h 1
  have h2 := h 2
  have h3 := h 3
  rw [ct_v, ct_v]
  rcases hd with rfl | rfl
  · have z : (0 : Int).toNat = 0 := rfl
    simp only [z, Nat.add_zero, Int.sub_zero] at h0 h1 h2 h3 hx hm ⊢
    rcases ha with rfl | rfl
    · simp only [Int.add_zero] at hm ⊢
      rcases hc with rfl | rfl | rfl | rfl | rfl <;> simp at h0 h1 h2 h3 ⊢ <;> omega
    · have hx := hx rfl
      rcases hc with rfl | rfl | rfl | rfl | rfl <;> simp at h0 h1 h2 h3 hx hm ⊢ <;> omega
  · have z : (1 : Int).toNat = 1 := rfl
    simp only [z] at h0 h1 h2 h3 hx hm ⊢
    rcases ha with rfl | rfl
    · rcases hc with rfl | rfl | rfl | rfl | rfl <;> simp at h0 h1 h2 h3 hdn ⊢ <;> omega
    · have hx := hx rfl
      rcases hc with rfl | rfl | rfl | rfl | rfl <;> simp at h0 h1 h2 h3 hx hdn hm ⊢ <;> omega
/-- how many packets of the flow f wait in the queue L -/
def cn (S : ab_S) (f L : Nat) : Int := ct (fun j => if S 20 (4 * L + j) = (f : Int) then 1 else 0) (S 14 L)
/-- .. and in all queues -/
def tt (S : ab_S) (f : Nat) : Int := am_sum (fun L => cn S f L) 64
theorem cn_nn (S : ab_S) (f L : Nat) : 0 ≤ cn S f L := ct_nn _ (fun j _ => by split <;> omega)
theorem tt_nn (S : ab_S) (f : Nat) : 0 ≤ tt S f := sm_nn (fun L _ => cn_nn S f L)
theorem cn_cg {S T : ab_S} {f L : Nat} (h : T 14 L = S 14 L) (h2 : ∀ j : Nat, (j : Int) < S 14 L → T 20 (4 * L + j) = S 20 (4 * L + j)) : cn T f L = cn S f L := by
  unfold cn
  rw [h]
  exact ct_cg (fun j hj => by rw [h2 j hj])
theorem tt_cg {S T : ab_S} {f : Nat} (h : ∀ L, L < 64 → T 14 L = S 14 L) (h2 : ∀ L j : Nat, L < 64 → (j : Int) < S 14 L → T 20 (4 * L + j) = S 20 (4 * L + j)) : tt T f = tt S f :=
  am_sum_cg (fun L hL => cn_cg (h L hL) (fun j hj => h2 L j hL hj))
theorem cn_head {S : ab_S} {L : Nat} (h : 0 < S 14 L) (h4 : S 14 L ≤ 4) {f : Nat} (hf : S 20 (4 * L) = (f : Int)) : 1 ≤ cn S f L := by
  have := ct_get (e := fun j => if S 20 (4 * L + j) = (f : Int) then 1 else 0) (n := S 14 L) (fun j _ => by split <;> omega) (j := 0) (by simpa using h) h4
  simp only [Nat.add_zero, hf, if_true] at this
  exact this
theorem cn_in {S : ab_S} {L j : Nat} (h : (j : Int) < S 14 L) (h4 : S 14 L ≤ 4) {f : Nat} (hf : S 20 (4 * L + j) = (f : Int)) : 1 ≤ cn S f L := by
  have := ct_get (e := fun j => if S 20 (4 * L + j) = (f : Int) then 1 else 0) (n := S 14 L) (fun j _ => by split <;> omega) (j := j) h h4
  simp only [hf, if_true] at this
  exact this
theorem cn_drop {S : ab_S} {L : Nat} (hL : L < 64) (hn : 0 < S 14 L) (h4 : ∀ i, i < 64 → S 14 i ≤ 4) (f : Nat) {L' : Nat} (hL' : L' < 64) : cn (ab_drop S L) f L' = if L' = L then cn S f L' - (if S 20 (4 * L) = (f : Int) then 1 else 0) else cn S f L' := by
  have h4' := h4 L' hL'
  by_cases q : L' = L
  · subst q
    rw [if_pos rfl]
    have := ct_step (e := fun j => if S 20 (4 * L' + j) = (f : Int) then 1 else 0) (e' := fun j => if ab_drop S L' 20 (4 * L' + j) = (f : Int) then 1 else 0) (n := S 14 L') (d := 1) (a := 0) (x := 0) ⟨by omega, h4'⟩ (Or.inr rfl) (Or.inl rfl) (by omega) (by omega) (fun j hj => by
      have e := ab_dropq S L' (4 * L' + j) 0 (by omega)
      simp only [Nat.add_zero] at e
      show (if ab_drop S L' 20 (4 * L' + j) = (f : Int) then (1 : Int) else 0) = if S 20 (4 * L' + (j + 1)) = (f : Int) then 1 else 0
      rw [e, if_pos (show (4 * L' + j) / 4 = L' ∧ (4 * L' + j) % 4 < 3 by omega)]
      rfl) (fun z => by omega)
    unfold cn
    rw [ab_drop14, if_pos rfl, show S 14 L' - 1 = S 14 L' - 1 + 0 by omega, this]
    simp
  · rw [if_neg q]
    refine cn_cg (by rw [ab_drop14, if_neg q]) (fun j hj => ?_)
    have e := ab_dropq S L (4 * L' + j) 0 (by omega)
    simp only [Nat.add_zero] at e
    rw [e, if_neg]
    rintro ⟨z, -⟩
    exact q (by omega)
theorem tt_drop {S : ab_S} {L : Nat} (hL : L < 64) (hn : 0 < S 14 L) (h4 : ∀ i, i < 64 → S 14 i ≤ 4) (f : Nat) : tt (ab_drop S L) f = tt S f - (if S 20 (4 * L) = (f : Int) then 1 else 0) := by
  unfold tt
  rw [am_sum_up (f := fun L => cn S f L) (x := -(if S 20 (4 * L) = (f : Int) then 1 else 0)) (d0 := L) hL (fun d hd => by
    rw [cn_drop hL hn h4 f hd]
    by_cases q : d = L
    · rw [if_pos q, if_pos q]; omega
    · rw [if_neg q, if_neg q])]
  omega
/-- all packets of a queue, by their flows -/
theorem ct_all {e : Nat → Nat → Int} {n : Int} {N : Nat} (hn : 0 ≤ n ∧ n ≤ 4) (h : ∀ j : Nat, (j : Int) < n → am_sum (fun f => e f j) N = 1) : am_sum (fun f => ct (e f) n) N = n := by
  unfold ct
  rw [sm_swap]
  have : ∀ j : Nat, am_sum (fun f => if (j : Int) < n then e f j else 0) N = if (j : Int) < n then 1 else 0 := fun j => by
    by_cases q : (j : Int) < n
    · rw [if_pos q, ← h j q]
      exact am_sum_cg (fun f _ => by rw [if_pos q])
    · rw [if_neg q]
      exact am_sum0 N (fun f _ => by rw [if_neg q])
  rw [am_sum_cg (fun j _ => this j)]
  have hc : n = 0 ∨ n = 1 ∨ n = 2 ∨ n = 3 ∨ n = 4 := by omega
  rcases hc with rfl | rfl | rfl | rfl | rfl <;> simp [am_sum]
theorem cn_all {S : ab_S} {b : Int} (h : ab_I S b) {L : Nat} (hL : L < 64) : am_sum (fun f => cn S f L) (ab_n S) = S 14 L := by
  have hs := h.s4 hL
  refine ct_all ⟨hs.1, hs.2.1⟩ (fun j hj => ?_)
  have i := (h.2.2.2.2.2.2.2 L j hL hj).1
  have := sm_one (k := (S 20 (4 * L + j)).toNat) 1 (n := ab_n S) (by unfold ab_n; omega)
  refine Eq.trans (am_sum_cg (fun f _ => ?_)) this
  by_cases q : f = (S 20 (4 * L + j)).toNat
  · rw [if_pos q, if_pos (by omega)]
  · rw [if_neg q, if_neg (by omega)]
theorem tt_all {S : ab_S} {b : Int} (h : ab_I S b) : am_sum (fun f => tt S f) (ab_n S) = ab_qd S := by
  unfold tt
  rw [sm_swap]
  exact am_sum_cg (fun L hL => cn_all h hL)
