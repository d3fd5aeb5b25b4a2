/-! what the first packet of a queue wants, as a place in its node -/
theorem chosen_us {S : ab_S} {f : Nat} {k : Int} (h : 0 ≤ ab_chosen S f k) : ab_us S (ab_la S f) (ab_lb S f) (ab_chosen S f k).toNat = true := by
  have hm := ab_many_rng S (ab_la S f) (ab_lb S f)
  have he : ab_chosen S f k = ab_nf (fun s => ab_us S (ab_la S f) (ab_lb S f) s) 0 4 ((7 * (f : Int) + 13 * k + 3 * S 0 f + 5 * S 1 f) % ab_many S (ab_la S f) (ab_lb S f)) := by
    by_cases q : ab_many S (ab_la S f) (ab_lb S f) = 0
    · rw [ab_chosen, if_pos q] at h; omega
    · rw [ab_chosen, if_neg q]
      exact ab_nf_nth (fun s => ab_us S (ab_la S f) (ab_lb S f) s) (Int.emod_nonneg _ q)
  rw [he] at h ⊢
  exact ab_nf_us (fun s => ab_us S (ab_la S f) (ab_lb S f) s) 4 0 _ h
def ab_ch (S : ab_S) (q : Nat) : ab_S := if q < 16 then ab_cho S q else S
def ab_wl (S : ab_S) (n q : Nat) : Int := if ab_w S q = -1 then -1 else if ab_w S q < 32 then ab_w S q - 16 - 4 * (n : Int) else 4 + (ab_w S q - 32 - 4 * (n : Int))
def ab_nq (n q : Nat) : Prop := n < 4 ∧ ((q < 16 ∧ q / 4 = n) ∨ (48 ≤ q ∧ q < 64 ∧ (q - 48) % 4 = n))
theorem wl_a {S : ab_S} {n q : Nat} (h : S 14 q = 0) : ab_ch S q = S ∧ ab_wl S n q = -1 := by
  refine ⟨?_, ?_⟩
  · unfold ab_ch ab_cho
    split
    · rw [if_neg (by omega)]
    · rfl
  · have : ab_w S q = -1 := by rw [ab_w, if_pos (Or.inl h)]
    rw [ab_wl, if_pos this]
/-- what stands in the invariant of a queue's first -/
theorem ab_hd {S : ab_S} {b : Int} (h : ab_I S b) {q : Nat} (hq : q < 64) (hp : 0 < S 14 q) :
    ((ab_fl S q : Nat) : Int) = S 20 (4 * q) ∧ ((ab_fl S q : Nat) : Int) < S 19 4 ∧ ab_If S b (ab_fl S q) ∧ (0 ≤ S 21 (4 * q) ∧ S 21 (4 * q) ≤ b) ∧ (-1 ≤ S 22 (4 * q) ∧ S 22 (4 * q) ≤ b) ∧ (-1 ≤ S 23 (4 * q) ∧ S 23 (4 * q) ≤ 3) ∧
    (q < 16 → S 0 (ab_fl S q) = (q : Int) ∧ (ab_far S (ab_fl S q) = true → 0 ≤ S 22 (4 * q) ∧ 0 ≤ S 23 (4 * q))) ∧ (16 ≤ q → q < 32 → S 1 (ab_fl S q) = (q : Int) - 16) ∧ (48 ≤ q → S 1 (ab_fl S q) / 4 = (((q - 48) % 4 : Nat) : Int)) := by
  have i := h.2.2.2.2.2.2.2 q 0 hq (by simpa using hp)
  unfold ab_Iq at i
  simp only [Nat.add_zero] at i
  obtain ⟨i0, i1, i2, i3, i4, i5, i6⟩ := i
  have e : ((ab_fl S q : Nat) : Int) = S 20 (4 * q) := Int.toNat_of_nonneg i0.1
  exact ⟨e, by omega, h.2.2.1 _ (by omega), i1, i2, i3, i4, i5, i6⟩
theorem ab_lbv {S : ab_S} {b : Int} {f : Nat} (h : ab_If S b f) : ((ab_lb S f : Nat) : Int) = S 1 f / 4 ∧ ab_lb S f < 4 ∧ ((ab_la S f : Nat) : Int) = S 0 f / 4 ∧ ab_la S f < 4 := by
  have h0 := h.1
  have h1 := h.2.1
  have e1 : ((ab_lb S f : Nat) : Int) = S 1 f / 4 := Int.toNat_of_nonneg (by omega)
  have e0 : ((ab_la S f : Nat) : Int) = S 0 f / 4 := Int.toNat_of_nonneg (by omega)
  exact ⟨e1, by omega, e0, by omega⟩
theorem wl_b {S : ab_S} {b : Int} {n q : Nat} (h : ab_I S b) (hq : ab_nq n q) (hp : 0 < S 14 q) (hl : ab_lb S (ab_fl S q) = n) : ab_ch S q = S ∧ ab_wl S n q = S 1 (ab_fl S q) % 4 := by
  obtain ⟨hn, hq⟩ := hq
  obtain ⟨e, e1, e2, -, -, -, e6, e7, e8⟩ := ab_hd h (q := q) (by omega) hp
  obtain ⟨f1, f2, f3, f4⟩ := ab_lbv e2
  have h1 := e2.2.1
  have hw : ab_w S q = 16 + S 1 (ab_fl S q) := by
    rw [ab_w, if_neg (by omega)]
    rcases hq with hq | hq
    · rw [if_neg (by omega), if_neg (by omega), if_pos (by omega)]
    · rw [if_pos (by omega)]
  refine ⟨?_, ?_⟩
  · unfold ab_ch ab_cho
    split
    · rename_i h16
      rw [if_neg]
      rintro ⟨-, z, -⟩
      have := (e6 h16).1
      simp [ab_far] at z
      omega
    · rfl
  · rw [ab_wl, hw, if_neg (by omega), if_pos (by omega)]
    omega
theorem wl_q {S : ab_S} {b : Int} {n q : Nat} (h : ab_I S b) (hq : ab_nq n q) (hp : 0 < S 14 q) (hl : ¬ ab_lb S (ab_fl S q) = n) : q < 16 ∧ q / 4 = n ∧ S 0 (ab_fl S q) = (q : Int) ∧ ab_la S (ab_fl S q) = n ∧ ab_far S (ab_fl S q) = true ∧ 0 ≤ S 22 (4 * q) ∧ 0 ≤ S 23 (4 * q) := by
  obtain ⟨hn, hq⟩ := hq
  obtain ⟨e, e1, e2, -, -, -, e6, e7, e8⟩ := ab_hd h (q := q) (by omega) hp
  obtain ⟨f1, f2, f3, f4⟩ := ab_lbv e2
  rcases hq with hq | hq
  · have hs := e6 hq.1
    have hf : ab_far S (ab_fl S q) = true := by
      simp only [ab_far, decide_eq_true_eq]
      omega
    exact ⟨hq.1, hq.2, hs.1, by omega, hf, hs.2 hf⟩
  · have := e8 hq.1
    omega
theorem wl_c {S : ab_S} {b : Int} {n q : Nat} (h : ab_I S b) (hq : ab_nq n q) (hp : 0 < S 14 q) (hl : ¬ ab_lb S (ab_fl S q) = n) (hu : ab_us S n (ab_lb S (ab_fl S q)) (S 23 (4 * q)).toNat = true) : ab_ch S q = S ∧ ab_wl S n q = 4 + S 23 (4 * q) := by
  obtain ⟨q1, q2, q3, q4, q5, q6, q7⟩ := wl_q h hq hp hl
  obtain ⟨e, e1, e2, -, -, -, -⟩ := ab_hd h (q := q) (by omega) hp
  obtain ⟨f1, f2, f3, f4⟩ := ab_lbv e2
  have hw : ab_w S q = 32 + 4 * ((q / 4 : Nat) : Int) + S 23 (4 * q) := by
    rw [ab_w, if_neg (by omega), if_neg (by omega), if_neg (by omega), if_neg (by omega), if_pos (by rw [q2]; exact hu)]
  refine ⟨?_, ?_⟩
  · unfold ab_ch ab_cho
    rw [if_pos q1, if_neg]
    rintro ⟨-, -, z, -⟩
    rw [q2, hu] at z
    cases z
  · rw [ab_wl, hw, if_neg (by omega), if_neg (by omega)]
    omega
theorem wl_d {S : ab_S} {b : Int} {n q : Nat} (h : ab_I S b) (hq : ab_nq n q) (hp : 0 < S 14 q) (hl : ¬ ab_lb S (ab_fl S q) = n) (hu : ab_us S n (ab_lb S (ab_fl S q)) (S 23 (4 * q)).toNat = false) (hc : ab_chosen S (ab_fl S q) (S 22 (4 * q)) = -1) : ab_ch S q = S ∧ ab_wl S n q = -1 := by
  obtain ⟨q1, q2, q3, q4, q5, q6, q7⟩ := wl_q h hq hp hl
  obtain ⟨e, e1, e2, -, -, -, -⟩ := ab_hd h (q := q) (by omega) hp
  obtain ⟨f1, f2, f3, f4⟩ := ab_lbv e2
  have hw : ab_w S q = -1 := by
    rw [ab_w, if_neg (by omega), if_neg (by omega), if_neg (by omega), if_neg (by omega), if_neg (by rw [q2, hu]; decide)]
  refine ⟨?_, ?_⟩
  · unfold ab_ch ab_cho
    rw [if_pos q1, if_neg]
    rintro ⟨-, -, -, z⟩
    exact z hc
  · rw [ab_wl, if_pos hw]
theorem wl_e {S : ab_S} {b : Int} {n q : Nat} (h : ab_I S b) (hq : ab_nq n q) (hp : 0 < S 14 q) (hl : ¬ ab_lb S (ab_fl S q) = n) (hu : ab_us S n (ab_lb S (ab_fl S q)) (S 23 (4 * q)).toNat = false) (hc : ¬ ab_chosen S (ab_fl S q) (S 22 (4 * q)) = -1) :
    ab_ch S q = ab_u S 23 (4 * q) (ab_chosen S (ab_fl S q) (S 22 (4 * q))) ∧ ab_wl (ab_u S 23 (4 * q) (ab_chosen S (ab_fl S q) (S 22 (4 * q)))) n q = 4 + ab_chosen S (ab_fl S q) (S 22 (4 * q)) := by
  obtain ⟨q1, q2, q3, q4, q5, q6, q7⟩ := wl_q h hq hp hl
  obtain ⟨e, e1, e2, -, -, -, -⟩ := ab_hd h (q := q) (by omega) hp
  obtain ⟨f1, f2, f3, f4⟩ := ab_lbv e2
  have hr := ab_chosen_rng S (ab_fl S q) (S 22 (4 * q))
  have hcu := chosen_us (S := S) (f := ab_fl S q) (k := S 22 (4 * q)) (by omega)
  generalize hx : ab_chosen S (ab_fl S q) (S 22 (4 * q)) = x at hr hcu hc ⊢
  have e0 : ∀ g i, ¬ g = 23 → ab_u S 23 (4 * q) x g i = S g i := fun g i z => by rw [ab_u_app, if_neg (by omega)]
  have e23 : ab_u S 23 (4 * q) x 23 (4 * q) = x := by rw [ab_u_app, if_pos ⟨rfl, rfl⟩]
  have efl : ab_fl (ab_u S 23 (4 * q) x) q = ab_fl S q := by simp only [ab_fl, e0 20 _ (by omega)]
  have elb : ab_lb (ab_u S 23 (4 * q) x) (ab_fl S q) = ab_lb S (ab_fl S q) := by simp only [ab_lb, e0 1 _ (by omega)]
  have eus : ∀ a b s, ab_us (ab_u S 23 (4 * q) x) a b s = ab_us S a b s := fun a b s => by simp only [ab_us, e0 18 _ (by omega)]
  have hw : ab_w (ab_u S 23 (4 * q) x) q = 32 + 4 * ((q / 4 : Nat) : Int) + x := by
    rw [ab_w, efl, e0 14 _ (by omega), e0 1 _ (by omega), elb, eus, e23]
    rw [if_neg (by omega), if_neg (by omega), if_neg (by omega), if_neg (by omega), if_pos (by rw [q2, ← q4]; exact hcu)]
  refine ⟨?_, ?_⟩
  · unfold ab_ch ab_cho
    rw [if_pos q1, if_pos ⟨hp, q5, by rw [q2]; exact hu, by rw [hx]; exact hc⟩, hx]
  · rw [ab_wl, hw, if_neg (by omega), if_neg (by omega)]
    omega
def ab_ws (S : ab_S) (sp q : Nat) : Int := if S 14 q = 0 then -1 else if S 18 (4 * ab_lb S (ab_fl S q) + sp) = 0 then ((ab_lb S (ab_fl S q) : Nat) : Int) else -1
