theorem ab_w_cg {S T : ab_S} {q : Nat} (h14 : T 14 q = S 14 q) (h20 : T 20 (4 * q) = S 20 (4 * q)) (h23 : T 23 (4 * q) = S 23 (4 * q)) (h1 : ∀ f, T 1 f = S 1 f) (h18 : ∀ i, T 18 i = S 18 i) : ab_w T q = ab_w S q := by
  have efl : ab_fl T q = ab_fl S q := by simp only [ab_fl, h20]
  have elb : ∀ f, ab_lb T f = ab_lb S f := fun f => by simp only [ab_lb, h1]
  have eus : ∀ a b s, ab_us T a b s = ab_us S a b s := fun a b s => by simp only [ab_us, h18]
  simp only [ab_w, efl, elb, eus, h14, h23, h1]
theorem ab_choN_q (S : ab_S) (q : Nat) : ∀ m : Nat, q < m → ab_choN S m 23 (4 * q) = ab_choN S (q + 1) 23 (4 * q)
  | 0, h => absurd h (Nat.not_lt_zero _)
  | m + 1, h => by
    by_cases e : q = m
    · rw [e]
    · rw [ab_choN, ab_cho_o _ _ _ _ (by omega), ab_choN_q S q m (by omega)]
theorem ab_choN_h (S : ab_S) (q : Nat) : ∀ m : Nat, m ≤ q → ab_choN S m 23 (4 * q) = S 23 (4 * q)
  | 0, _ => rfl
  | m + 1, h => by rw [ab_choN, ab_cho_o _ _ _ _ (by omega), ab_choN_h S q m (by omega)]
theorem ab_w_choN (S : ab_S) {q m : Nat} (hm : m ≤ 16) (h : q < m ∨ 16 ≤ q) : ab_w (ab_choN S m) q = ab_w (ab_choN S 16) q := by
  refine ab_w_cg ?_ ?_ ?_ (fun f => ?_) (fun i => ?_)
  · rw [ab_choN_o _ _ _ (by omega), ab_choN_o _ _ _ (by omega)]
  · rw [ab_choN_o _ _ _ (by omega), ab_choN_o _ _ _ (by omega)]
  · rcases h with h | h
    · rw [ab_choN_q S q m h, ab_choN_q S q 16 (by omega)]
    · rw [ab_choN_h S q m (by omega), ab_choN_h S q 16 h]
  · rw [ab_choN_o _ _ _ (by omega), ab_choN_o _ _ _ (by omega)]
  · rw [ab_choN_o _ _ _ (by omega), ab_choN_o _ _ _ (by omega)]
theorem ab_wl_choN (S : ab_S) {n q m : Nat} (hm : m ≤ 16) (h : q < m ∨ 16 ≤ q) : ab_wl (ab_choN S m) n q = ab_wl (ab_choN S 16) n q := by
  simp only [ab_wl, ab_w_choN S hm h]
theorem lc_in_nq {n j : Nat} (hn : n < 4) (hj : j < 8) : ab_nq n (lc_in n j) := by
  refine ⟨hn, ?_⟩
  unfold lc_in
  rw [if_pos hn]
  split <;> omega
theorem lc_in_ch (S : ab_S) {n j : Nat} (hn : n < 4) (hj : j < 8) : ab_ch (ab_choN S (4 * n + min j 4)) (lc_in n j) = ab_choN S (4 * n + min (j + 1) 4) := by
  unfold ab_ch lc_in
  rw [if_pos hn]
  by_cases h : j < 4
  · rw [if_pos h, if_pos (by omega), show 4 * n + min (j + 1) 4 = (4 * n + j) + 1 by omega, show 4 * n + min j 4 = 4 * n + j by omega]
    rfl
  · rw [if_neg h, if_neg (by omega), show min (j + 1) 4 = min j 4 by omega]
theorem lc_in_fin (S : ab_S) {n j : Nat} (hn : n < 4) (hj : j < 8) : ab_wl (ab_choN S (4 * n + min (j + 1) 4)) n (lc_in n j) = ab_wl (ab_choN S 16) n (lc_in n j) := by
  refine ab_wl_choN S (by omega) ?_
  unfold lc_in
  rw [if_pos hn]
  by_cases h : j < 4
  · rw [if_pos h]; omega
  · rw [if_neg h]; omega
/-- what the queues of the nodes want -/
def ab_WN (S : ab_S) (σ : am_M) : Prop := (∀ n j : Nat, n < 4 → j < 8 → σ 18 n j = ab_wl S n (lc_in n j)) ∧ (∀ sp j : Nat, sp < 4 → j < 4 → σ 18 (4 + sp) j = ab_ws S sp (32 + 4 * j + sp))
def ab_Q (S : ab_S) (Y : Nat → Bool) : ab_S := fun f i => if f = 15 ∧ 16 ≤ i ∧ Y i = true ∧ ¬ ab_pick S i = -1 then ab_pick S i else S f i
def ab_ord (L : Nat) : Nat := if 48 ≤ L then L - 16 else if 32 ≤ L then 8 * ((L - 32) / 4) + 4 + (L - 32) % 4 else if 16 ≤ L then 8 * ((L - 16) / 4) + (L - 16) % 4 else 1000
def ab_Yk (k : Nat) : Nat → Bool := fun L => decide (ab_ord L < k)
def ab_bs (n : Nat) : Nat := if n < 4 then 8 * n else 16 + 4 * n
theorem ab_ord_out {n i : Nat} (hn : n < 8) (hi : i < lc_d n) : ab_ord (lc_out n i) = ab_bs n + i ∧ 16 ≤ lc_out n i ∧ lc_out n i < 64 := by
  unfold lc_d at hi
  unfold lc_out ab_bs ab_ord
  by_cases h : n < 4
  · rw [if_pos h] at hi
    simp only [if_pos h]
    by_cases h2 : i < 4
    · simp only [if_pos h2]
      rw [if_neg (by omega), if_neg (by omega), if_pos (by omega)]
      omega
    · simp only [if_neg h2]
      rw [if_neg (by omega), if_pos (by omega)]
      omega
  · rw [if_neg h] at hi
    simp only [if_neg h]
    rw [if_pos (by omega)]
    omega
theorem ab_ord48 {L : Nat} (h : 48 ≤ L) : ab_ord L = L - 16 := by rw [ab_ord, if_pos h]
theorem ab_ord32 {L : Nat} (h : 32 ≤ L) (h2 : L < 48) : ab_ord L = 8 * ((L - 32) / 4) + 4 + (L - 32) % 4 := by rw [ab_ord, if_neg (by omega), if_pos h]
theorem ab_ord16 {L : Nat} (h : 16 ≤ L) (h2 : L < 32) : ab_ord L = 8 * ((L - 16) / 4) + (L - 16) % 4 := by rw [ab_ord, if_neg (by omega), if_neg (by omega), if_pos h]
theorem ab_ord_inj {L M : Nat} (hL : 16 ≤ L ∧ L < 64) (hM : 16 ≤ M ∧ M < 64) (h : ab_ord L = ab_ord M) : L = M := by
  rcases (by omega : 48 ≤ L ∨ (32 ≤ L ∧ L < 48) ∨ L < 32) with a | a | a <;> rcases (by omega : 48 ≤ M ∨ (32 ≤ M ∧ M < 48) ∨ M < 32) with c | c | c
  · rw [ab_ord48 a, ab_ord48 c] at h; omega
  · rw [ab_ord48 a, ab_ord32 c.1 c.2] at h; omega
  · rw [ab_ord48 a, ab_ord16 hM.1 c] at h; omega
  · rw [ab_ord32 a.1 a.2, ab_ord48 c] at h; omega
  · rw [ab_ord32 a.1 a.2, ab_ord32 c.1 c.2] at h; omega
  · rw [ab_ord32 a.1 a.2, ab_ord16 hM.1 c] at h; omega
  · rw [ab_ord16 hL.1 a, ab_ord48 c] at h; omega
  · rw [ab_ord16 hL.1 a, ab_ord32 c.1 c.2] at h; omega
  · rw [ab_ord16 hL.1 a, ab_ord16 hM.1 c] at h; omega
def ab_PK (S : ab_S) (k : Nat) (σ : am_M) : Prop := ∀ L, 16 ≤ L → L < 64 → ab_ord L < k → σ 11 L 6 = ab_pick S L
theorem ab_scan_cg {t t' : Nat → Bool} : ∀ (d a : Nat), (∀ s, a ≤ s → s < a + d → t s = t' s) → ab_scan t a d = ab_scan t' a d
  | 0, _, _ => rfl
  | d + 1, a, h => by rw [ab_scan, ab_scan, h a (by omega) (by omega), ab_scan_cg d (a + 1) (fun s h1 h2 => h s (by omega) (by omega))]
theorem ab_scan_no {t : Nat → Bool} : ∀ (d a : Nat), (∀ s, a ≤ s → s < a + d → t s = false) → ab_scan t a d = none
  | 0, _, _ => rfl
  | d + 1, a, h => by rw [ab_scan, if_neg (by rw [h a (by omega) (by omega)]; decide), ab_scan_no d (a + 1) (fun s h1 h2 => h s (by omega) (by omega))]
theorem ab_scan_some {t : Nat → Bool} {r : Nat} : ∀ (d a : Nat), ab_scan t a d = some r → t r = true ∧ a ≤ r ∧ r < a + d
  | 0, _, h => by simp [ab_scan] at h
  | d + 1, a, h => by
    rw [ab_scan] at h
    split at h
    · cases h
      rename_i q
      exact ⟨q, by omega, by omega⟩
    · obtain ⟨h1, h2, h3⟩ := ab_scan_some d (a + 1) h
      exact ⟨h1, by omega, by omega⟩
theorem ab_w_leaf {S : ab_S} {b : Int} (h : ab_I S b) {n q : Nat} (hq : ab_nq n q) : ab_w S q = -1 ∨ (16 + 4 * (n : Int) ≤ ab_w S q ∧ ab_w S q < 20 + 4 * (n : Int)) ∨ (32 + 4 * (n : Int) ≤ ab_w S q ∧ ab_w S q < 36 + 4 * (n : Int) ∧ S 18 (ab_w S q - 32).toNat = 0) := by
  have hq2 := hq
  unfold ab_nq at hq2
  by_cases hp : 0 < S 14 q
  · obtain ⟨e, e1, e2, -, -, e5, e6, e7, e8⟩ := ab_hd h (q := q) (by omega) hp
    obtain ⟨f1, f2, f3, f4⟩ := ab_lbv e2
    have h1 := e2.2.1
    by_cases hl : ab_lb S (ab_fl S q) = n
    · right; left
      have hw : ab_w S q = 16 + S 1 (ab_fl S q) := by
        rw [ab_w, if_neg (by omega)]
        rcases hq2.2 with z | z
        · rw [if_neg (by omega), if_neg (by omega), if_pos (by omega)]
        · rw [if_pos (by omega)]
      rw [hw]; omega
    · obtain ⟨q1, q2, q3, q4, q5, q6, q7⟩ := wl_q h hq hp hl
      by_cases hu : ab_us S n (ab_lb S (ab_fl S q)) (S 23 (4 * q)).toNat = true
      · right; right
        have hw : ab_w S q = 32 + 4 * ((q / 4 : Nat) : Int) + S 23 (4 * q) := by
          rw [ab_w, if_neg (by omega), if_neg (by omega), if_neg (by omega), if_neg (by omega), if_pos (by rw [q2]; exact hu)]
        rw [hw]
        refine ⟨by omega, by omega, ?_⟩
        simp only [ab_us, Bool.and_eq_true, decide_eq_true_eq] at hu
        rw [show (32 + 4 * ((q / 4 : Nat) : Int) + S 23 (4 * q) - 32).toNat = 4 * n + (S 23 (4 * q)).toNat by omega]
        exact hu.1
      · left
        rw [ab_w, if_neg (by omega), if_neg (by omega), if_neg (by omega), if_neg (by omega), if_neg (by rw [q2]; exact hu)]
  · left
    have := (h.s4 (L := q) (by omega)).1
    rw [ab_w, if_pos (Or.inl (by omega))]
theorem ab_w_spine {S : ab_S} {b : Int} (h : ab_I S b) {sp j : Nat} (hsp : sp < 4) (hj : j < 4) : (S 14 (32 + 4 * j + sp) = 0 ∧ ab_w S (32 + 4 * j + sp) = -1) ∨ (0 < S 14 (32 + 4 * j + sp) ∧ ab_lb S (ab_fl S (32 + 4 * j + sp)) < 4 ∧ ab_w S (32 + 4 * j + sp) = 48 + 4 * (sp : Int) + ((ab_lb S (ab_fl S (32 + 4 * j + sp)) : Nat) : Int)) := by
  by_cases hp : 0 < S 14 (32 + 4 * j + sp)
  · obtain ⟨e, e1, e2, -, -, e5, e6, e7, e8⟩ := ab_hd h (q := 32 + 4 * j + sp) (by omega) hp
    obtain ⟨f1, f2, f3, f4⟩ := ab_lbv e2
    refine Or.inr ⟨hp, f2, ?_⟩
    rw [ab_w, if_neg (by omega), if_neg (by omega), if_pos (by omega), f1]
    omega
  · have := (h.s4 (L := 32 + 4 * j + sp) (by omega)).1
    have h0 : S 14 (32 + 4 * j + sp) = 0 := by omega
    exact Or.inl ⟨h0, by rw [ab_w, if_pos (Or.inl h0)]⟩
theorem ab_qat_out {n i p : Nat} (hn : n < 8) (hi : i < lc_d n) : ab_qat (lc_out n i) p = lc_in n p ∧ ab_m (lc_out n i) = lc_d n := by
  unfold lc_d at hi
  by_cases h : n < 4
  · rw [if_pos h] at hi
    have hin : lc_in n p = if p < 4 then 4 * n + p else 48 + 4 * (p - 4) + n := by rw [lc_in, if_pos h]
    have hd : lc_d n = 8 := by rw [lc_d, if_pos h]
    by_cases h2 : i < 4
    · have ho : lc_out n i = 16 + 4 * n + i := by rw [lc_out, if_pos h, if_pos h2]
      rw [ho, hin, hd]
      refine ⟨?_, ?_⟩
      · rw [ab_qat, if_neg (by omega), if_neg (by omega), show (16 + 4 * n + i - 16) / 4 = n by omega]
      · rw [ab_m, if_neg (by omega)]
    · have ho : lc_out n i = 32 + 4 * n + (i - 4) := by rw [lc_out, if_pos h, if_neg h2]
      rw [ho, hin, hd]
      refine ⟨?_, ?_⟩
      · rw [ab_qat, if_neg (by omega), if_pos (by omega), show (32 + 4 * n + (i - 4) - 32) / 4 = n by omega]
      · rw [ab_m, if_neg (by omega)]
  · rw [if_neg h] at hi
    have hin : lc_in n p = 32 + 4 * p + (n - 4) := by rw [lc_in, if_neg h]
    have hd : lc_d n = 4 := by rw [lc_d, if_neg h]
    have ho : lc_out n i = 48 + 4 * (n - 4) + i := by rw [lc_out, if_neg h]
    rw [ho, hin, hd]
    refine ⟨?_, ?_⟩
    · rw [ab_qat, if_pos (by omega), show (48 + 4 * (n - 4) + i - 48) / 4 = n - 4 by omega]
    · rw [ab_m, if_pos (by omega)]
theorem ab_wl_eq (S : ab_S) (n q : Nat) : ab_wl S n q = if ab_w S q = -1 then -1 else if ab_w S q < 32 then ab_w S q - 16 - 4 * (n : Int) else 4 + (ab_w S q - 32 - 4 * (n : Int)) := rfl
theorem wn_iff {S : ab_S} {σ : am_M} {b : Int} (h : ab_I S b) (W : ab_WN S σ) {n i p : Nat} (hn : n < 8) (hi : i < lc_d n) (hp : p < lc_d n) :
    (ab_shut S (lc_out n i) = false → (σ 18 n p = (i : Int) ↔ ab_w S (ab_qat (lc_out n i) p) = ((lc_out n i : Nat) : Int))) ∧ (ab_shut S (lc_out n i) = true → ¬ σ 18 n p = (i : Int)) := by
  rw [(ab_qat_out hn hi).1]
  by_cases h4 : n < 4
  · have hd : lc_d n = 8 := by rw [lc_d, if_pos h4]
    rw [hd] at hi hp
    rw [W.1 n p h4 hp, ab_wl_eq]
    have hw := ab_w_leaf h (lc_in_nq h4 hp)
    generalize ab_w S (lc_in n p) = w at hw ⊢
    by_cases h2 : i < 4
    · have ho : lc_out n i = 16 + 4 * n + i := by rw [lc_out, if_pos h4, if_pos h2]
      rw [ho]
      have hs : ab_shut S (16 + 4 * n + i) = false := by
        rw [ab_shut, if_neg (by omega)]
        simp
        omega
      refine ⟨fun _ => ?_, fun z => by rw [hs] at z; cases z⟩
      rcases hw with hw | hw | hw
      · rw [if_pos hw]; omega
      · rw [if_neg (by omega), if_pos (by omega)]; omega
      · rw [if_neg (by omega), if_neg (by omega)]; omega
    · have ho : lc_out n i = 32 + 4 * n + (i - 4) := by rw [lc_out, if_pos h4, if_neg h2]
      rw [ho]
      have hs : ab_shut S (32 + 4 * n + (i - 4)) = decide (¬ S 18 (4 * n + (i - 4)) = 0) := by
        rw [ab_shut, if_neg (by omega), show 32 + 4 * n + (i - 4) - 32 = 4 * n + (i - 4) by omega, show decide (32 ≤ 32 + 4 * n + (i - 4)) = true from decide_eq_true (by omega), Bool.true_and]
      refine ⟨fun _ => ?_, fun z => ?_⟩
      · rcases hw with hw | hw | hw
        · rw [if_pos hw]; omega
        · rw [if_neg (by omega), if_pos (by omega)]; omega
        · rw [if_neg (by omega), if_neg (by omega)]; omega
      · rw [hs, decide_eq_true_eq] at z
        rcases hw with hw | hw | ⟨hw, hw2, hw3⟩
        · rw [if_pos hw]; omega
        · rw [if_neg (by omega), if_pos (by omega)]; omega
        · rw [if_neg (by omega), if_neg (by omega)]
          intro e
          rw [show (w - 32).toNat = 4 * n + (i - 4) by omega] at hw3
          exact z hw3
  · have hd : lc_d n = 4 := by rw [lc_d, if_neg h4]
    rw [hd] at hi hp
    have hin : lc_in n p = 32 + 4 * p + (n - 4) := by rw [lc_in, if_neg h4]
    have ho : lc_out n i = 48 + 4 * (n - 4) + i := by rw [lc_out, if_neg h4]
    have hs : ab_shut S (48 + 4 * (n - 4) + i) = decide (¬ S 18 (4 * i + (n - 4)) = 0) := by
      rw [ab_shut, if_pos (by omega), show (48 + 4 * (n - 4) + i - 48) % 4 = i by omega, show (48 + 4 * (n - 4) + i - 48) / 4 = n - 4 by omega]
    have hW := W.2 (n - 4) p (by omega) hp
    rw [show 4 + (n - 4) = n by omega] at hW
    rw [hW, hin, ho, hs, ab_ws]
    rcases ab_w_spine h (sp := n - 4) (j := p) (by omega) hp with ⟨w1, w2⟩ | ⟨w1, w2, w3⟩
    · rw [if_pos w1, w2]
      exact ⟨fun _ => by omega, fun _ => by omega⟩
    · rw [if_neg (by omega), w3]
      refine ⟨fun z => ?_, fun z => ?_⟩
      · rw [decide_eq_false_iff_not, Classical.not_not] at z
        by_cases q : S 18 (4 * ab_lb S (ab_fl S (32 + 4 * p + (n - 4))) + (n - 4)) = 0
        · rw [if_pos q]; omega
        · rw [if_neg q]
          refine ⟨fun e => by omega, fun e => ?_⟩
          exfalso
          apply q
          rw [show ab_lb S (ab_fl S (32 + 4 * p + (n - 4))) = i by omega]
          exact z
      · rw [decide_eq_true_eq] at z
        by_cases q : S 18 (4 * ab_lb S (ab_fl S (32 + 4 * p + (n - 4))) + (n - 4)) = 0
        · rw [if_pos q]
          intro e
          rw [show ab_lb S (ab_fl S (32 + 4 * p + (n - 4))) = i by omega] at q
          exact z q
        · rw [if_neg q]; omega
theorem pk_find {S : ab_S} {σ : am_M} {b : Int} (h : ab_I S b) (W : ab_WN S σ) {n i : Nat} (hn : n < 8) (hi : i < lc_d n) (h4 : σ 11 (lc_out n i) 4 = S 13 (lc_out n i)) (h5 : σ 11 (lc_out n i) 5 = S 15 (lc_out n i)) :
    lk_find σ (lc_out n i) n (lc_d n) (i : Int) = if ab_pick S (lc_out n i) = -1 then none else some (ab_pick S (lc_out n i)).toNat := by
  have ho := ab_ord_out hn hi
  have hc := (h.s4 (L := lc_out n i) ho.2.2).2.2.1
  have hm : ab_m (lc_out n i) = lc_d n := (ab_qat_out (p := 0) hn hi).2
  have hd : 0 < lc_d n := by unfold lc_d; split <;> omega
  have hq := (h.2.2.2.1 (lc_out n i) ho.2.2).2.2.2
  generalize hL : lc_out n i = L at ho hc hm hq h4 h5 ⊢
  have hplc : ∀ s : Nat, ((S 15 L + (s : Int)) % ((lc_d n : Nat) : Int)).toNat = ab_plc S L s := fun s => by rw [ab_plc, hm]
  have hplt : ∀ s : Nat, ab_plc S L s < lc_d n := fun s => by
    rw [← hplc]
    have := Int.emod_lt_of_pos (S 15 L + (s : Int)) (b := ((lc_d n : Nat) : Int)) (by omega)
    have := Int.emod_nonneg (S 15 L + (s : Int)) (b := ((lc_d n : Nat) : Int)) (by omega)
    omega
  by_cases z : S 13 L = 0
  · have e : ab_pick S L = -1 := by rw [ab_pick, if_neg (by omega)]
    rw [e, if_pos rfl, lk_find, if_pos (h4.trans z)]
  · rw [lk_find, if_neg (by rw [h4]; exact z), h5]
    simp only [hplc]
    cases hs : ab_shut S L with
    | true =>
      have e : ab_pick S L = -1 := by rw [ab_pick, if_neg (by rw [hs]; simp)]
      rw [e, if_pos rfl]
      rw [ab_scan_no _ _ (fun s _ _ => by
        have := (wn_iff h W hn hi (hplt s)).2
        rw [hL] at this
        exact decide_eq_false (this hs))]
      rfl
    | false =>
      have e : ab_pick S L = (match ab_scan (fun s => decide (ab_w S (ab_qat L (ab_plc S L s)) = (L : Int))) 1 (lc_d n) with
        | none => -1
        | some s => (ab_plc S L s : Int)) := by
        rw [ab_pick, if_pos ⟨by omega, hs⟩, hm]
        rfl
      rw [e]
      rw [ab_scan_cg (t' := fun s => decide (ab_w S (ab_qat L (ab_plc S L s)) = (L : Int))) _ _ (fun s _ _ => by
        have := (wn_iff h W hn hi (hplt s)).1
        rw [hL] at this
        exact decide_eq_decide.mpr (this hs))]
      cases ab_scan (fun s => decide (ab_w S (ab_qat L (ab_plc S L s)) = (L : Int))) 1 (lc_d n) with
      | none => rfl
      | some s =>
        show some (ab_plc S L s) = if ((ab_plc S L s : Nat) : Int) = -1 then none else some (((ab_plc S L s : Nat) : Int)).toNat
        rw [if_neg (by omega), Int.toNat_natCast]
