/-! the state between picking and the end of a tick -/
def ab_s (X : Nat → Bool) (L : Nat) : Nat → Bool := fun i => X i || decide (i = L)
def ab_XS (S : ab_S) (Y : Nat → Bool) : Nat → Bool := fun i => Y i && decide (¬ ab_pick S i = -1)
def ab_DS (S : ab_S) (Y : Nat → Bool) : Nat → Bool := fun q => decide (0 ≤ ab_w S q) && Y (ab_w S q).toNat && decide (¬ ab_pick S (ab_w S q).toNat = -1) && decide (ab_qat (ab_w S q).toNat (ab_pick S (ab_w S q).toNat).toNat = q)
def ab_hc (S : ab_S) (M : Nat) (i : Nat) : Prop := (S 0 i).toNat < M ∧ ab_F S (S 0 i).toNat = (i : Int)
section ZED
variable {S : ab_S} {XQ XC X D : Nat → Bool} {K M : Nat}
theorem Z4 (i : Nat) : ab_Z S XQ XC X D K M 4 i = S 4 i + (if (S 0 i).toNat < M ∧ ab_F S (S 0 i).toNat = (i : Int) then 1 else 0) := by simp only [ab_Z, Nat.reduceEqDiff, if_true, if_false]
theorem Z12 (i : Nat) : ab_Z S XQ XC X D K M 12 i = if (S 0 i).toNat < M ∧ ab_F S (S 0 i).toNat = (i : Int) then S 19 3 else S 12 i := by simp only [ab_Z, Nat.reduceEqDiff, if_true, if_false]
theorem Z10 (i : Nat) : ab_Z S XQ XC X D K M 10 i = S 10 i + (if (S 0 i).toNat < M ∧ ab_F S (S 0 i).toNat = (i : Int) then ab_1 (ab_new S i) else 0) := by simp only [ab_Z, Nat.reduceEqDiff, if_true, if_false]
theorem Z11 (i : Nat) : ab_Z S XQ XC X D K M 11 i = if (S 0 i).toNat < M ∧ ab_F S (S 0 i).toNat = (i : Int) ∧ ab_new S i = true then ab_chosen S i (S 10 i) else S 11 i := by simp only [ab_Z, Nat.reduceEqDiff, if_true, if_false]
theorem Z13 (i : Nat) : ab_Z S XQ XC X D K M 13 i = S 13 i - (if i < 16 then (if i < K ∧ ¬ ab_F S i = -1 then 1 else 0) else ab_1 (XC i)) := by simp only [ab_Z, Nat.reduceEqDiff, if_true, if_false]
theorem Z14 (i : Nat) : ab_Z S XQ XC X D K M 14 i = S 14 i - ab_1 (D i) + (if i < 16 then (if i < M ∧ ¬ ab_F S i = -1 then 1 else 0) else ab_1 (X i)) := by simp only [ab_Z, Nat.reduceEqDiff, if_true, if_false]
theorem Z15 (i : Nat) : ab_Z S XQ XC X D K M 15 i = if 16 ≤ i ∧ XQ i = true ∧ ¬ ab_pick S i = -1 then ab_pick S i else S 15 i := by simp only [ab_Z, Nat.reduceEqDiff, if_true, if_false]
theorem Z16 (i : Nat) : ab_Z S XQ XC X D K M 16 i = ab_op S K i := by simp only [ab_Z, Nat.reduceEqDiff, if_true, if_false]
theorem Z17 (i : Nat) : ab_Z S XQ XC X D K M 17 i = if i < K ∧ ¬ ab_F S i = -1 then ab_F S i else S 17 i := by simp only [ab_Z, Nat.reduceEqDiff, if_true, if_false]
theorem Z24 (i : Nat) : ab_Z S XQ XC X D K M 24 i = S 24 i + (if i / 64 = ab_T S then ab_1 (D (i % 64)) else 0) := by simp only [ab_Z, Nat.reduceEqDiff, if_true, if_false]
theorem ZQ {x : Nat} (hx : x < 4) (i : Nat) : ab_Z S XQ XC X D K M (20 + x) i = if i / 4 < 16 ∧ i / 4 < M ∧ ¬ ab_F S (i / 4) = -1 ∧ ((i % 4 : Nat) : Int) = S 14 (i / 4) - ab_1 (D (i / 4)) then ab_pk S (ab_F S (i / 4)).toNat x
     else if 16 ≤ i / 4 ∧ X (i / 4) = true ∧ ((i % 4 : Nat) : Int) = S 14 (i / 4) - ab_1 (D (i / 4)) then S (20 + x) (4 * ab_qat (i / 4) (ab_pick S (i / 4)).toNat)
     else if D (i / 4) = true then S (20 + x) (i + 1) else S (20 + x) i := by
  unfold ab_Z
  rw [if_neg (by omega), if_neg (by omega), if_neg (by omega), if_neg (by omega), if_neg (by omega), if_neg (by omega), if_neg (by omega), if_neg (by omega), if_neg (by omega), if_neg (by omega), if_pos (by omega), show 20 + x - 20 = x by omega]
theorem Zo {f : Nat} (hf : f < 4 ∨ (5 ≤ f ∧ f < 10) ∨ f = 18 ∨ f = 19 ∨ 25 ≤ f) (i : Nat) : ab_Z S XQ XC X D K M f i = S f i := by
  unfold ab_Z
  rw [if_neg (by omega), if_neg (by omega), if_neg (by omega), if_neg (by omega), if_neg (by omega), if_neg (by omega), if_neg (by omega), if_neg (by omega), if_neg (by omega), if_neg (by omega), if_neg (by omega)]
theorem ab_ZT : ab_T (ab_Z S XQ XC X D K M) = ab_T S := ab_T_cg (fun i => Zo (by omega) i)
theorem ZD {D' : Nat → Bool} {f : Nat} (hf : ¬ f = 14) (h2 : ¬ f = 24) (h3 : ¬ (20 ≤ f ∧ f ≤ 23)) (i : Nat) : ab_Z S XQ XC X D K M f i = ab_Z S XQ XC X D' K M f i := by
  simp only [ab_Z, if_neg hf, if_neg h2, if_neg h3]
theorem ZX {X' : Nat → Bool} {f : Nat} (hf : ¬ f = 14) (h3 : ¬ (20 ≤ f ∧ f ≤ 23)) (i : Nat) : ab_Z S XQ XC X D K M f i = ab_Z S XQ XC X' D K M f i := by
  simp only [ab_Z, if_neg hf, if_neg h3]
theorem ZC {XC' : Nat → Bool} {f : Nat} (hf : ¬ f = 13) (i : Nat) : ab_Z S XQ XC X D K M f i = ab_Z S XQ XC' X D K M f i := by
  simp only [ab_Z, if_neg hf]
theorem ZXQ {XQ' : Nat → Bool} {f : Nat} (hf : ¬ f = 15) (i : Nat) : ab_Z S XQ XC X D K M f i = ab_Z S XQ' XC X D K M f i := by
  simp only [ab_Z, if_neg hf]
theorem ab_sL (X : Nat → Bool) (L : Nat) : ab_s X L L = true := by simp [ab_s]
theorem ab_so (X : Nat → Bool) {L i : Nat} (h : ¬ i = L) : ab_s X L i = X i := by simp [ab_s, h]
theorem ab_1t : ab_1 true = 1 := rfl
theorem ab_1f : ab_1 false = 0 := rfl
theorem Z_drop {q : Nat} (hq : q < 64) (hD : D q = false) (h4n : ∀ L, L < 64 → ab_Z S XQ XC X D K M 14 L ≤ 4) : ab_eq (ab_drop (ab_Z S XQ XC X D K M) q) (ab_Z S XQ XC X (ab_s D q) K M) := by
  refine ⟨fun f i hf => ?_, fun L j x hL hj hx => ?_⟩
  · by_cases e14 : f = 14
    · subst e14
      rw [ab_drop14, Z14, Z14, Z14]
      by_cases e : i = q
      · subst e; rw [if_pos rfl, ab_sL, hD, ab_1t, ab_1f]; omega
      · rw [if_neg e, ab_so _ e]
    · by_cases e24 : f = 24
      · subst e24
        rw [ab_drop24, ab_ZT, Z24, Z24]
        by_cases e : i = 64 * ab_T S + q
        · rw [if_pos e, if_pos (by omega), if_pos (by omega), show i % 64 = q by omega, ab_sL, hD, ab_1t, ab_1f]; omega
        · rw [if_neg e]
          by_cases e2 : i / 64 = ab_T S
          · rw [if_pos e2, if_pos e2, ab_so _ (by omega)]
          · rw [if_neg e2, if_neg e2]
      · rw [ab_drop_o _ _ _ _ (by omega)]
        exact ZD e14 e24 (by omega) i
  · have h4 := h4n L hL
    rw [ab_drop14] at hj
    by_cases e : L = q
    · subst e
      rw [if_pos rfl] at hj
      rw [ab_dropq _ _ _ _ hx, if_pos ⟨by omega, by omega⟩, ZQ hx, ZQ hx, show (4 * L + j + 1) / 4 = L by omega, show (4 * L + j + 1) % 4 = j + 1 by omega, show (4 * L + j) / 4 = L by omega, show (4 * L + j) % 4 = j by omega, hD, ab_sL, ab_1t, ab_1f]
      have e1 : (((j + 1 : Nat) : Int) = S 14 L - 0) = ((j : Int) = S 14 L - 1) := propext (by omega)
      simp only [e1]
      simp
    · rw [if_neg e] at hj
      rw [ab_dropq _ _ _ _ hx, if_neg (by omega), ZQ hx, ZQ hx, show (4 * L + j) / 4 = L by omega, ab_so _ e]
def ab_4 (a b c d : Int) (x : Nat) : Int := if x = 0 then a else if x = 1 then b else if x = 2 then c else d
theorem ab_putq (T : ab_S) (L : Nat) (a b c d : Int) {x : Nat} (hx : x < 4) (i : Nat) : ab_put T L a b c d (20 + x) i = if i = 4 * L + (T 14 L).toNat then ab_4 a b c d x else T (20 + x) i := by
  unfold ab_put ab_4
  rw [if_neg (by omega)]
  match x, hx with
  | 0, _ => simp
  | 1, _ => simp
  | 2, _ => simp
  | 3, _ => simp
theorem ab_put14 (T : ab_S) (L : Nat) (a b c d : Int) (i : Nat) : ab_put T L a b c d 14 i = if i = L then T 14 L + 1 else T 14 i := by simp [ab_put]
theorem ab_put_o (T : ab_S) (L : Nat) (a b c d : Int) {f : Nat} (h : ¬ f = 14) (h2 : ¬ (20 ≤ f ∧ f ≤ 23)) (i : Nat) : ab_put T L a b c d f i = T f i := by
  unfold ab_put
  rw [if_neg (by omega), if_neg (by omega), if_neg (by omega), if_neg (by omega), if_neg (by omega)]
theorem Z_put {L : Nat} (h1 : 16 ≤ L) (h2 : L < 64) (hX : X L = false) (h0 : 0 ≤ ab_Z S XQ XC X D K M 14 L ∧ ab_Z S XQ XC X D K M 14 L < 4) (h4n : ∀ L, L < 64 → ab_Z S XQ XC X D K M 14 L ≤ 4) {a b c d : Int} (hv : ∀ x, x < 4 → ab_4 a b c d x = S (20 + x) (4 * ab_qat L (ab_pick S L).toNat)) :
    ab_eq (ab_put (ab_Z S XQ XC X D K M) L a b c d) (ab_Z S XQ XC (ab_s X L) D K M) := by
  have hz := Z14 (S := S) (XQ := XQ) (XC := XC) (X := X) (D := D) (K := K) (M := M) L
  rw [if_neg (by omega), hX, ab_1f] at hz
  refine ⟨fun f i hf => ?_, fun L' j x hL hj hx => ?_⟩
  · by_cases e14 : f = 14
    · subst e14
      rw [ab_put14, Z14 i, Z14 i]
      by_cases e : i = L
      · subst e; rw [if_pos rfl, ab_sL, if_neg (by omega), hz, ab_1t]; omega
      · rw [if_neg e, ab_so _ e]
    · rw [ab_put_o _ _ _ _ _ _ e14 (by omega)]
      exact ZX e14 (by omega) i
  · have h4 := h4n L' hL
    rw [ab_put14] at hj
    by_cases e : L' = L
    · subst e
      rw [if_pos rfl] at hj
      rw [ab_putq _ _ _ _ _ _ hx, ZQ hx, ZQ hx, show (4 * L' + j) / 4 = L' by omega, show (4 * L' + j) % 4 = j by omega, hX, ab_sL]
      by_cases e2 : (j : Int) = ab_Z S XQ XC X D K M 14 L'
      · rw [if_pos (by omega), hv x hx, if_neg (by omega), if_pos ⟨h1, rfl, by omega⟩]
      · rw [if_neg (by omega), if_neg (by omega), if_neg (by simp), if_neg (show ¬ (L' < 16 ∧ L' < M ∧ ¬ ab_F S L' = -1 ∧ (j : Int) = S 14 L' - ab_1 (D L')) by omega), if_neg (show ¬ (16 ≤ L' ∧ true = true ∧ (j : Int) = S 14 L' - ab_1 (D L')) by omega)]
    · rw [if_neg e] at hj
      rw [ab_putq _ _ _ _ _ _ hx, if_neg (by omega), ZQ hx, ZQ hx, show (4 * L' + j) / 4 = L' by omega, ab_so _ e]
theorem Z_cred {L : Nat} (h1 : 16 ≤ L) (hX : XC L = false) (g i : Nat) : ab_u (ab_Z S XQ XC X D K M) 13 L (ab_Z S XQ XC X D K M 13 L - 1) g i = ab_Z S XQ (ab_s XC L) X D K M g i := by
  rw [ab_u_app]
  by_cases e : g = 13
  · subst e
    rw [Z13, Z13, Z13]
    by_cases e2 : i = L
    · subst e2; rw [if_pos ⟨rfl, rfl⟩, if_neg (by omega), if_neg (by omega), ab_sL, hX, ab_1t, ab_1f]; omega
    · rw [if_neg (by omega), ab_so _ e2]
  · rw [if_neg (by omega)]
    exact ZC e i
theorem Z_put_cg {T T' : ab_S} (h : ∀ g i, T g i = T' g i) : T = T' := funext fun g => funext fun i => h g i
/-! what is picked -/
theorem pk_fact {b : Int} (h : ab_I S b) {L : Nat} (h2 : L < 64) (hp : ¬ ab_pick S L = -1) : ab_w S (ab_qat L (ab_pick S L).toNat) = (L : Int) ∧ 0 < S 13 L ∧ 0 ≤ ab_pick S L ∧ (ab_pick S L).toNat < ab_m L ∧ ab_shut S L = false := by
  by_cases q : 0 < S 13 L ∧ ab_shut S L = false
  · have e : ab_pick S L = (match ab_scan (fun s => decide (ab_w S (ab_qat L (ab_plc S L s)) = (L : Int))) 1 (ab_m L) with
        | none => -1
        | some s => (ab_plc S L s : Int)) := by
      rw [ab_pick, if_pos q]
      rfl
    cases hs : ab_scan (fun s => decide (ab_w S (ab_qat L (ab_plc S L s)) = (L : Int))) 1 (ab_m L) with
    | none => rw [hs] at e; exact absurd e hp
    | some s =>
      have e2 : ab_pick S L = ((ab_plc S L s : Nat) : Int) := by rw [e, hs]
      obtain ⟨t1, -, -⟩ := ab_scan_some _ _ hs
      have t2 := of_decide_eq_true t1
      rw [e2, Int.toNat_natCast]
      refine ⟨t2, q.1, by omega, ?_, q.2⟩
      have hm : (0 : Int) < ((ab_m L : Nat) : Int) := by unfold ab_m; split <;> omega
      have := Int.emod_lt_of_pos (S 15 L + (s : Int)) hm
      have := Int.emod_nonneg (S 15 L + (s : Int)) (b := ((ab_m L : Nat) : Int)) (by omega)
      unfold ab_plc
      omega
  · exact absurd (by rw [ab_pick, if_neg q]) hp
theorem qat_lt {L j : Nat} (h1 : 16 ≤ L) (h2 : L < 64) (hj : j < ab_m L) : ab_qat L j < 64 ∧ ¬ ab_qat L j = L ∧ ¬ (16 ≤ ab_qat L j ∧ ab_qat L j < 32) := by
  unfold ab_m at hj
  by_cases a : 48 ≤ L
  · rw [if_pos a] at hj
    rw [ab_qat, if_pos a]; omega
  · rw [if_neg a] at hj
    by_cases c : 32 ≤ L
    · rw [ab_qat, if_neg a, if_pos c]
      by_cases d : j < 4
      · rw [if_pos d]; omega
      · rw [if_neg d]; omega
    · rw [ab_qat, if_neg a, if_neg c]
      by_cases d : j < 4
      · rw [if_pos d]; omega
      · rw [if_neg d]; omega
theorem ab_w_pos {b : Int} (h : ab_I S b) {q : Nat} (hq : q < 64) (hw : ¬ ab_w S q = -1) : 0 < S 14 q := by
  have := (h.s4 hq).1
  rcases (by omega : S 14 q = 0 ∨ 0 < S 14 q) with z | z
  · exact absurd (by rw [ab_w, if_pos (Or.inl z)]) hw
  · exact z
theorem DS_step {b : Int} (h : ab_I S b) {Y Y' : Nat → Bool} {L : Nat} (h2 : L < 64) (hY : ∀ i, Y' i = (Y i || decide (i = L))) (hp : ¬ ab_pick S L = -1) : ab_DS S Y' = ab_s (ab_DS S Y) (ab_qat L (ab_pick S L).toNat) := by
  funext q
  have p1 := (pk_fact h h2 hp).1
  unfold ab_DS ab_s
  rw [hY]
  by_cases e : q = ab_qat L (ab_pick S L).toNat
  · subst e
    rw [p1, Int.toNat_natCast]
    simp [hp]
  · by_cases hw : ab_w S q = (L : Int)
    · have t1 : ¬ ab_qat L (ab_pick S L).toNat = q := fun z => e z.symm
      simp [hw, t1, e]
    · by_cases h0 : 0 ≤ ab_w S q
      · have : ¬ (ab_w S q).toNat = L := by omega
        simp [this, e]
      · simp [h0, e]
theorem DS_none {Y Y' : Nat → Bool} {L : Nat} (hY : ∀ i, Y' i = (Y i || decide (i = L))) (hp : ab_pick S L = -1) : ab_DS S Y' = ab_DS S Y := by
  funext q
  unfold ab_DS
  rw [hY]
  by_cases e : (ab_w S q).toNat = L
  · rw [e, hp]; simp
  · simp [e]
theorem XS_step {Y Y' : Nat → Bool} {L : Nat} (hY : ∀ i, Y' i = (Y i || decide (i = L))) (hp : ¬ ab_pick S L = -1) : ab_XS S Y' = ab_s (ab_XS S Y) L := by
  funext i
  unfold ab_XS ab_s
  rw [hY]
  by_cases e : i = L
  · subst e; simp [hp]
  · simp [e]
theorem XS_none {Y Y' : Nat → Bool} {L : Nat} (hY : ∀ i, Y' i = (Y i || decide (i = L))) (hp : ab_pick S L = -1) : ab_XS S Y' = ab_XS S Y := by
  funext i
  unfold ab_XS
  rw [hY]
  by_cases e : i = L
  · subst e; simp [hp]
  · simp [e]
theorem DS_no {b : Int} (h : ab_I S b) {Y : Nat → Bool} {L : Nat} (h2 : L < 64) (hY : Y L = false) (hp : ¬ ab_pick S L = -1) : ab_DS S Y (ab_qat L (ab_pick S L).toNat) = false := by
  have p1 := (pk_fact h h2 hp).1
  unfold ab_DS
  rw [p1, Int.toNat_natCast, hY]
  simp
theorem XS_no {Y : Nat → Bool} {L : Nat} (hY : Y L = false) : ab_XS S Y L = false := by
  unfold ab_XS; rw [hY]; rfl
theorem DS_pos {b : Int} (h : ab_I S b) {Y : Nat → Bool} {q : Nat} (hq : q < 64) (hd : ab_DS S Y q = true) : 0 < S 14 q := by
  unfold ab_DS at hd
  simp only [Bool.and_eq_true, decide_eq_true_eq] at hd
  exact ab_w_pos h hq (by omega)
theorem XS_pos {b : Int} (h : ab_I S b) {Y : Nat → Bool} {L : Nat} (hL : L < 64) (hx : ab_XS S Y L = true) : 0 < S 13 L ∧ ¬ ab_pick S L = -1 := by
  unfold ab_XS at hx
  simp only [Bool.and_eq_true, decide_eq_true_eq] at hx
  exact ⟨(pk_fact h hL hx.2).2.1, hx.2⟩
theorem F_fact {b : Int} (h : ab_I S b) {k : Nat} (hF : ¬ ab_F S k = -1) : 0 ≤ ab_F S k ∧ ab_F S k < S 19 4 ∧ 0 < S 13 k ∧ ab_may S (ab_op S k) (ab_F S k).toNat k = true := by
  have hn := h.2.1.2.2.2.2
  by_cases q : 0 < S 13 k
  · have e : ab_F S k = (match ab_scan (fun s => ab_may S (ab_op S k) ((S 17 k + (s : Int)) % S 19 4).toNat k) 1 (S 19 4).toNat with
        | none => -1
        | some s => (S 17 k + (s : Int)) % S 19 4) := by
      rw [ab_F, ab_self, if_pos q]
      rfl
    cases hs : ab_scan (fun s => ab_may S (ab_op S k) ((S 17 k + (s : Int)) % S 19 4).toNat k) 1 (S 19 4).toNat with
    | none => rw [hs] at e; exact absurd e hF
    | some s =>
      have e2 : ab_F S k = (S 17 k + (s : Int)) % S 19 4 := by rw [e, hs]
      obtain ⟨t1, t2, t3⟩ := ab_scan_some _ _ hs
      have h1 := Int.emod_lt_of_pos (S 17 k + (s : Int)) (b := S 19 4) (by omega)
      have h2 := Int.emod_nonneg (S 17 k + (s : Int)) (b := S 19 4) (by omega)
      rw [e2]
      exact ⟨h2, h1, q, t1⟩
  · exact absurd (by rw [ab_F, ab_self, if_neg q]) hF
theorem may_fact {op : Nat → Int} {f k : Nat} (h : ab_may S op f k = true) : S 0 f = (k : Int) ∧ S 3 f ≤ S 19 3 ∧ S 4 f - S 6 f < S 2 f ∧ (ab_far S f = true → ¬ ab_many S (ab_la S f) (ab_lb S f) = 0) ∧ op (S 1 f).toNat < S 19 2 := by
  simp only [ab_may, Bool.and_eq_true, decide_eq_true_eq, Bool.or_eq_true, Bool.not_eq_true'] at h
  obtain ⟨⟨⟨⟨h1, h2⟩, h3⟩, h4⟩, h5⟩ := h
  refine ⟨h1, h2, h3, fun z => ?_, h5⟩
  rcases h4 with h4 | h4
  · rw [z] at h4; cases h4
  · exact h4
theorem ab_opS (S : ab_S) (k t : Nat) : ab_op S (k + 1) t = ab_op S k t + (if ¬ ab_F S k = -1 ∧ (S 1 (ab_F S k).toNat).toNat = t then 1 else 0) := rfl
theorem Z_K0 (hF : ab_F S K = -1) : ab_Z S XQ XC X D (K + 1) M = ab_Z S XQ XC X D K M := by
  have c : ∀ i, (i < K + 1 ∧ ¬ ab_F S i = -1) = (i < K ∧ ¬ ab_F S i = -1) := fun i => propext (by
    constructor
    · rintro ⟨a, z⟩
      refine ⟨?_, z⟩
      rcases (by omega : i < K ∨ i = K) with y | y
      · exact y
      · subst y; exact absurd hF z
    · rintro ⟨a, z⟩
      exact ⟨by omega, z⟩)
  have c2 : ab_op S (K + 1) = ab_op S K := funext fun t => by rw [ab_opS, hF]; simp
  funext f i
  simp only [ab_Z, c, c2]
theorem Z_M0 (hF : ab_F S M = -1) : ab_Z S XQ XC X D K (M + 1) = ab_Z S XQ XC X D K M := by
  have c : ∀ i, (i < M + 1 ∧ ¬ ab_F S i = -1) = (i < M ∧ ¬ ab_F S i = -1) := fun i => propext (by
    constructor
    · rintro ⟨a, z⟩
      refine ⟨?_, z⟩
      rcases (by omega : i < M ∨ i = M) with y | y
      · exact y
      · subst y; exact absurd hF z
    · rintro ⟨a, z⟩
      exact ⟨by omega, z⟩)
  have c2 : ∀ (i : Nat) (P : Prop), (i < M + 1 ∧ ¬ ab_F S i = -1 ∧ P) = (i < M ∧ ¬ ab_F S i = -1 ∧ P) := fun i P => propext (by
    rw [← and_assoc, c, and_assoc])
  have c3 : ∀ i : Nat, ((S 0 i).toNat < M + 1 ∧ ab_F S (S 0 i).toNat = (i : Int)) = ((S 0 i).toNat < M ∧ ab_F S (S 0 i).toNat = (i : Int)) := fun i => propext (by
    constructor
    · rintro ⟨a, z⟩
      refine ⟨?_, z⟩
      rcases (by omega : (S 0 i).toNat < M ∨ (S 0 i).toNat = M) with y | y
      · exact y
      · rw [y, hF] at z; omega
    · rintro ⟨a, z⟩
      exact ⟨by omega, z⟩)
  have c4 : ∀ (i : Nat) (P : Prop), ((S 0 i).toNat < M + 1 ∧ ab_F S (S 0 i).toNat = (i : Int) ∧ P) = ((S 0 i).toNat < M ∧ ab_F S (S 0 i).toNat = (i : Int) ∧ P) := fun i P => propext (by
    rw [← and_assoc, c3, and_assoc])
  funext f i
  simp only [ab_Z, c, c2, c3, c4]
theorem Z_K {f : Nat} (hK : K < 16) (hF : ab_F S K = (f : Int)) (g i : Nat) : ab_Z S XQ XC X D (K + 1) M g i = if g = 13 ∧ i = K then ab_Z S XQ XC X D K M 13 K - 1 else if g = 16 ∧ i = (S 1 f).toNat then ab_Z S XQ XC X D K M 16 i + 1 else if g = 17 ∧ i = K then (f : Int) else ab_Z S XQ XC X D K M g i := by
  by_cases e13 : g = 13
  · subst e13
    by_cases e : i = K
    · subst e
      rw [if_pos ⟨rfl, rfl⟩, Z13, Z13, if_pos hK, if_pos hK, if_pos ⟨by omega, by omega⟩, if_neg (by omega)]; omega
    · rw [if_neg (by omega), if_neg (by omega), if_neg (by omega), Z13, Z13]
      have c : (i < K + 1 ∧ ¬ ab_F S i = -1) = (i < K ∧ ¬ ab_F S i = -1) := propext (by omega)
      simp only [c]
  · rw [if_neg (by omega)]
    by_cases e16 : g = 16
    · subst e16
      rw [Z16, Z16, ab_opS, hF, Int.toNat_natCast]
      by_cases e : i = (S 1 f).toNat
      · rw [if_pos ⟨by omega, e.symm⟩, if_pos ⟨rfl, e⟩]
      · rw [if_neg (fun z => e z.2.symm), if_neg (fun z => e z.2), if_neg (by omega)]; omega
    · rw [if_neg (by omega)]
      by_cases e17 : g = 17
      · subst e17
        rw [Z17, Z17]
        by_cases e : i = K
        · subst e; rw [if_pos ⟨by omega, by omega⟩, if_pos ⟨rfl, rfl⟩, hF]
        · rw [if_neg (by omega : ¬ (17 = 17 ∧ i = K))]
          have c : (i < K + 1 ∧ ¬ ab_F S i = -1) = (i < K ∧ ¬ ab_F S i = -1) := propext (by omega)
          simp only [c]
      · rw [if_neg (by omega)]
        simp only [ab_Z, if_neg e13, if_neg e16, if_neg e17]
/-- the flow's own fields when its host sends -/
def ab_V (S T : ab_S) (f : Nat) : ab_S := fun g i =>
  if g = 4 ∧ i = f then S 4 f + 1 else if g = 12 ∧ i = f then S 19 3 else if g = 10 ∧ i = f then S 10 f + ab_1 (ab_new S f) else if g = 11 ∧ i = f then (if ab_new S f = true then ab_chosen S f (S 10 f) else S 11 f) else T g i
theorem ab_V_o (S T : ab_S) (f g i : Nat) (h : ¬ (g = 4 ∨ g = 10 ∨ g = 11 ∨ g = 12)) : ab_V S T f g i = T g i := by
  unfold ab_V; rw [if_neg (by omega), if_neg (by omega), if_neg (by omega), if_neg (by omega)]
theorem hc_step {f : Nat} (hF : ab_F S M = (f : Int)) (h0 : S 0 f = (M : Int)) (i : Nat) : ((S 0 i).toNat < M + 1 ∧ ab_F S (S 0 i).toNat = (i : Int)) ↔ (((S 0 i).toNat < M ∧ ab_F S (S 0 i).toNat = (i : Int)) ∨ i = f) := by
  constructor
  · rintro ⟨a, z⟩
    rcases (by omega : (S 0 i).toNat < M ∨ (S 0 i).toNat = M) with y | y
    · exact Or.inl ⟨y, z⟩
    · rw [y, hF] at z; right; omega
  · rintro (⟨a, z⟩ | rfl)
    · exact ⟨by omega, z⟩
    · refine ⟨by omega, ?_⟩
      rw [h0, Int.toNat_natCast, hF]
theorem Z_M {f : Nat} (hM : M < 16) (hF : ab_F S M = (f : Int)) (hs : S 0 f = (M : Int)) (h0 : 0 ≤ ab_Z S XQ XC X D K M 14 M ∧ ab_Z S XQ XC X D K M 14 M < 4) (h4n : ∀ L, L < 64 → ab_Z S XQ XC X D K M 14 L ≤ 4) {a b c d : Int} (hv : ∀ x, x < 4 → ab_4 a b c d x = ab_pk S f x) :
    ab_eq (ab_put (ab_V S (ab_Z S XQ XC X D K M) f) M a b c d) (ab_Z S XQ XC X D K (M + 1)) := by
  have hz := Z14 (S := S) (XQ := XQ) (XC := XC) (X := X) (D := D) (K := K) (M := M) M
  rw [if_pos (by omega), if_neg (by omega)] at hz
  have hst := hc_step hF hs
  have hnf : ¬ ((S 0 f).toNat < M ∧ ab_F S (S 0 f).toNat = (f : Int)) := by omega
  refine ⟨fun g i hf => ?_, fun L' j x hL hj hx => ?_⟩
  · by_cases e14 : g = 14
    · subst e14
      rw [ab_put14, ab_V_o _ _ _ _ _ (by omega), ab_V_o _ _ _ _ _ (by omega), Z14 i, Z14 i]
      by_cases e : i = M
      · subst e
        rw [if_pos rfl, if_pos hM, if_pos ⟨by omega, by omega⟩, hz]; omega
      · rw [if_neg e]
        have c : (i < M + 1 ∧ ¬ ab_F S i = -1) = (i < M ∧ ¬ ab_F S i = -1) := propext (by omega)
        simp only [c]
    · rw [ab_put_o _ _ _ _ _ _ e14 (by omega)]
      by_cases e4 : g = 4
      · subst e4
        rw [Z4]
        by_cases e : i = f
        · subst e; rw [if_pos ((hst i).mpr (Or.inr rfl))]; simp [ab_V]
        · simp only [ab_V, e, and_false, if_false]
          rw [Z4]
          have c : ((S 0 i).toNat < M + 1 ∧ ab_F S (S 0 i).toNat = (i : Int)) = ((S 0 i).toNat < M ∧ ab_F S (S 0 i).toNat = (i : Int)) := propext ⟨fun z => ((hst i).mp z).resolve_right e, fun z => (hst i).mpr (Or.inl z)⟩
          simp only [c]
      · by_cases e12 : g = 12
        · subst e12
          rw [Z12]
          by_cases e : i = f
          · subst e; rw [if_pos ((hst i).mpr (Or.inr rfl))]; simp [ab_V]
          · simp only [ab_V, e, and_false, if_false]
            rw [Z12]
            have c : ((S 0 i).toNat < M + 1 ∧ ab_F S (S 0 i).toNat = (i : Int)) = ((S 0 i).toNat < M ∧ ab_F S (S 0 i).toNat = (i : Int)) := propext ⟨fun z => ((hst i).mp z).resolve_right e, fun z => (hst i).mpr (Or.inl z)⟩
            simp only [c]
        · by_cases e10 : g = 10
          · subst e10
            rw [Z10]
            by_cases e : i = f
            · subst e; rw [if_pos ((hst i).mpr (Or.inr rfl))]; simp [ab_V]
            · simp only [ab_V, e, and_false, if_false]
              rw [Z10]
              have c : ((S 0 i).toNat < M + 1 ∧ ab_F S (S 0 i).toNat = (i : Int)) = ((S 0 i).toNat < M ∧ ab_F S (S 0 i).toNat = (i : Int)) := propext ⟨fun z => ((hst i).mp z).resolve_right e, fun z => (hst i).mpr (Or.inl z)⟩
              simp only [c]
          · by_cases e11 : g = 11
            · subst e11
              rw [Z11]
              by_cases e : i = f
              · subst e
                have z := (hst i).mpr (Or.inr rfl)
                cases hn : ab_new S i with
                | true => rw [if_pos ⟨z.1, z.2, rfl⟩]; simp [ab_V, hn]
                | false => rw [if_neg (by simp)]; simp [ab_V, hn]
              · simp only [ab_V, e, and_false, if_false]
                rw [Z11]
                have c : ∀ P : Prop, ((S 0 i).toNat < M + 1 ∧ ab_F S (S 0 i).toNat = (i : Int) ∧ P) = ((S 0 i).toNat < M ∧ ab_F S (S 0 i).toNat = (i : Int) ∧ P) := fun P => propext ⟨fun z => by
                    have y := ((hst i).mp ⟨z.1, z.2.1⟩).resolve_right e
                    exact ⟨y.1, y.2, z.2.2⟩, fun z => by
                    have y := (hst i).mpr (Or.inl ⟨z.1, z.2.1⟩)
                    exact ⟨y.1, y.2, z.2.2⟩⟩
                simp only [c]
            · rw [ab_V_o _ _ _ _ _ (by omega)]
              unfold ab_Z
              simp only [if_neg e4, if_neg e12, if_neg e10, if_neg e11, if_neg e14]
              rw [if_neg (show ¬ (20 ≤ g ∧ g ≤ 23) by omega), if_neg (show ¬ (20 ≤ g ∧ g ≤ 23) by omega)]
  · have h4 := h4n L' hL
    rw [ab_put14, ab_V_o _ _ _ _ _ (by omega), ab_V_o _ _ _ _ _ (by omega)] at hj
    rw [ab_putq _ _ _ _ _ _ hx, ab_V_o _ _ _ _ _ (by omega), ab_V_o _ _ _ _ _ (by omega)]
    by_cases e : L' = M
    · subst e
      rw [if_pos rfl] at hj
      rw [ZQ hx, ZQ hx, show (4 * L' + j) / 4 = L' by omega, show (4 * L' + j) % 4 = j by omega]
      by_cases e2 : (j : Int) = ab_Z S XQ XC X D K L' 14 L'
      · rw [if_pos (by omega), hv x hx, if_pos ⟨hM, by omega, by omega, by omega⟩, hF, Int.toNat_natCast]
      · rw [if_neg (by omega), if_neg (show ¬(L' < 16 ∧ L' < L' ∧ ¬ ab_F S L' = -1 ∧ (j : Int) = S 14 L' - ab_1 (D L')) by omega), if_neg (show ¬(L' < 16 ∧ L' < L' + 1 ∧ ¬ ab_F S L' = -1 ∧ (j : Int) = S 14 L' - ab_1 (D L')) by omega)]
    · rw [if_neg e] at hj
      rw [if_neg (by omega), ZQ hx, ZQ hx, show (4 * L' + j) / 4 = L' by omega]
      have c : (L' < 16 ∧ L' < M + 1 ∧ ¬ ab_F S L' = -1 ∧ (((4 * L' + j) % 4 : Nat) : Int) = S 14 L' - ab_1 (D L')) = (L' < 16 ∧ L' < M ∧ ¬ ab_F S L' = -1 ∧ (((4 * L' + j) % 4 : Nat) : Int) = S 14 L' - ab_1 (D L')) := propext (by omega)
      simp only [c]
end ZED
