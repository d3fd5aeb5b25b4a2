/-! bits of the law's numbers -/
theorem lOfNat (n : Nat) : Int32.ofNat n = Int32.ofInt (n : Int) := by first | exact (Int32.ofInt_eq_ofNat).symm | rfl | simp
theorem l_and (a b : Nat) : Int32.ofInt (a : Int) &&& Int32.ofInt (b : Int) = Int32.ofInt ((a &&& b : Nat) : Int) := by
  rw [← lOfNat, ← lOfNat, ← lOfNat]
  apply Int32.toBitVec_inj.1
  show BitVec.ofNat 32 a &&& BitVec.ofNat 32 b = BitVec.ofNat 32 (a &&& b)
  apply BitVec.eq_of_getLsbD_eq
  intro i hi
  simp [hi]
theorem l_or (a b : Nat) : Int32.ofInt (a : Int) ||| Int32.ofInt (b : Int) = Int32.ofInt ((a ||| b : Nat) : Int) := by
  rw [← lOfNat, ← lOfNat, ← lOfNat]
  apply Int32.toBitVec_inj.1
  show BitVec.ofNat 32 a ||| BitVec.ofNat 32 b = BitVec.ofNat 32 (a ||| b)
  apply BitVec.eq_of_getLsbD_eq
  intro i hi
  simp [hi]
theorem l_sh : ∀ k : Fin 32, ((Int32.ofInt ((k.val : Nat) : Int) &&& 31).toBitVec.smod 32).toNat = k.val := by decide +kernel
theorem l_shr {n k : Nat} (hn : n < 2147483648) (hk : k < 32) : Int32.ofInt (n : Int) >>> (Int32.ofInt (k : Int) &&& 31) = Int32.ofInt ((n / 2 ^ k : Nat) : Int) := by
  rw [← lOfNat n, ← lOfNat (n / 2 ^ k)]
  exact pk_shrN (by omega) _ k (l_sh ⟨k, hk⟩)
theorem l_shl {n k : Nat} (hk : k < 32) (h : n * 2 ^ k < 4294967296) : Int32.ofInt (n : Int) <<< (Int32.ofInt (k : Int) &&& 31) = Int32.ofInt ((n * 2 ^ k : Nat) : Int) := by
  rw [← lOfNat n, ← lOfNat (n * 2 ^ k)]
  exact pk_shlN _ k (l_sh ⟨k, hk⟩) h
theorem l_mask (n k : Nat) : Int32.ofInt (n : Int) &&& Int32.ofInt ((2 ^ k - 1 : Nat) : Int) = Int32.ofInt ((n % 2 ^ k : Nat) : Int) := by
  rw [l_and, Nat.and_two_pow_sub_one_eq_mod]
/-! the same of numbers that are not below 0 -/
theorem i_shr {x : Int} (h0 : 0 ≤ x) (h : x < 2147483648) (k : Nat) (hk : k < 32) (p : Int) (hp : p = ((2 ^ k : Nat) : Int)) : Int32.ofInt x >>> (Int32.ofInt (k : Int) &&& 31) = Int32.ofInt (x / p) := by
  obtain ⟨n, rfl⟩ : ∃ n : Nat, x = (n : Int) := ⟨x.toNat, (Int.toNat_of_nonneg h0).symm⟩
  rw [l_shr (by omega) hk, hp]
  rfl
theorem i_mask {x : Int} (h0 : 0 ≤ x) (k : Nat) (p q : Int) (hp : p = ((2 ^ k : Nat) : Int)) (hq : q = ((2 ^ k - 1 : Nat) : Int)) : Int32.ofInt x &&& Int32.ofInt q = Int32.ofInt (x % p) := by
  obtain ⟨n, rfl⟩ : ∃ n : Nat, x = (n : Int) := ⟨x.toNat, (Int.toNat_of_nonneg h0).symm⟩
  rw [hq, l_mask, hp]
  rfl
theorem i_shl {x : Int} (h0 : 0 ≤ x) (k : Nat) (hk : k < 32) (p : Int) (hp : p = ((2 ^ k : Nat) : Int)) (h : x * p < 4294967296) : Int32.ofInt x <<< (Int32.ofInt (k : Int) &&& 31) = Int32.ofInt (x * p) := by
  obtain ⟨n, rfl⟩ : ∃ n : Nat, x = (n : Int) := ⟨x.toNat, (Int.toNat_of_nonneg h0).symm⟩
  rw [hp] at h ⊢
  rw [← Int.natCast_mul] at h
  rw [l_shl hk (by omega), Int.natCast_mul]
theorem i_or {x y : Int} (h0 : 0 ≤ x) (k : Nat) (p : Int) (hp : p = ((2 ^ k : Nat) : Int)) (hx : x < p) (hy : 0 ≤ y) : Int32.ofInt x ||| Int32.ofInt (y * p) = Int32.ofInt (x + y * p) := by
  obtain ⟨n, rfl⟩ : ∃ n : Nat, x = (n : Int) := ⟨x.toNat, (Int.toNat_of_nonneg h0).symm⟩
  obtain ⟨m, rfl⟩ : ∃ m : Nat, y = (m : Int) := ⟨y.toNat, (Int.toNat_of_nonneg hy).symm⟩
  rw [hp] at hx ⊢
  have e := Nat.two_pow_add_eq_or_of_lt (i := k) (b := n) (by omega) m
  have e2 : ((m : Int) * ((2 ^ k : Nat) : Int)) = ((m * 2 ^ k : Nat) : Int) := by rw [Int.natCast_mul]
  rw [e2, l_or, Nat.or_comm, Nat.mul_comm m, ← e]
  congr 1
  rw [Int.natCast_add]
  omega
/-! a number of sixteen bits -/
def lm (u : Nat → Bool) : Nat → Nat
  | 0 => 0
  | n + 1 => 2 ^ n * (u n).toNat + lm u n
theorem lm_lt (u : Nat → Bool) : ∀ n : Nat, lm u n < 2 ^ n
  | 0 => Nat.lt_succ_self 0
  | n + 1 => by
    have := lm_lt u n
    rw [lm, Nat.pow_succ]
    cases u n
    · show 2 ^ n * 0 + _ < _; omega
    · show 2 ^ n * 1 + _ < _; omega
theorem lm_tb (u : Nat → Bool) : ∀ n i : Nat, (lm u n).testBit i = (decide (i < n) && u i)
  | 0, i => by
    have : (0 : Nat).testBit i = false := Nat.zero_testBit i
    rw [lm, this]
    simp
  | n + 1, i => by
    rw [lm, Nat.testBit_two_pow_mul_add _ (lm_lt u n)]
    by_cases h : i < n
    · rw [if_pos h, lm_tb u n i]
      have h2 : i < n + 1 := by omega
      simp [h, h2]
    · rw [if_neg h]
      by_cases e : i = n
      · subst e
        have h2 : i < i + 1 := by omega
        rw [Nat.sub_self]
        cases u i <;> simp
      · have h2 : ¬ i < n + 1 := by omega
        obtain ⟨d, hd⟩ : ∃ d, i - n = d + 1 := ⟨i - n - 1, by omega⟩
        rw [hd]
        cases u n
        · simp [h2]
        · simp [h2, Nat.testBit_succ]
def l_up (u : Nat → Bool) (q : Nat) (x : Bool) : Nat → Bool := fun i => if i = q then x else u i
theorem lm_set {u : Nat → Bool} {q : Nat} (hq : q < 16) : Int32.ofInt ((lm u 16 : Nat) : Int) ||| Int32.ofInt ((2 ^ q : Nat) : Int) = Int32.ofInt ((lm (l_up u q true) 16 : Nat) : Int) := by
  rw [l_or]
  congr 2
  apply Nat.eq_of_testBit_eq
  intro i
  rw [Nat.testBit_or, lm_tb, lm_tb, Nat.testBit_two_pow]
  unfold l_up
  by_cases e : i = q
  · subst e; simp [hq]
  · have e2 : ¬ q = i := fun z => e z.symm
    simp [e, e2]
theorem lm_and {u : Nat → Bool} {q : Nat} (hq : q < 16) : Int32.ofInt ((lm u 16 : Nat) : Int) &&& Int32.ofInt ((2 ^ q : Nat) : Int) = Int32.ofInt ((2 ^ q * (u q).toNat : Nat) : Int) := by
  rw [l_and]
  congr 2
  apply Nat.eq_of_testBit_eq
  intro i
  rw [Nat.testBit_and, lm_tb, Nat.testBit_two_pow]
  cases hu : u q
  · have : (2 ^ q * false.toNat).testBit i = false := by
      show (2 ^ q * 0).testBit i = false
      rw [Nat.mul_zero]; exact Nat.zero_testBit i
    rw [this]
    by_cases e : q = i
    · subst e; simp [hu]
    · simp [e]
  · have : (2 ^ q * true.toNat).testBit i = decide (q = i) := by
      show (2 ^ q * 1).testBit i = _
      rw [Nat.mul_one, Nat.testBit_two_pow]
    rw [this]
    by_cases e : q = i
    · subst e; simp [hu, hq]
    · simp [e]
theorem l_not0 : ∀ q : Fin 16, Int32.ofInt ((2 ^ q.val : Nat) : Int) ^^^ Int32.ofInt (-1) = Int32.ofInt ((4294967295 - 2 ^ q.val : Nat) : Int) := by decide +kernel
theorem l_not1 : ∀ q : Fin 16, ∀ i : Fin 16, (4294967295 - 2 ^ q.val : Nat).testBit i.val = !decide (i.val = q.val) := by decide +kernel
theorem lm_clr {u : Nat → Bool} {q : Nat} (hq : q < 16) : Int32.ofInt ((lm u 16 : Nat) : Int) &&& Int32.ofInt ((4294967295 - 2 ^ q : Nat) : Int) = Int32.ofInt ((lm (l_up u q false) 16 : Nat) : Int) := by
  rw [l_and]
  congr 2
  apply Nat.eq_of_testBit_eq
  intro i
  rw [Nat.testBit_and, lm_tb, lm_tb]
  by_cases hi : i < 16
  · rw [l_not1 ⟨q, hq⟩ ⟨i, hi⟩]
    unfold l_up
    by_cases e : i = q
    · subst e; simp
    · simp [e]
  · simp [hi]
theorem lm_bit {u : Nat → Bool} {q : Nat} (hq : q < 16) : lm u 16 / 2 ^ q % 2 = (u q).toNat := by
  have h := lm_tb u 16 q
  rw [Nat.testBit_eq_decide_div_mod_eq] at h
  cases hu : u q
  · rw [hu] at h
    simp [hq] at h
    show _ = 0
    omega
  · rw [hu] at h
    simp [hq] at h
    exact h
theorem lm_dig (u : Nat → Bool) {a : Nat} (ha : a < 4) : lm u 16 / 2 ^ (4 * a) % 16 = (u (4 * a)).toNat + 2 * (u (4 * a + 1)).toNat + 4 * (u (4 * a + 2)).toNat + 8 * (u (4 * a + 3)).toNat := by
  have hb : ∀ q, (u q).toNat ≤ 1 := fun q => by cases u q <;> decide
  have h0 := hb 0; have h1 := hb 1; have h2 := hb 2; have h3 := hb 3; have h4 := hb 4; have h5 := hb 5; have h6 := hb 6; have h7 := hb 7
  have h8 := hb 8; have h9 := hb 9; have h10 := hb 10; have h11 := hb 11; have h12 := hb 12; have h13 := hb 13; have h14 := hb 14; have h15 := hb 15
  simp only [lm, Nat.reducePow]
  match a, ha with
  | 0, _ => simp only [Nat.mul_zero, Nat.reducePow, Nat.zero_add]; omega
  | 1, _ => simp only [Nat.reduceMul, Nat.reducePow, Nat.reduceAdd]; omega
  | 2, _ => simp only [Nat.reduceMul, Nat.reducePow, Nat.reduceAdd]; omega
  | 3, _ => simp only [Nat.reduceMul, Nat.reducePow, Nat.reduceAdd]; omega
theorem l_pow0 : ∀ q : Fin 16, Int32.ofInt 1 <<< (Int32.ofInt ((q.val : Nat) : Int) &&& 31) = Int32.ofInt ((2 ^ q.val : Nat) : Int) := by decide +kernel
theorem l_pow {q : Nat} (hq : q < 16) : Int32.ofInt 1 <<< (Int32.ofInt (q : Int) &&& 31) = Int32.ofInt ((2 ^ q : Nat) : Int) := l_pow0 ⟨q, hq⟩
theorem l_pr {q : Nat} (hq : q < 16) : 2 ^ q ≤ 32768 := by
  have : q ≤ 15 := by omega
  exact Nat.pow_le_pow_right (by decide) this
/-- the cuts as bits -/
def ub (S : ab_S) (q : Nat) : Bool := decide (¬ S 18 q = 0)
def lcm (S : ab_S) : Nat := lm (ub S) 16
theorem lcm_lt (S : ab_S) : lcm S < 65536 := lm_lt (ub S) 16
theorem ub_u (S : ab_S) (q : Nat) (x : Int) : ub (ab_u S 18 q x) = l_up (ub S) q (decide (¬ x = 0)) := by
  funext i
  unfold ub l_up
  rw [ab_u_app]
  by_cases e : i = q
  · rw [if_pos ⟨rfl, e⟩, if_pos e]
  · rw [if_neg (fun z => e z.2), if_neg e]
theorem ub_n {S : ab_S} {q : Nat} (h : S 18 q = 0 ∨ S 18 q = 1) : (((ub S q).toNat : Nat) : Int) = S 18 q := by
  unfold ub
  rcases h with h | h <;> rw [h] <;> rfl
/-- the numbers that the law notes of a flow -/
def lenc (S : ab_S) (k : Nat) : Int := S 0 k + 16 * S 1 k + 256 * S 2 k + 65536 * S 3 k
/-- what holds between the law's turns -/
def lW (S : ab_S) (σ : am_M) : Prop :=
  ab_C S σ ∧ ab_I S (48 * S 19 3) ∧ ab_J S ∧ pv S ∧ S 19 3 ≤ 5000 ∧ (∀ k : Nat, (k : Int) < S 19 4 → σ 60 0 k = lenc S k) ∧ (σ 61 0 0 = S 19 0 ∧ σ 61 0 1 = S 19 1 ∧ σ 61 0 2 = S 19 2 ∧ σ 61 0 3 = ((lcm S : Nat) : Int))
theorem C_mix {S : ab_S} {u σ : am_M} (h : ab_C S u) : ab_C S (l_mix u σ) := by
  have e : ∀ k, k < 19 → l_mix u σ k = u k := fun k hk => by unfold l_mix; rw [if_pos hk]
  unfold ab_C at h ⊢
  rw [e 0 (by omega), e 8 (by omega), e 9 (by omega), e 10 (by omega), e 11 (by omega), e 13 (by omega), e 14 (by omega)]
  exact h
theorem mix_hi (u σ : am_M) {k : Nat} (hk : 19 ≤ k) : l_mix u σ k = σ k := by unfold l_mix; rw [if_neg (by omega)]
/-- what a flow's number holds -/
theorem enc_f {S : ab_S} {σ : am_M} (h : lW S σ) {k : Nat} (hk : (k : Int) < S 19 4) : (0 ≤ S 0 k ∧ S 0 k < 16) ∧ (0 ≤ S 1 k ∧ S 1 k < 16) ∧ (1 ≤ S 2 k ∧ S 2 k ≤ 100) ∧ (0 ≤ S 3 k ∧ S 3 k ≤ 5100) ∧ σ 60 0 k = S 0 k + 16 * S 1 k + 256 * S 2 k + 65536 * S 3 k := by
  have i := h.2.1.2.2.1 k hk
  have p := (h.2.2.2.1.1.1 k hk).1.2.2.2.2.2.2.2
  have c := h.2.2.2.2.1
  exact ⟨i.1, i.2.1, i.2.2.1, ⟨i.2.2.2.1.1, by omega⟩, h.2.2.2.2.2.1 k hk⟩
