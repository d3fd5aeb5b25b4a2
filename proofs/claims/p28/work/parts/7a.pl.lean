/-! the least number of ticks, and the links, as the property asks of them -/
def mx (S : ab_S) : Nat → Int
  | 0 => 0
  | k + 1 => if mx S k < ab_tos S k then ab_tos S k else mx S k
def ts (S : ab_S) (k : Nat) : Int := am_sum (fun f => ab_tos S f) k
def shut (S : ab_S) (a : Nat) : Bool := decide (ab_many S a a = 0)
def barf (S : ab_S) (f : Nat) : Bool := decide (0 < ab_tos S f) && (ab_far S f && (shut S (ab_la S f) || shut S (ab_lb S f)))
def br (S : ab_S) : Nat → Bool
  | 0 => false
  | k + 1 => br S k || barf S k
section PL
variable {S : ab_S} {b c : Int}
theorem br_iff (S : ab_S) : ∀ m : Nat, br S m = true ↔ ∃ f, f < m ∧ barf S f = true
  | 0 => by simp [br]
  | m + 1 => by
    rw [br, Bool.or_eq_true, br_iff S m]
    constructor
    · rintro (⟨f, h1, h2⟩ | h)
      · exact ⟨f, by omega, h2⟩
      · exact ⟨m, by omega, h⟩
    · rintro ⟨f, h1, h2⟩
      by_cases q : f = m
      · subst q; exact Or.inr h2
      · exact Or.inl ⟨f, by omega, h2⟩
theorem nn_iff (S : ab_S) : ∀ m : Nat, ab_nn S m = true ↔ ∃ a, a < m ∧ 0 < ab_mo S a ∧ ab_many S a a = 0
  | 0 => by simp [ab_nn]
  | m + 1 => by
    rw [ab_nn, Bool.or_eq_true, nn_iff S m, Bool.and_eq_true, decide_eq_true_eq, decide_eq_true_eq]
    constructor
    · rintro (⟨f, h1, h2⟩ | h)
      · exact ⟨f, by omega, h2⟩
      · exact ⟨m, by omega, h⟩
    · rintro ⟨f, h1, h2⟩
      by_cases q : f = m
      · subst q; exact Or.inr h2
      · exact Or.inl ⟨f, by omega, h2⟩
theorem max_ge (x y : Int) : x ≤ ab_max x y ∧ y ≤ ab_max x y := by unfold ab_max; split <;> omega
theorem max_le {x y M : Int} (h1 : x ≤ M) (h2 : y ≤ M) : ab_max x y ≤ M := by unfold ab_max; split <;> omega
theorem max_pos {x y : Int} (h : 0 < ab_max x y) : 0 < x ∨ 0 < y := by unfold ab_max at h; split at h <;> omega
theorem nlt {f : Nat} (hf : f < ab_n S) : (f : Int) < S 19 4 := by unfold ab_n at hf; omega
theorem tos_nn (hJ : ab_J S) {f : Nat} (hf : f < ab_n S) : 0 ≤ ab_tos S f := by
  have := hJ f (nlt hf)
  unfold ab_tos; omega
theorem ats_le (hJ : ab_J S) (w k : Nat) : ab_ts S w k (ab_n S) ≤ ts S (ab_n S) := sm_le (fun f hf => by
  have := tos_nn hJ hf
  show (if ab_P S w k f = true then ab_tos S f else 0) ≤ ab_tos S f
  split <;> omega)
theorem ats_ge (hJ : ab_J S) {w k f : Nat} (hf : f < ab_n S) (hp : ab_P S w k f = true) : ab_tos S f ≤ ab_ts S w k (ab_n S) := by
  have := sm_get (f := fun f => if ab_P S w k f = true then ab_tos S f else 0) (k := f) (n := ab_n S) (fun d hd => by
    have := tos_nn hJ hd
    show 0 ≤ (if ab_P S w k d = true then ab_tos S d else 0)
    split <;> omega) hf
  simp only [hp, if_true] at this
  exact this
theorem tsum_nn (hJ : ab_J S) : 0 ≤ ts S (ab_n S) := sm_nn (fun f hf => tos_nn hJ hf)
theorem L1_ge (S : ab_S) {k : Nat} : ∀ m : Nat, k < m → ab_ts S 0 k (ab_n S) ≤ ab_L1 S m ∧ ab_ts S 1 k (ab_n S) ≤ ab_L1 S m
  | 0, h => absurd h (Nat.not_lt_zero _)
  | m + 1, h => by
    have g1 := max_ge (ab_L1 S m) (ab_max (ab_ts S 0 m (ab_n S)) (ab_ts S 1 m (ab_n S)))
    have g2 := max_ge (ab_ts S 0 m (ab_n S)) (ab_ts S 1 m (ab_n S))
    rw [ab_L1]
    by_cases q : k = m
    · subst q; omega
    · have := L1_ge S (k := k) m (by omega); omega
theorem L1_nn (S : ab_S) : ∀ m : Nat, 0 ≤ ab_L1 S m
  | 0 => Int.le_refl _
  | m + 1 => Int.le_trans (L1_nn S m) (max_ge _ _).1
theorem L1_le (hJ : ab_J S) : ∀ m : Nat, ab_L1 S m ≤ ts S (ab_n S)
  | 0 => tsum_nn hJ
  | m + 1 => max_le (L1_le hJ m) (max_le (ats_le hJ _ _) (ats_le hJ _ _))
theorem L2_ge (S : ab_S) : ∀ a : Nat, ab_L1 S 16 ≤ ab_L2 S a
  | 0 => Int.le_refl _
  | a + 1 => by
    rw [ab_L2]
    split
    · exact Int.le_trans (L2_ge S a) (max_ge _ _).1
    · exact L2_ge S a
theorem L2_le (h : ab_I S b) (hJ : ab_J S) (hb : b ≤ 10000000) : ∀ a : Nat, ab_L2 S a ≤ ts S (ab_n S)
  | 0 => L1_le hJ 16
  | a + 1 => by
    have hw := ab_many_rng S a a
    have hm := mo_R h hJ hb a
    have hmt : ab_mo S a ≤ ts S (ab_n S) := max_le (ats_le hJ _ _) (ats_le hJ _ _)
    rw [ab_L2]
    split
    · refine max_le (L2_le h hJ hb a) ?_
      have : ab_many S a a = 1 ∨ ab_many S a a = 2 ∨ ab_many S a a = 3 ∨ ab_many S a a = 4 := by omega
      rcases this with z | z | z | z <;> rw [z] <;> omega
    · exact L2_le h hJ hb a
theorem mx_ge (S : ab_S) {f : Nat} : ∀ m : Nat, f < m → ab_tos S f ≤ mx S m
  | 0, h => absurd h (Nat.not_lt_zero _)
  | m + 1, h => by
    rw [mx]
    by_cases q : f = m
    · subst q; split <;> omega
    · have := mx_ge S (f := f) m (by omega)
      split <;> omega
theorem mx_nn (S : ab_S) : ∀ m : Nat, 0 ≤ mx S m
  | 0 => Int.le_refl _
  | m + 1 => by
    have := mx_nn S m
    rw [mx]; split <;> omega
theorem mx_le {M : Int} (h0 : 0 ≤ M) : ∀ {m : Nat}, (∀ f, f < m → ab_tos S f ≤ M) → mx S m ≤ M
  | 0, _ => h0
  | m + 1, h => by
    have := mx_le h0 (fun f hf => h f (by omega) : ∀ f, f < m → ab_tos S f ≤ M)
    have := h m (by omega)
    rw [mx]; split <;> omega
theorem nn_br (h : ab_I S b) (hJ : ab_J S) : ab_nn S 4 = true ↔ br S (ab_n S) = true := by
  rw [nn_iff, br_iff]
  have hP2 : ∀ a f : Nat, ab_P S 2 a f = true ↔ ab_far S f = true ∧ S 0 f / 4 = (a : Int) := fun a f => by simp [ab_P]
  have hP3 : ∀ a f : Nat, ab_P S 3 a f = true ↔ ab_far S f = true ∧ S 1 f / 4 = (a : Int) := fun a f => by simp [ab_P]
  have pick : ∀ w a : Nat, 0 < ab_ts S w a (ab_n S) → ∃ f, f < ab_n S ∧ ab_P S w a f = true ∧ 0 < ab_tos S f := fun w a hp => by
    obtain ⟨f, hf, h2⟩ := sm_pos hp
    refine ⟨f, hf, ?_⟩
    have h2 : 0 < (if ab_P S w a f = true then ab_tos S f else 0) := h2
    by_cases q : ab_P S w a f = true
    · rw [if_pos q] at h2; exact ⟨q, h2⟩
    · rw [if_neg q] at h2; omega
  constructor
  · rintro ⟨a, ha, h1, h2⟩
    rcases max_pos h1 with h1 | h1
    · obtain ⟨f, hf, hp, ht⟩ := pick 2 a h1
      have hp := (hP2 a f).mp hp
      have hl := ab_lbv (h.2.2.1 f (nlt hf))
      have e : ab_la S f = a := by omega
      refine ⟨f, hf, ?_⟩
      simp [barf, shut, ht, hp.1, e, h2]
    · obtain ⟨f, hf, hp, ht⟩ := pick 3 a h1
      have hp := (hP3 a f).mp hp
      have hl := ab_lbv (h.2.2.1 f (nlt hf))
      have e : ab_lb S f = a := by omega
      refine ⟨f, hf, ?_⟩
      simp [barf, shut, ht, hp.1, e, h2]
  · rintro ⟨f, hf, hb⟩
    have hl := ab_lbv (h.2.2.1 f (nlt hf))
    simp only [barf, shut, Bool.and_eq_true, Bool.or_eq_true, decide_eq_true_eq] at hb
    obtain ⟨ht, hfar, h3 | h3⟩ := hb
    · refine ⟨ab_la S f, hl.2.2.2, ?_, h3⟩
      have g1 := ats_ge hJ hf ((hP2 (ab_la S f) f).mpr ⟨hfar, by omega⟩)
      have g2 := (max_ge (ab_ts S 2 (ab_la S f) (ab_n S)) (ab_ts S 3 (ab_la S f) (ab_n S))).1
      unfold ab_mo
      omega
    · refine ⟨ab_lb S f, hl.2.1, ?_, h3⟩
      have g1 := ats_ge hJ hf ((hP3 (ab_lb S f) f).mpr ⟨hfar, by omega⟩)
      have g2 := (max_ge (ab_ts S 2 (ab_lb S f) (ab_n S)) (ab_ts S 3 (ab_lb S f) (ab_n S))).2
      unfold ab_mo
      omega
theorem least_t (h : ab_I S b) (hJ : ab_J S) (hb : b ≤ 10000000) : (br S (ab_n S) = true → ab_least S = -1) ∧ (br S (ab_n S) = false → mx S (ab_n S) ≤ ab_least S ∧ ab_least S ≤ ts S (ab_n S) ∧ (ab_least S = 0 ↔ ts S (ab_n S) = 0)) := by
  have hi := nn_br h hJ
  unfold ab_least
  refine ⟨fun hbr => by rw [if_pos (hi.mpr hbr)], fun hbr => ?_⟩
  rw [if_neg (fun z => by rw [hi.mp z] at hbr; cases hbr)]
  have hP0 : ∀ k f : Nat, ab_P S 0 k f = true ↔ S 0 f = (k : Int) := fun k f => by simp [ab_P]
  have h1 : mx S (ab_n S) ≤ ab_L2 S 4 := Int.le_trans (mx_le (L1_nn S 16) (fun f hf => by
    have i0 := (h.2.2.1 f (nlt hf)).1
    have g := ats_ge hJ (w := 0) (k := (S 0 f).toNat) hf ((hP0 _ _).mpr (by omega))
    have := (L1_ge S (k := (S 0 f).toNat) 16 (by omega)).1
    omega)) (L2_ge S 4)
  have h2 := L2_le h hJ hb 4
  have h3 := mx_nn S (ab_n S)
  refine ⟨h1, h2, fun z => ?_, fun z => by omega⟩
  have h4 := tsum_nn hJ
  rcases (by omega : ts S (ab_n S) = 0 ∨ 0 < ts S (ab_n S)) with y | y
  · exact y
  · obtain ⟨f, hf, hp⟩ := sm_pos y
    have := mx_ge S (f := f) (ab_n S) hf
    omega
/-! links -/
def lq (S : ab_S) (k : Nat) : Int := S 14 k + S 14 (32 + k) + S 14 (16 + k) + S 14 (48 + k)
def lw (S : ab_S) (k : Nat) : Int := 4 - S 14 k - S 13 k + 4 - S 14 (32 + k) - S 13 (32 + k)
theorem lq_sum (S : ab_S) : am_sum (fun k => lq S k) 16 = ab_qd S := by
  unfold ab_qd
  rw [sm_64]
  refine am_sum_cg (fun k _ => ?_)
  unfold lq; omega
theorem lw_sum (h : ab_I S b) : am_sum (fun k => lw S k) 16 ≤ ab_ret S := by
  unfold ab_ret
  rw [sm_64]
  refine sm_le (fun k hk => ?_)
  have h1 := rs_v h (L := k) (by omega)
  have h2 := rs_v h (L := 32 + k) (by omega)
  have h3 := rs_nn h (L := 16 + k) (by omega)
  have h4 := rs_nn h (L := 48 + k) (by omega)
  unfold lw; omega
end PL
