/-! bits of small numbers -/
theorem bt_shr0 : ∀ m : Fin 16, ∀ s : Fin 4, Int32.ofInt ((m.val : Nat) : Int) >>> (Int32.ofInt ((s.val : Nat) : Int) &&& 31) = Int32.ofInt ((m.val / 2 ^ s.val : Nat) : Int) := by decide +kernel
theorem bt_shr {m s : Nat} (hm : m < 16) (hs : s < 4) : Int32.ofInt (m : Int) >>> (Int32.ofInt (s : Int) &&& 31) = Int32.ofInt ((m / 2 ^ s : Nat) : Int) := bt_shr0 ⟨m, hm⟩ ⟨s, hs⟩
theorem bt_and10 : ∀ m : Fin 16, Int32.ofInt ((m.val : Nat) : Int) &&& Int32.ofInt 1 = Int32.ofInt ((m.val % 2 : Nat) : Int) := by decide +kernel
theorem bt_and1 {m : Nat} (hm : m < 16) : Int32.ofInt (m : Int) &&& Int32.ofInt 1 = Int32.ofInt ((m % 2 : Nat) : Int) := bt_and10 ⟨m, hm⟩
theorem bt_and0 : ∀ a : Fin 16, ∀ b : Fin 16, Int32.ofInt ((a.val : Nat) : Int) &&& Int32.ofInt ((b.val : Nat) : Int) = Int32.ofInt ((a.val % 2 * (b.val % 2) + 2 * (a.val / 2 % 2 * (b.val / 2 % 2)) + 4 * (a.val / 4 % 2 * (b.val / 4 % 2)) + 8 * (a.val / 8 % 2 * (b.val / 8 % 2)) : Nat) : Int) := by decide +kernel
theorem bt_and {a b : Nat} (ha : a < 16) (hb : b < 16) : Int32.ofInt (a : Int) &&& Int32.ofInt (b : Int) = Int32.ofInt ((a % 2 * (b % 2) + 2 * (a / 2 % 2 * (b / 2 % 2)) + 4 * (a / 4 % 2 * (b / 4 % 2)) + 8 * (a / 8 % 2 * (b / 8 % 2)) : Nat) : Int) := bt_and0 ⟨a, ha⟩ ⟨b, hb⟩
theorem bt_shl0 : ∀ s : Fin 4, Int32.ofInt 1 <<< (Int32.ofInt ((s.val : Nat) : Int) &&& 31) = Int32.ofInt ((2 ^ s.val : Nat) : Int) := by decide +kernel
theorem bt_shl {s : Nat} (hs : s < 4) : Int32.ofInt 1 <<< (Int32.ofInt (s : Int) &&& 31) = Int32.ofInt ((2 ^ s : Nat) : Int) := bt_shl0 ⟨s, hs⟩
theorem bt_not0 : ∀ s : Fin 4, Int32.ofInt ((2 ^ s.val : Nat) : Int) ^^^ Int32.ofInt (-1) = Int32.ofInt (-((2 ^ s.val : Nat) : Int) - 1) := by decide +kernel
theorem bt_not {s : Nat} (hs : s < 4) : Int32.ofInt ((2 ^ s : Nat) : Int) ^^^ Int32.ofInt (-1) = Int32.ofInt (-((2 ^ s : Nat) : Int) - 1) := bt_not0 ⟨s, hs⟩
theorem bt_clr0 : ∀ m : Fin 16, ∀ s : Fin 4, Int32.ofInt ((m.val : Nat) : Int) &&& Int32.ofInt (-((2 ^ s.val : Nat) : Int) - 1) = Int32.ofInt ((m.val : Int) - ((2 ^ s.val * (m.val / 2 ^ s.val % 2) : Nat) : Int)) := by decide +kernel
theorem bt_clr {m s : Nat} (hm : m < 16) (hs : s < 4) : Int32.ofInt (m : Int) &&& Int32.ofInt (-((2 ^ s : Nat) : Int) - 1) = Int32.ofInt ((m : Int) - ((2 ^ s * (m / 2 ^ s % 2) : Nat) : Int)) := bt_clr0 ⟨m, hm⟩ ⟨s, hs⟩
theorem bt_set0 : ∀ m : Fin 16, ∀ s : Fin 4, Int32.ofInt ((m.val : Nat) : Int) ||| Int32.ofInt ((2 ^ s.val : Nat) : Int) = Int32.ofInt ((m.val + 2 ^ s.val * (1 - m.val / 2 ^ s.val % 2) : Nat) : Int) := by decide +kernel
theorem bt_set {m s : Nat} (hm : m < 16) (hs : s < 4) : Int32.ofInt (m : Int) ||| Int32.ofInt ((2 ^ s : Nat) : Int) = Int32.ofInt ((m + 2 ^ s * (1 - m / 2 ^ s % 2) : Nat) : Int) := bt_set0 ⟨m, hm⟩ ⟨s, hs⟩
theorem bt_or00 : ∀ m : Fin 16, Int32.ofInt ((m.val : Nat) : Int) ||| Int32.ofInt 0 = Int32.ofInt ((m.val : Nat) : Int) := by decide +kernel
theorem bt_or0 {m : Nat} (hm : m < 16) : Int32.ofInt (m : Int) ||| Int32.ofInt 0 = Int32.ofInt (m : Int) := bt_or00 ⟨m, hm⟩
def bt_m (u0 u1 u2 u3 : Bool) : Nat := u0.toNat + 2 * u1.toNat + 4 * u2.toNat + 8 * u3.toNat
theorem bt_mlt : ∀ u0 u1 u2 u3 : Bool, bt_m u0 u1 u2 u3 < 16 := by decide
theorem bt_mb : ∀ u0 u1 u2 u3 : Bool, bt_m u0 u1 u2 u3 % 2 = u0.toNat ∧ bt_m u0 u1 u2 u3 / 2 % 2 = u1.toNat ∧ bt_m u0 u1 u2 u3 / 4 % 2 = u2.toNat ∧ bt_m u0 u1 u2 u3 / 8 % 2 = u3.toNat := by decide
theorem ab_1n (b : Bool) : ab_1 b = ((b.toNat : Nat) : Int) := by cases b <;> rfl
def ab_uc (S : ab_S) (q : Nat) : Bool := decide (S 18 q = 0)
theorem ab_uc1 {S : ab_S} {q : Nat} (h : S 18 q = 0 ∨ S 18 q = 1) : (((ab_uc S q).toNat : Nat) : Int) = 1 - S 18 q := by
  rcases h with h | h <;> simp [ab_uc, h]
theorem ab_mask_m {S : ab_S} (hq : ∀ q : Nat, q < 16 → S 18 q = 0 ∨ S 18 q = 1) {a : Nat} (ha : a < 4) : ab_mask S a = ((bt_m (ab_uc S (4 * a)) (ab_uc S (4 * a + 1)) (ab_uc S (4 * a + 2)) (ab_uc S (4 * a + 3)) : Nat) : Int) := by
  have h0 := ab_uc1 (hq (4 * a) (by omega))
  have h1 := ab_uc1 (hq (4 * a + 1) (by omega))
  have h2 := ab_uc1 (hq (4 * a + 2) (by omega))
  have h3 := ab_uc1 (hq (4 * a + 3) (by omega))
  simp only [ab_mask, bt_m]
  omega
theorem bt_bit (u0 u1 u2 u3 : Bool) (u : Nat → Bool) (h0 : u 0 = u0) (h1 : u 1 = u1) (h2 : u 2 = u2) (h3 : u 3 = u3) {s : Nat} (hs : s < 4) : bt_m u0 u1 u2 u3 / 2 ^ s % 2 = (u s).toNat := by
  obtain ⟨b0, b1, b2, b3⟩ := bt_mb u0 u1 u2 u3
  match s, hs with
  | 0, _ => rw [h0]; simpa using b0
  | 1, _ => rw [h1]; simpa using b1
  | 2, _ => rw [h2]; simpa using b2
  | 3, _ => rw [h3]; simpa using b3
theorem ab_um_m (S : ab_S) (a b : Nat) : ab_um S a b = ((bt_m (ab_us S a b 0) (ab_us S a b 1) (ab_us S a b 2) (ab_us S a b 3) : Nat) : Int) := by
  simp only [ab_um, bt_m, ab_1n]
  omega
theorem ab_us_uc (S : ab_S) (a b s : Nat) : (ab_us S a b s).toNat = (ab_uc S (4 * a + s)).toNat * (ab_uc S (4 * b + s)).toNat := by
  have : ab_us S a b s = (ab_uc S (4 * a + s) && ab_uc S (4 * b + s)) := rfl
  rw [this]
  cases ab_uc S (4 * a + s) <;> cases ab_uc S (4 * b + s) <;> rfl
theorem ab_um_and {S : ab_S} (hq : ∀ q : Nat, q < 16 → S 18 q = 0 ∨ S 18 q = 1) {a b : Nat} (ha : a < 4) (hb : b < 4) : Int32.ofInt (ab_mask S a) &&& Int32.ofInt (ab_mask S b) = Int32.ofInt (ab_um S a b) := by
  rw [ab_mask_m hq ha, ab_mask_m hq hb, ab_um_m, bt_and (bt_mlt _ _ _ _) (bt_mlt _ _ _ _)]
  obtain ⟨x0, x1, x2, x3⟩ := bt_mb (ab_uc S (4 * a)) (ab_uc S (4 * a + 1)) (ab_uc S (4 * a + 2)) (ab_uc S (4 * a + 3))
  obtain ⟨y0, y1, y2, y3⟩ := bt_mb (ab_uc S (4 * b)) (ab_uc S (4 * b + 1)) (ab_uc S (4 * b + 2)) (ab_uc S (4 * b + 3))
  rw [x0, x1, x2, x3, y0, y1, y2, y3]
  congr 2
  simp only [bt_m, ab_us_uc]
  rfl
theorem ab_um_rng (S : ab_S) (a b : Nat) : 0 ≤ ab_um S a b ∧ ab_um S a b < 16 := by
  rw [ab_um_m]
  have := bt_mlt (ab_us S a b 0) (ab_us S a b 1) (ab_us S a b 2) (ab_us S a b 3)
  omega
/-- the shift and the mask that pick one bit of the usable spines -/
theorem ab_um_shr (S : ab_S) (a b : Nat) {s : Nat} (hs : s < 4) : Int32.ofInt (ab_um S a b) >>> (Int32.ofInt (s : Int) &&& 31) = Int32.ofInt (((ab_um S a b).toNat / 2 ^ s : Nat) : Int) := by
  rw [ab_um_m, Int.toNat_natCast]
  exact bt_shr (bt_mlt _ _ _ _) hs
theorem ab_um_bit (S : ab_S) (a b : Nat) {s : Nat} (hs : s < 4) : Int32.ofInt (((ab_um S a b).toNat / 2 ^ s : Nat) : Int) &&& Int32.ofInt 1 = Int32.ofInt (ab_1 (ab_us S a b s)) := by
  have h := ab_um_rng S a b
  rw [bt_and1 (Nat.lt_of_le_of_lt (Nat.div_le_self _ _) (by omega))]
  rw [ab_um_m, Int.toNat_natCast, bt_bit _ _ _ _ (fun s => ab_us S a b s) rfl rfl rfl rfl hs, ab_1n]
theorem ab_mk_shr {S : ab_S} (hq : ∀ q : Nat, q < 16 → S 18 q = 0 ∨ S 18 q = 1) {a s : Nat} (ha : a < 4) (hs : s < 4) : Int32.ofInt (ab_mask S a) >>> (Int32.ofInt (s : Int) &&& 31) = Int32.ofInt (((ab_mask S a).toNat / 2 ^ s : Nat) : Int) := by
  rw [ab_mask_m hq ha, Int.toNat_natCast]
  exact bt_shr (bt_mlt _ _ _ _) hs
theorem ab_mk_bit {S : ab_S} (hq : ∀ q : Nat, q < 16 → S 18 q = 0 ∨ S 18 q = 1) {a s : Nat} (ha : a < 4) (hs : s < 4) : Int32.ofInt (((ab_mask S a).toNat / 2 ^ s : Nat) : Int) &&& Int32.ofInt 1 = Int32.ofInt (1 - S 18 (4 * a + s)) := by
  rw [ab_mask_m hq ha, Int.toNat_natCast, bt_and1 (Nat.lt_of_le_of_lt (Nat.div_le_self _ _) (bt_mlt _ _ _ _)), bt_bit (ab_uc S (4 * a)) (ab_uc S (4 * a + 1)) (ab_uc S (4 * a + 2)) (ab_uc S (4 * a + 3)) (fun s => ab_uc S (4 * a + s)) rfl rfl rfl rfl hs, ab_uc1 (hq _ (by omega))]
theorem ab_1r (b : Bool) : 0 ≤ ab_1 b ∧ ab_1 b ≤ 1 := by cases b <;> simp [ab_1]
theorem ab_um0 (S : ab_S) (a b : Nat) : ab_um S a b = 0 ↔ ab_many S a b = 0 := by
  have h0 := ab_1r (ab_us S a b 0)
  have h1 := ab_1r (ab_us S a b 1)
  have h2 := ab_1r (ab_us S a b 2)
  have h3 := ab_1r (ab_us S a b 3)
  simp only [ab_um, ab_many]
  omega
theorem ab_many_rng (S : ab_S) (a b : Nat) : 0 ≤ ab_many S a b ∧ ab_many S a b ≤ 4 := by
  have h0 := ab_1r (ab_us S a b 0)
  have h1 := ab_1r (ab_us S a b 1)
  have h2 := ab_1r (ab_us S a b 2)
  have h3 := ab_1r (ab_us S a b 3)
  simp only [ab_many]
  omega
