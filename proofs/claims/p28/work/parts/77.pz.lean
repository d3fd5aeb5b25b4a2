/-! the invariant when packets have moved and hosts have sent -/
def yk (k : Nat) : Nat → Bool := fun i => decide (16 ≤ i ∧ i < k)
theorem yk_48 : ab_Yk 48 = yk 64 := by
  funext i
  unfold ab_Yk yk
  by_cases h : 16 ≤ i ∧ i < 64
  · have := ab_ord_lt h
    simp [h, this]
  · have : ¬ ab_ord i < 48 := by
      by_cases q : 48 ≤ i
      · rw [ab_ord48 q]; omega
      · have : i < 16 := by omega
        unfold ab_ord
        rw [if_neg (by omega), if_neg (by omega), if_neg (by omega)]; omega
    simp [h, this]
theorem yk_S {k : Nat} (hk : 16 ≤ k) (i : Nat) : yk (k + 1) i = (yk k i || decide (i = k)) := by
  unfold yk
  by_cases h : i = k
  · subst h
    have h1 : 16 ≤ i ∧ i < i + 1 := ⟨hk, by omega⟩
    simp [h1]
  · by_cases h2 : 16 ≤ i ∧ i < k
    · have h3 : 16 ≤ i ∧ i < k + 1 := by omega
      simp [h2, h3]
    · have h3 : ¬ (16 ≤ i ∧ i < k + 1) := by omega
      simp [h, h2, h3]
section PZ
variable {S : ab_S} {b : Int}
/-- what leaves the queues is what the links pick -/
theorem gm (h : ab_I S b) (g : Nat → Int) : ∀ m : Nat, 16 + m ≤ 64 → am_sum (fun q => if ab_DS S (yk (16 + m)) q = true then g q else 0) 64 = am_sum (fun L => if ab_XS S (yk (16 + m)) L = true then g (ab_qat L (ab_pick S L).toNat) else 0) 64
  | 0, _ => by
    have z : ∀ i, yk (16 + 0) i = false := fun i => by
      unfold yk
      have : ¬ (16 ≤ i ∧ i < 16 + 0) := by omega
      simp [this]
    have e1 : am_sum (fun q => if ab_DS S (yk (16 + 0)) q = true then g q else 0) 64 = 0 := am_sum0 64 (fun q _ => by
      have : ab_DS S (yk (16 + 0)) q = false := by unfold ab_DS; rw [z]; simp
      rw [this]; rfl)
    have e2 : am_sum (fun L => if ab_XS S (yk (16 + 0)) L = true then g (ab_qat L (ab_pick S L).toNat) else 0) 64 = 0 := am_sum0 64 (fun q _ => by
      have : ab_XS S (yk (16 + 0)) q = false := XS_no (z q)
      rw [this]; rfl)
    rw [e1, e2]
  | m + 1, hm => by
    have ih := gm h g m (by omega)
    have hY : ∀ i, yk (16 + (m + 1)) i = (yk (16 + m) i || decide (i = 16 + m)) := fun i => yk_S (Nat.le_add_right 16 m) i
    have hL : 16 + m < 64 := by omega
    have hno : yk (16 + m) (16 + m) = false := by unfold yk; simp
    by_cases hp : ab_pick S (16 + m) = -1
    · rw [DS_none hY hp, XS_none hY hp]; exact ih
    · have p := pk_fact h hL hp
      have q := qat_lt (L := 16 + m) (by omega) hL p.2.2.2.1
      have h1 := DS_no h hL hno hp
      have h2 := XS_no (S := S) hno
      have e1 : am_sum (fun q => if ab_s (ab_DS S (yk (16 + m))) (ab_qat (16 + m) (ab_pick S (16 + m)).toNat) q = true then g q else 0) 64 = am_sum (fun q => if ab_DS S (yk (16 + m)) q = true then g q else 0) 64 + g (ab_qat (16 + m) (ab_pick S (16 + m)).toNat) := am_sum_up (d0 := ab_qat (16 + m) (ab_pick S (16 + m)).toNat) q.1 (fun d _ => by
        by_cases e : d = ab_qat (16 + m) (ab_pick S (16 + m)).toNat
        · rw [e]; simp [ab_sL, h1]
        · simp [ab_so _ e, e])
      have e2 : am_sum (fun L => if ab_s (ab_XS S (yk (16 + m))) (16 + m) L = true then g (ab_qat L (ab_pick S L).toNat) else 0) 64 = am_sum (fun L => if ab_XS S (yk (16 + m)) L = true then g (ab_qat L (ab_pick S L).toNat) else 0) 64 + g (ab_qat (16 + m) (ab_pick S (16 + m)).toNat) := am_sum_up (d0 := 16 + m) hL (fun d _ => by
        by_cases e : d = 16 + m
        · subst e; simp [ab_sL, h2]
        · simp [ab_so _ e, e])
      rw [DS_step h hL hY hp, XS_step hY hp, e1, e2, ih]
/-- the hosts that send -/
theorem sd (hI : ab_I S b) (g : Nat → Int) : ∀ K : Nat, K ≤ 16 → am_sum (fun f => if (S 0 f).toNat < K ∧ ab_F S (S 0 f).toNat = (f : Int) then g f else 0) (ab_n S) = am_sum (fun k => if ¬ ab_F S k = -1 then g (ab_F S k).toNat else 0) K
  | 0, _ => by
    rw [am_sum]
    exact am_sum0 _ (fun f _ => by rw [if_neg (by omega)])
  | K + 1, hK => by
    have ih := sd hI g K (by omega)
    rw [am_sum, ← ih]
    by_cases q : ab_F S K = -1
    · rw [if_neg (by omega), Int.add_zero]
      refine am_sum_cg (fun f _ => ?_)
      have c : ((S 0 f).toNat < K + 1 ∧ ab_F S (S 0 f).toNat = (f : Int)) = ((S 0 f).toNat < K ∧ ab_F S (S 0 f).toNat = (f : Int)) := propext (by
        constructor
        · rintro ⟨a, z⟩
          rcases (by omega : (S 0 f).toNat < K ∨ (S 0 f).toNat = K) with y | y
          · exact ⟨y, z⟩
          · rw [y, q] at z; omega
        · rintro ⟨a, z⟩
          exact ⟨by omega, z⟩)
      simp only [c]
    · obtain ⟨f1, f2, f3, f4⟩ := F_fact hI q
      have hs := (may_fact f4).1
      rw [if_pos q]
      obtain ⟨f0, hf0⟩ : ∃ f0 : Nat, ab_F S K = (f0 : Int) := ⟨(ab_F S K).toNat, by omega⟩
      rw [hf0, Int.toNat_natCast] at hs ⊢
      refine am_sum_up (d0 := f0) (by unfold ab_n; omega) (fun f _ => ?_)
      have st := hc_step (S := S) (M := K) hf0 hs f
      by_cases e : f = f0
      · subst e
        rw [if_pos (st.mpr (Or.inr rfl)), if_pos rfl, if_neg (by omega)]; omega
      · have c : ((S 0 f).toNat < K + 1 ∧ ab_F S (S 0 f).toNat = (f : Int)) = ((S 0 f).toNat < K ∧ ab_F S (S 0 f).toNat = (f : Int)) := propext ⟨fun z => (st.mp z).resolve_right e, fun z => st.mpr (Or.inl z)⟩
        simp only [c, if_neg e]
theorem op_sum (hI : ab_I S b) (t : Nat) : ∀ K : Nat, K ≤ 16 → ab_op S K t = S 16 t + am_sum (fun f => if (S 0 f).toNat < K ∧ ab_F S (S 0 f).toNat = (f : Int) then (if (S 1 f).toNat = t then 1 else 0) else 0) (ab_n S) := by
  intro K hK
  rw [sd hI _ K hK]
  induction K with
  | zero => simp [ab_op, am_sum]
  | succ K ih =>
    rw [ab_opS, ih (by omega), am_sum]
    by_cases q : ab_F S K = -1
    · rw [if_neg (by omega), if_neg (by omega)]; omega
    · by_cases q2 : (S 1 (ab_F S K).toNat).toNat = t
      · rw [if_pos ⟨q, q2⟩, if_pos q, if_pos q2]; omega
      · rw [if_neg (fun z => q2 z.2), if_pos q, if_neg q2]; omega
theorem op_win (hI : ab_I S b) (hw : ∀ h, h < 16 → S 16 h ≤ S 19 2) {t : Nat} (ht : t < 16) : ∀ K : Nat, ab_op S K t ≤ S 19 2
  | 0 => hw t ht
  | K + 1 => by
    have ih := op_win hI hw ht K
    rw [ab_opS]
    split
    · rename_i q
      have m := (may_fact (F_fact hI q.1).2.2.2).2.2.2.2
      rw [q.2] at m
      omega
    · omega
/-- where the packets of a queue come from -/
theorem Z_org (h : ab_I S b) {Y2 Y : Nat → Bool} {L j : Nat} (hL : L < 64) (hj : (j : Int) < ab_Z S Y2 (ab_XS S Y) (ab_XS S Y) (ab_DS S Y) 16 16 14 L) :
    ((j : Int) < S 14 L - ab_1 (ab_DS S Y L) ∧ ∀ x, x < 4 → ab_Z S Y2 (ab_XS S Y) (ab_XS S Y) (ab_DS S Y) 16 16 (20 + x) (4 * L + j) = S (20 + x) (4 * L + (j + (ab_1 (ab_DS S Y L)).toNat))) ∨
    ((j : Int) = S 14 L - ab_1 (ab_DS S Y L) ∧ L < 16 ∧ ¬ ab_F S L = -1 ∧ ∀ x, x < 4 → ab_Z S Y2 (ab_XS S Y) (ab_XS S Y) (ab_DS S Y) 16 16 (20 + x) (4 * L + j) = ab_pk S (ab_F S L).toNat x) ∨
    ((j : Int) = S 14 L - ab_1 (ab_DS S Y L) ∧ 16 ≤ L ∧ ab_XS S Y L = true ∧ ∀ x, x < 4 → ab_Z S Y2 (ab_XS S Y) (ab_XS S Y) (ab_DS S Y) 16 16 (20 + x) (4 * L + j) = S (20 + x) (4 * ab_qat L (ab_pick S L).toNat)) := by
  obtain ⟨z1, z2, z3, z4⟩ := Z_lk (Y2 := Y2) (Y := Y) (K := 16) h hL
  have hd := D_rng (Y := Y) h hL
  have hq : ∀ x, x < 4 → _ := fun x hx => ZQ (S := S) (XQ := Y2) (XC := ab_XS S Y) (X := ab_XS S Y) (D := ab_DS S Y) (K := 16) (M := 16) hx (4 * L + j)
  rw [show (4 * L + j) / 4 = L by omega, show (4 * L + j) % 4 = j by omega] at hq
  rw [Z14] at hj
  by_cases cA : L < 16 ∧ L < 16 ∧ ¬ ab_F S L = -1 ∧ (j : Int) = S 14 L - ab_1 (ab_DS S Y L)
  · simp only [if_pos cA] at hq
    exact Or.inr (Or.inl ⟨cA.2.2.2, cA.1, cA.2.2.1, hq⟩)
  · simp only [if_neg cA] at hq
    by_cases cB : 16 ≤ L ∧ ab_XS S Y L = true ∧ (j : Int) = S 14 L - ab_1 (ab_DS S Y L)
    · simp only [if_pos cB] at hq
      exact Or.inr (Or.inr ⟨cB.2.2, cB.1, cB.2.1, hq⟩)
    · simp only [if_neg cB] at hq
      refine Or.inl ⟨?_, fun x hx => ?_⟩
      · by_cases h16 : L < 16
        · rw [if_pos h16] at hj
          split at hj <;> omega
        · rw [if_neg h16] at hj
          cases hx : ab_XS S Y L with
          | true => rw [hx, ab_1t] at hj; have cB2 : ¬ (j : Int) = S 14 L - ab_1 (ab_DS S Y L) := fun z => cB ⟨by omega, hx, z⟩; omega
          | false => rw [hx, ab_1f] at hj; omega
      · rw [hq x hx]
        cases hx : ab_DS S Y L with
        | true => rw [if_pos rfl, ab_1t]; rfl
        | false => rw [if_neg (by decide), ab_1f]; rfl
theorem ab_1i (c : Bool) : ab_1 c = if c = true then 1 else 0 := rfl
theorem Z_cn (h : ab_I S b) {Y2 Y : Nat → Bool} (f : Nat) {L : Nat} (hL : L < 64) : cn (ab_Z S Y2 (ab_XS S Y) (ab_XS S Y) (ab_DS S Y) 16 16) f L = cn S f L - (if ab_DS S Y L = true then (if S 20 (4 * L) = (f : Int) then 1 else 0) else 0) + (if L < 16 then (if ab_F S L = (f : Int) then 1 else 0) else (if ab_XS S Y L = true then (if S 20 (4 * ab_qat L (ab_pick S L).toNat) = (f : Int) then 1 else 0) else 0)) := by
  obtain ⟨z1, z2, z3, z4⟩ := Z_lk (Y2 := Y2) (Y := Y) (K := 16) h hL
  have hs := h.s4 hL
  have hd := D_rng (Y := Y) h hL
  have hd01 : ab_1 (ab_DS S Y L) = 0 ∨ ab_1 (ab_DS S Y L) = 1 := by omega
  have org := fun j : Nat => Z_org h (Y2 := Y2) (Y := Y) (L := L) (j := j) hL
  have hz := Z14 (S := S) (XQ := Y2) (XC := ab_XS S Y) (X := ab_XS S Y) (D := ab_DS S Y) (K := 16) (M := 16) L
  have hdd : (if ab_DS S Y L = true then (if S 20 (4 * L) = (f : Int) then (1 : Int) else 0) else 0) = if ab_1 (ab_DS S Y L) = 1 then (if S 20 (4 * L) = (f : Int) then 1 else 0) else 0 := by
    cases ab_DS S Y L <;> rfl
  rw [hdd]
  generalize ab_Z S Y2 (ab_XS S Y) (ab_XS S Y) (ab_DS S Y) 16 16 = Z at z1 z2 z3 z4 org hz ⊢
  generalize ab_1 (ab_DS S Y L) = d at hd hd01 org hz z4 ⊢
  have fin : ∀ a x : Int, (a = 0 ∨ a = 1) → Z 14 L = S 14 L - d + a → (a = 1 → (if Z 20 (4 * L + (S 14 L - d).toNat) = (f : Int) then (1 : Int) else 0) = x) → (∀ j : Nat, (j : Int) < S 14 L - d → Z 20 (4 * L + j) = S 20 (4 * L + (j + d.toNat))) → cn Z f L = cn S f L - (if d = 1 then (if S 20 (4 * L) = (f : Int) then 1 else 0) else 0) + (if a = 1 then x else 0) := fun a x ha hZ hx hj => by
    have := ct_step (e := fun j => if S 20 (4 * L + j) = (f : Int) then 1 else 0) (e' := fun j => if Z 20 (4 * L + j) = (f : Int) then 1 else 0) (n := S 14 L) (d := d) (a := a) (x := x) ⟨hs.1, hs.2.1⟩ hd01 ha hd.2.2 (by omega) (fun j hj' => by
      show (if Z 20 (4 * L + j) = (f : Int) then (1 : Int) else 0) = if S 20 (4 * L + (j + d.toNat)) = (f : Int) then 1 else 0
      rw [hj j hj']) hx
    unfold cn
    rw [hZ, this]
    rfl
  have old : ∀ j : Nat, (j : Int) < S 14 L - d → (j : Int) < Z 14 L → Z 20 (4 * L + j) = S 20 (4 * L + (j + d.toNat)) := fun j h1 h2 => by
    rcases org j h2 with o | o | o
    · exact o.2 0 (by omega)
    · omega
    · omega
  by_cases h16 : L < 16
  · rw [if_pos h16] at hz
    rw [if_pos h16]
    by_cases hF : ab_F S L = -1
    · have c : ¬ (L < 16 ∧ ¬ ab_F S L = -1) := fun z => z.2 hF
      rw [if_neg c] at hz
      have := fin 0 0 (Or.inl rfl) hz (fun z => by omega) (fun j hj => old j hj (by omega))
      rw [this, if_neg (show ¬ ab_F S L = (f : Int) by omega)]
      rfl
    · rw [if_pos ⟨h16, hF⟩] at hz
      have fF := F_fact h hF
      have hnew := org (S 14 L - d).toNat (by omega)
      have := fin 1 (if ab_F S L = (f : Int) then 1 else 0) (Or.inr rfl) hz (fun _ => by
        rcases hnew with o | o | o
        · omega
        · have e := o.2.2.2 0 (by omega)
          rw [Nat.add_zero] at e
          rw [e]
          have e2 : ab_pk S (ab_F S L).toNat 0 = ab_F S L := by
            show (((ab_F S L).toNat : Nat) : Int) = _
            omega
          rw [e2]
        · omega) (fun j hj => old j hj (by omega))
      rw [this]
      rfl
  · rw [if_neg h16] at hz
    rw [if_neg h16]
    cases hX : ab_XS S Y L with
    | false =>
      rw [hX, ab_1f] at hz
      have := fin 0 0 (Or.inl rfl) hz (fun z => by omega) (fun j hj => old j hj (by omega))
      rw [this]
      rfl
    | true =>
      rw [hX, ab_1t] at hz
      have hnew := org (S 14 L - d).toNat (by omega)
      have := fin 1 (if S 20 (4 * ab_qat L (ab_pick S L).toNat) = (f : Int) then 1 else 0) (Or.inr rfl) hz (fun _ => by
        rcases hnew with o | o | o
        · omega
        · omega
        · have e := o.2.2.2 0 (by omega)
          simp only [Nat.add_zero] at e
          rw [e]) (fun j hj => old j hj (by omega))
      rw [this]
      rfl
theorem Z_tt (h : ab_I S b) {Y2 : Nat → Bool} {f : Nat} (hf : (f : Int) < S 19 4) : tt (ab_Z S Y2 (ab_XS S (yk 64)) (ab_XS S (yk 64)) (ab_DS S (yk 64)) 16 16) f = tt S f + (if (S 0 f).toNat < 16 ∧ ab_F S (S 0 f).toNat = (f : Int) then 1 else 0) := by
  unfold tt
  rw [am_sum_cg (fun L hL => Z_cn h (Y2 := Y2) (Y := yk 64) f hL), sm_add, sm_sub]
  have hg := gm h (fun q => if S 20 (4 * q) = (f : Int) then 1 else 0) 48 (by omega)
  rw [show 16 + 48 = 64 from rfl] at hg
  rw [hg]
  have i0 := (h.2.2.1 f hf).1
  have hsp : am_sum (fun L => if L < 16 then (if ab_F S L = (f : Int) then (1 : Int) else 0) else (if ab_XS S (yk 64) L = true then (if S 20 (4 * ab_qat L (ab_pick S L).toNat) = (f : Int) then 1 else 0) else 0)) 64 =
      am_sum (fun L => if ab_XS S (yk 64) L = true then (if S 20 (4 * ab_qat L (ab_pick S L).toNat) = (f : Int) then (1 : Int) else 0) else 0) 64 + am_sum (fun L => if L = (S 0 f).toNat then (if ab_F S (S 0 f).toNat = (f : Int) then (1 : Int) else 0) else 0) 64 := by
    rw [← sm_add]
    refine am_sum_cg (fun L hL => ?_)
    by_cases h16 : L < 16
    · have : ab_XS S (yk 64) L = false := XS_no (by
        unfold yk
        have : ¬ (16 ≤ L ∧ L < 64) := by omega
        simp [this])
      rw [if_pos h16, this, if_neg (show ¬ (false = true) by decide), Int.zero_add]
      by_cases q : L = (S 0 f).toNat
      · rw [if_pos q, q]
      · rw [if_neg q, if_neg]
        intro z
        have fF := F_fact h (k := L) (by omega)
        have := (may_fact fF.2.2.2).1
        rw [z, Int.toNat_natCast] at this
        omega
    · rw [if_neg h16, if_neg (show ¬ L = (S 0 f).toNat by omega), Int.add_zero]
  rw [hsp, sm_one _ (by omega)]
  have c : ((S 0 f).toNat < 16 ∧ ab_F S (S 0 f).toNat = (f : Int)) = (ab_F S (S 0 f).toNat = (f : Int)) := propext ⟨fun z => z.2, fun z => ⟨by omega, z⟩⟩
  simp only [c]
  show am_sum (fun L => cn S f L) 64 - _ + (_ + _) = am_sum (fun L => cn S f L) 64 + _
  omega
end PZ
