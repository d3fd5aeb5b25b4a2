/-! the law's cases: what the two sides answer -/
theorem lI_35 {S : ab_S} {σ ρ : am_M} (h : lI S σ ρ) : ρ 20 0 35 = S 19 5 := h.2.1.1.2.2.2.2.2
def lE (σ' ρ' : am_M) (k : Int) (v' : Int64) (x : Int) : Prop := (∃ S', lI S' σ' ρ') ∧ ρ' 20 0 35 = k ∧ (k = 0 → v' = (Int32.ofInt x).toInt64)
/-- a question that one kind of exception may answer -/
theorem lE_get {S : ab_S} {σ ρ σ' ρ' : am_M} {v v' : Int64} {k x y : Int} {B : Prop} {E0 : String} (hE0 : lK E0 = 1) (h : lI S σ ρ)
    (hw : (k = 0 ∧ ∃ r : Int, v' = (Int32.ofInt r).toInt64 ∧ (σ' = σ ∧ B ∧ r = y)) ∨ (∃ E, (E = E0 ∧ ¬ B) ∧ σ' = σ ∧ v' = v ∧ k = lK E))
    (hm : (B ∧ ab_R (ab_u S 19 5 0) ρ' ∧ x = y) ∨ (¬ B ∧ ab_R (ab_u S 19 5 1) ρ')) : lE σ' ρ' k v' x := by
  have e : ∀ z : Int, ab_u S 19 5 z 19 5 = z := fun z => by simp [ab_u]
  rcases hw with ⟨rfl, r, rfl, rfl, hB, rfl⟩ | ⟨E, ⟨rfl, hB⟩, rfl, rfl, rfl⟩
  · rcases hm with ⟨-, hR, rfl⟩ | ⟨hn, -⟩
    · have hi := lI_th h hR
      exact ⟨⟨_, hi⟩, (lI_35 hi).trans (e 0), fun _ => rfl⟩
    · exact absurd hB hn
  · rcases hm with ⟨hB2, -⟩ | ⟨-, hR⟩
    · exact absurd hB2 hB
    · have hi := lI_th h hR
      exact ⟨⟨_, hi⟩, ((lI_35 hi).trans (e 1)).trans hE0.symm, fun h0 => by rw [hE0] at h0; cases h0⟩
theorem lK_IA : lK "java/lang/IllegalArgumentException" = 1 := by decide
theorem lK_IO : lK "java/lang/IndexOutOfBoundsException" = 1 := by decide
theorem lK_IS : lK "java/lang/IllegalStateException" = 2 := by decide
/-- a change that two kinds of exceptions may answer -/
theorem lE_two {S T T' : ab_S} {σ ρ σ' ρ' : am_M} {v v' : Int64} {k x y y' : Int} {B D : Prop} (h : lI S σ ρ) (hT5 : T' 19 5 = 0) (hy : B → D → y = y')
    (hI : B → D → ab_C T σ' → ab_R T' ρ' → lI T' σ' ρ')
    (hw : (k = 0 ∧ ∃ r : Int, v' = (Int32.ofInt r).toInt64 ∧ (B ∧ D ∧ ab_C T σ' ∧ r = y)) ∨ (∃ E, ((E = "java/lang/IllegalArgumentException" ∧ ¬ B) ∨ (E = "java/lang/IllegalStateException" ∧ B ∧ ¬ D)) ∧ σ' = σ ∧ v' = v ∧ k = lK E))
    (hm : (B ∧ D ∧ ab_R T' ρ' ∧ x = y') ∨ (¬ B ∧ ab_R (ab_u S 19 5 1) ρ') ∨ (B ∧ ¬ D ∧ ab_R (ab_u S 19 5 2) ρ')) : lE σ' ρ' k v' x := by
  have e : ∀ z : Int, ab_u S 19 5 z 19 5 = z := fun z => by simp [ab_u]
  rcases hw with ⟨rfl, r, rfl, hB, hD, hC, rfl⟩ | ⟨E, ⟨rfl, hB⟩ | ⟨rfl, hB, hD⟩, rfl, rfl, rfl⟩
  · rcases hm with ⟨-, -, hR, rfl⟩ | ⟨hn, -⟩ | ⟨-, hn, -⟩
    · have hi := hI hB hD hC hR
      exact ⟨⟨_, hi⟩, (lI_35 hi).trans hT5, fun _ => by rw [hy hB hD]⟩
    · exact absurd hB hn
    · exact absurd hD hn
  · rcases hm with ⟨hB2, -⟩ | ⟨-, hR⟩ | ⟨hB2, -⟩
    · exact absurd hB2 hB
    · have hi := lI_th h hR
      exact ⟨⟨_, hi⟩, ((lI_35 hi).trans (e 1)).trans lK_IA.symm, fun h0 => by rw [lK_IA] at h0; cases h0⟩
    · exact absurd hB2 hB
  · rcases hm with ⟨-, hD2, -⟩ | ⟨hn, -⟩ | ⟨-, -, hR⟩
    · exact absurd hD2 hD
    · exact absurd hB hn
    · have hi := lI_th h hR
      exact ⟨⟨_, hi⟩, ((lI_35 hi).trans (e 2)).trans lK_IS.symm, fun h0 => by rw [lK_IS] at h0; cases h0⟩
